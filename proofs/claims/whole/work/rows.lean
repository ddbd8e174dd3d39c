section
/-! counting; the cut condition; the arc that may be taken (Edmonds, Lovász's proof) -/
def ed_b (x : Bool) : Nat := if x then 1 else 0
theorem ed_bt : ed_b true = 1 := rfl
theorem ed_bf : ed_b false = 0 := rfl
def ed_ct (f : Nat → Bool) : Nat → Nat
  | 0 => 0
  | n + 1 => ed_ct f n + ed_b (f n)
theorem ed_ct_s (f : Nat → Bool) (n : Nat) : ed_ct f (n + 1) = ed_ct f n + ed_b (f n) := rfl
theorem ed_b_le (x : Bool) : ed_b x ≤ 1 := by cases x <;> decide
theorem ed_ct_le (f : Nat → Bool) (n : Nat) : ed_ct f n ≤ n := by
  induction n with
  | zero => exact Nat.le_refl _
  | succ n ih =>
    have h := ed_b_le (f n)
    rw [ed_ct_s]
    omega
theorem ed_ct_congr {f g : Nat → Bool} {n : Nat} (h : ∀ e, e < n → f e = g e) : ed_ct f n = ed_ct g n := by
  induction n with
  | zero => rfl
  | succ n ih =>
    rw [ed_ct_s, ed_ct_s, ih (fun e he => h e (by omega)), h n (by omega)]
theorem ed_ct_two {f g f' g' : Nat → Bool} {n : Nat} (h : ∀ e, e < n → ed_b (f e) + ed_b (g e) ≤ ed_b (f' e) + ed_b (g' e)) : ed_ct f n + ed_ct g n ≤ ed_ct f' n + ed_ct g' n := by
  induction n with
  | zero => exact Nat.le_refl _
  | succ n ih =>
    have h1 := ih (fun e he => h e (by omega))
    have h2 := h n (by omega)
    rw [ed_ct_s, ed_ct_s, ed_ct_s, ed_ct_s]
    omega
theorem ed_b_mono : ∀ x y : Bool, (x = true → y = true) → ed_b x ≤ ed_b y := by decide
theorem ed_ct_mono {f f' : Nat → Bool} {n : Nat} (h : ∀ e, e < n → f e = true → f' e = true) : ed_ct f n ≤ ed_ct f' n := by
  induction n with
  | zero => exact Nat.le_refl _
  | succ n ih =>
    have h1 := ih (fun e he => h e (by omega))
    have h2 := ed_b_mono _ _ (h n (by omega))
    rw [ed_ct_s, ed_ct_s]
    omega
theorem ed_ct_0 (n : Nat) : ed_ct (fun _ => false) n = 0 := by
  induction n with
  | zero => rfl
  | succ n ih => rw [ed_ct_s, ih, ed_bf]
theorem ed_ct_ex {f g : Nat → Bool} {n : Nat} (h : ed_ct g n < ed_ct f n) : ∃ e, e < n ∧ f e = true ∧ g e = false := by
  induction n with
  | zero => exact absurd h (Nat.lt_irrefl 0)
  | succ n ih =>
    by_cases hc : ed_ct g n < ed_ct f n
    · obtain ⟨e, h1, h2⟩ := ih hc
      exact ⟨e, by omega, h2⟩
    · refine ⟨n, by omega, ?_⟩
      rw [ed_ct_s, ed_ct_s] at h
      cases hf : f n with
      | false =>
        rw [hf, ed_bf] at h
        omega
      | true =>
        cases hg : g n with
        | true =>
          rw [hf, hg] at h
          omega
        | false => exact ⟨rfl, rfl⟩
theorem ed_ct_del {f g : Nat → Bool} {n k : Nat} (hk : k < n) (hf : f k = true) (hg : g k = false) (ho : ∀ e, e < n → e ≠ k → g e = f e) : ed_ct g n + 1 = ed_ct f n := by
  induction n with
  | zero => omega
  | succ n ih =>
    rw [ed_ct_s, ed_ct_s]
    by_cases hkn : k = n
    · subst hkn
      rw [hf, hg, ed_ct_congr (g := f) (fun e he => ho e (by omega) (by omega)), ed_bt, ed_bf]
    · have h1 := ih (by omega) (fun e he hn => ho e (by omega) hn)
      rw [ho n (by omega) (by omega)]
      omega
theorem ed_ct_pos {f : Nat → Bool} {n k : Nat} (hk : k < n) (hf : f k = true) : 0 < ed_ct f n := by
  induction n with
  | zero => omega
  | succ n ih =>
    rw [ed_ct_s]
    by_cases hkn : k = n
    · subst hkn
      rw [hf, ed_bt]
      omega
    · have h1 := ih (by omega)
      omega
def ed_en (T H : Nat → Nat) (X e : Nat) : Bool := X.testBit (H e) && !X.testBit (T e)
def ed_rho (T H : Nat → Nat) (a : Nat) (u : Nat → Bool) (X : Nat) : Nat := ed_ct (fun e => !u e && ed_en T H X e) a
def ed_q (R : Nat → Nat) (b k X : Nat) : Nat := ed_ct (fun j => decide (k < j) && (R j &&& X == 0)) b
def ed_p (R : Nat → Nat) (b k had X : Nat) : Nat := ed_b (had &&& X == 0) + ed_q R b k X
def ed_ok (n : Nat) (T H : Nat → Nat) (a : Nat) (R : Nat → Nat) (b k had : Nat) (u : Nat → Bool) : Prop := ∀ X, 0 < X → X < 2 ^ n → ed_p R b k had X ≤ ed_rho T H a u X
theorem ed_and0 {x y : Nat} (h : x &&& y = 0) {i : Nat} (hx : x.testBit i = true) : y.testBit i = false := by
  have h1 := congrArg (fun z => Nat.testBit z i) h
  simp only [Nat.testBit_and, Nat.zero_testBit, hx, Bool.true_and] at h1
  exact h1
theorem ed_and1 {x y i : Nat} (hx : x.testBit i = true) (hy : y.testBit i = true) : x &&& y ≠ 0 := fun h => by
  have h1 := ed_and0 h hx
  rw [hy] at h1
  cases h1
theorem ed_beq {x : Nat} : (x == 0) = true ↔ x = 0 := beq_iff_eq
theorem ed_beqf {x : Nat} (h : x ≠ 0) : (x == 0) = false := beq_false_of_ne h
theorem ed_q_anti {R : Nat → Nat} {b k X Z : Nat} (h : Z &&& X = Z) : ed_q R b k X ≤ ed_q R b k Z := by
  apply ed_ct_mono
  intro j _ hj
  rw [Bool.and_eq_true, ed_beq] at hj ⊢
  refine ⟨hj.1, ?_⟩
  rw [← h, Nat.and_comm Z X, ← Nat.and_assoc, hj.2, Nat.zero_and]
theorem ed_b4 : ∀ x y z w : Bool, (x = true → z = true) → (y = true → z = true) → (x = true → y = true → w = true) → ed_b x + ed_b y ≤ ed_b z + ed_b w := by decide
theorem ed_q_super (R : Nat → Nat) (b k X Y : Nat) : ed_q R b k X + ed_q R b k Y ≤ ed_q R b k (X &&& Y) + ed_q R b k (X ||| Y) := by
  apply ed_ct_two
  intro j _
  apply ed_b4
  · intro h
    rw [Bool.and_eq_true, ed_beq] at h ⊢
    exact ⟨h.1, by rw [← Nat.and_assoc, h.2, Nat.zero_and]⟩
  · intro h
    rw [Bool.and_eq_true, ed_beq] at h ⊢
    exact ⟨h.1, by rw [Nat.and_comm X Y, ← Nat.and_assoc, h.2, Nat.zero_and]⟩
  · intro h h'
    rw [Bool.and_eq_true, ed_beq] at h h' ⊢
    exact ⟨h.1, by rw [Nat.and_or_distrib_left, h.2, h'.2]; rfl⟩
theorem ed_b5 : ∀ u hx hy tx ty : Bool, ed_b (!u && ((hx && hy) && !(tx && ty))) + ed_b (!u && ((hx || hy) && !(tx || ty))) ≤ ed_b (!u && (hx && !tx)) + ed_b (!u && (hy && !ty)) := by decide
theorem ed_rho_sub (T H : Nat → Nat) (a : Nat) (u : Nat → Bool) (X Y : Nat) : ed_rho T H a u (X &&& Y) + ed_rho T H a u (X ||| Y) ≤ ed_rho T H a u X + ed_rho T H a u Y := by
  apply ed_ct_two
  intro e _
  simp only [ed_en, Nat.testBit_and, Nat.testBit_or]
  exact ed_b5 _ _ _ _ _
theorem ed_rho_in {T H : Nat → Nat} {a e : Nat} {u u' : Nat → Bool} (he : e < a) (hu : u e = false) (hu1 : u' e = true) (hu2 : ∀ i, i < a → i ≠ e → u' i = u i) {X : Nat} (hX : ed_en T H X e = true) : ed_rho T H a u' X + 1 = ed_rho T H a u X := by
  apply ed_ct_del he
  · show (!u e && ed_en T H X e) = true
    rw [hu, hX]
    rfl
  · show (!u' e && ed_en T H X e) = false
    rw [hu1]
    rfl
  · intro i hi hn
    show (!u' i && ed_en T H X i) = (!u i && ed_en T H X i)
    rw [hu2 i hi hn]
theorem ed_rho_out {T H : Nat → Nat} {a e : Nat} {u u' : Nat → Bool} (hu2 : ∀ i, i < a → i ≠ e → u' i = u i) {X : Nat} (hX : ed_en T H X e = false) : ed_rho T H a u' X = ed_rho T H a u X := by
  apply ed_ct_congr
  intro i hi
  show (!u' i && ed_en T H X i) = (!u i && ed_en T H X i)
  by_cases hn : i = e
  · subst hn
    rw [hX, Bool.and_false, Bool.and_false]
  · rw [hu2 i hi hn]
theorem ed_child {n a b k had e : Nat} {T H R : Nat → Nat} {u u' : Nat → Bool} (hok : ed_ok n T H a R b k had u) (he : e < a) (hu : u e = false) (hu1 : u' e = true) (hu2 : ∀ i, i < a → i ≠ e → u' i = u i) :
    ed_ok n T H a R b k (had ||| 2 ^ H e) u' ↔ ∀ X, 0 < X → X < 2 ^ n → had &&& X ≠ 0 → ed_en T H X e = true → ed_q R b k X < ed_rho T H a u X := by
  have hp : ∀ X, ed_en T H X e = true → ed_p R b k (had ||| 2 ^ H e) X = ed_q R b k X := by
    intro X hX
    have hb : X.testBit (H e) = true := by
      rw [ed_en, Bool.and_eq_true] at hX
      exact hX.1
    have h1 : (had ||| 2 ^ H e).testBit (H e) = true := by rw [Nat.testBit_or, Nat.testBit_two_pow_self, Bool.or_true]
    rw [ed_p, ed_beqf (ed_and1 h1 hb), ed_bf, Nat.zero_add]
  constructor
  · intro h X h0 h1 h2 h3
    have h4 := h X h0 h1
    rw [hp X h3] at h4
    have h5 := ed_rho_in he hu hu1 hu2 h3
    omega
  · intro h X h0 h1
    have h4 := hok X h0 h1
    cases h3 : ed_en T H X e with
    | true =>
      rw [hp X h3]
      have h5 := ed_rho_in he hu hu1 hu2 h3
      by_cases h2 : had &&& X = 0
      · rw [ed_p, h2] at h4
        have h6 : ed_b ((0 : Nat) == 0) = 1 := rfl
        omega
      · have h6 := h X h0 h1 h2 h3
        omega
    | false =>
      rw [ed_rho_out hu2 h3]
      refine Nat.le_trans ?_ h4
      rw [ed_p, ed_p]
      refine Nat.add_le_add_right (ed_b_mono _ _ ?_) _
      intro h5
      rw [ed_beq] at h5 ⊢
      rw [Nat.and_or_distrib_right] at h5
      exact (Nat.or_eq_zero_iff.mp h5).1
theorem ed_hi {x n i : Nat} (hx : x < 2 ^ n) (hi : n ≤ i) : x.testBit i = false := Nat.testBit_lt_two_pow (Nat.lt_of_lt_of_le hx (Nat.pow_le_pow_right (by decide) hi))
theorem ed_in {x n i : Nat} (hx : x < 2 ^ n) (hi : x.testBit i = true) : i < n := by
  rcases Nat.lt_or_ge i n with h | h
  · exact h
  · rw [ed_hi hx h] at hi
    cases hi
theorem ed_exists {n a b k had : Nat} {T H R : Nat → Nat} {u : Nat → Bool} (hok : ed_ok n T H a R b k had u) (hT : ∀ e, e < a → T e < n) (hh : had < 2 ^ n) (hne : had ≠ 2 ^ n - 1) :
    ∃ e, e < a ∧ u e = false ∧ had.testBit (T e) = true ∧ had.testBit (H e) = false ∧ ∀ X, 0 < X → X < 2 ^ n → had &&& X ≠ 0 → ed_en T H X e = true → ed_q R b k X < ed_rho T H a u X := by
  by_cases ht : ∃ X, 0 < X ∧ X < 2 ^ n ∧ had &&& X ≠ 0 ∧ X &&& had ≠ X ∧ ed_rho T H a u X ≤ ed_q R b k X
  · obtain ⟨X, ⟨h0, h1, h2, h3, h4⟩, hmin⟩ := pk_least _ ht
    have hZb : ∀ i, (X ^^^ (X &&& had)).testBit i = (X.testBit i && !had.testBit i) := by
      intro i
      rw [Nat.testBit_xor, Nat.testBit_and]
      cases X.testBit i <;> cases had.testBit i <;> rfl
    generalize X ^^^ (X &&& had) = Z at hZb
    have hZ0 : Z ≠ 0 := by
      intro hz
      apply h3
      apply Nat.eq_of_testBit_eq
      intro i
      have h5 := hZb i
      rw [hz, Nat.zero_testBit] at h5
      rw [Nat.testBit_and]
      revert h5
      cases X.testBit i <;> cases had.testBit i <;> decide
    have hZn : Z < 2 ^ n := by
      apply Nat.lt_pow_two_of_testBit
      intro i hi
      rw [hZb i, ed_hi h1 hi, Bool.false_and]
    have hZX : Z &&& X = Z := by
      apply Nat.eq_of_testBit_eq
      intro i
      rw [Nat.testBit_and, hZb i]
      cases X.testBit i <;> cases had.testBit i <;> rfl
    have hZh : had &&& Z = 0 := by
      apply Nat.eq_of_testBit_eq
      intro i
      rw [Nat.testBit_and, hZb i, Nat.zero_testBit]
      cases X.testBit i <;> cases had.testBit i <;> rfl
    have h6 := hok Z (Nat.pos_of_ne_zero hZ0) hZn
    rw [ed_p, hZh] at h6
    have h7 : ed_b ((0 : Nat) == 0) = 1 := rfl
    have h8 := ed_q_anti (R := R) (b := b) (k := k) hZX
    obtain ⟨e, he, hf, hg⟩ := ed_ct_ex (f := fun e => !u e && ed_en T H Z e) (g := fun e => !u e && ed_en T H X e) (n := a) (by
      show ed_rho T H a u X < ed_rho T H a u Z
      omega)
    have hu : u e = false := by
      revert hf
      cases u e
      · intro _
        rfl
      · intro hf
        exact absurd hf (by simp)
    have hf : ed_en T H Z e = true := by
      have hf' : (!u e && ed_en T H Z e) = true := hf
      rw [hu] at hf'
      exact hf'
    have hg : ed_en T H X e = false := by
      have hg' : (!u e && ed_en T H X e) = false := hg
      rw [hu] at hg'
      exact hg'
    rw [ed_en, hZb, hZb] at hf
    rw [ed_en] at hg
    have hb : X.testBit (H e) = true ∧ had.testBit (H e) = false ∧ X.testBit (T e) = true ∧ had.testBit (T e) = true := by
      revert hf hg
      cases X.testBit (H e) <;> cases had.testBit (H e) <;> cases X.testBit (T e) <;> cases had.testBit (T e) <;> decide
    obtain ⟨b1, b2, b3, b4⟩ := hb
    refine ⟨e, he, hu, b4, b2, ?_⟩
    intro Y y0 y1 y2 y3
    rw [ed_en, Bool.and_eq_true] at y3
    obtain ⟨y3, y4⟩ := y3
    have y4 : Y.testBit (T e) = false := by
      revert y4
      cases Y.testBit (T e) <;> decide
    rcases Nat.lt_or_ge (ed_q R b k Y) (ed_rho T H a u Y) with y5 | y5
    · exact y5
    · exfalso
      have w1 := ed_rho_sub T H a u X Y
      have w2 := ed_q_super R b k X Y
      have hW0 : 0 < X &&& Y := Nat.pos_of_ne_zero (ed_and1 b1 y3)
      have hWn : X &&& Y < 2 ^ n := Nat.and_lt_two_pow _ y1
      have hVn : X ||| Y < 2 ^ n := Nat.or_lt_two_pow h1 y1
      have hV0 : 0 < X ||| Y := Nat.lt_of_lt_of_le h0 Nat.left_le_or
      have w3 := hok _ hW0 hWn
      have w4 := hok _ hV0 hVn
      rw [ed_p] at w3 w4
      have w5 : had &&& (X &&& Y) ≠ 0 := by
        intro hz
        rw [hz] at w3
        omega
      refine hmin (X &&& Y) ?_ ⟨hW0, hWn, w5, ?_, by omega⟩
      · have hle : X &&& Y ≤ X := Nat.and_le_left
        have hn : X &&& Y ≠ X := by
          intro hz
          have hz' := congrArg (fun z => Nat.testBit z (T e)) hz
          simp only [Nat.testBit_and, b3, y4, Bool.and_false] at hz'
          cases hz'
        omega
      · intro hz
        have hz' := congrArg (fun z => Nat.testBit z (H e)) hz
        simp only [Nat.testBit_and, b1, b2, y3, Bool.and_false, Bool.and_true] at hz'
        cases hz'
  · have hYb : ∀ i, ((2 ^ n - 1) ^^^ had).testBit i = (decide (i < n) && !had.testBit i) := by
      intro i
      rw [Nat.testBit_xor, Nat.testBit_two_pow_sub_one]
      rcases Nat.lt_or_ge i n with h | h
      · rw [decide_eq_true h]
        cases had.testBit i <;> rfl
      · rw [decide_eq_false (by omega), ed_hi hh h]
        rfl
    have hY0 : (2 ^ n - 1) ^^^ had ≠ 0 := by
      intro hz
      apply hne
      apply Nat.eq_of_testBit_eq
      intro i
      have h5 := hYb i
      rw [hz, Nat.zero_testBit] at h5
      rw [Nat.testBit_two_pow_sub_one]
      rcases Nat.lt_or_ge i n with h | h
      · rw [decide_eq_true h] at h5 ⊢
        revert h5
        cases had.testBit i <;> decide
      · rw [decide_eq_false (by omega), ed_hi hh h]
    generalize (2 ^ n - 1) ^^^ had = Y at hYb hY0
    have hYn : Y < 2 ^ n := by
      apply Nat.lt_pow_two_of_testBit
      intro i hi
      rw [hYb i, decide_eq_false (by omega), Bool.false_and]
    have hYh : had &&& Y = 0 := by
      apply Nat.eq_of_testBit_eq
      intro i
      rw [Nat.testBit_and, hYb i, Nat.zero_testBit]
      cases had.testBit i
      · rfl
      · rw [Bool.not_true, Bool.and_false, Bool.and_false]
    have h6 := hok Y (Nat.pos_of_ne_zero hY0) hYn
    rw [ed_p, hYh] at h6
    have h7 : ed_b ((0 : Nat) == 0) = 1 := rfl
    obtain ⟨e, he, hf, -⟩ := ed_ct_ex (f := fun e => !u e && ed_en T H Y e) (g := fun _ => false) (n := a) (by
      show ed_ct (fun _ => false) a < ed_rho T H a u Y
      rw [ed_ct_0]
      omega)
    have hf : (!u e && ed_en T H Y e) = true := hf
    rw [Bool.and_eq_true, ed_en, hYb, hYb, decide_eq_true (hT e he)] at hf
    obtain ⟨hu, hf⟩ := hf
    have hu : u e = false := by
      revert hu
      cases u e <;> decide
    have hb : had.testBit (H e) = false ∧ had.testBit (T e) = true := by
      revert hf
      generalize decide (H e < n) = z
      revert z
      cases had.testBit (H e) <;> cases had.testBit (T e) <;> decide
    refine ⟨e, he, hu, hb.2, hb.1, ?_⟩
    intro X y0 y1 y2 y3
    rcases Nat.lt_or_ge (ed_q R b k X) (ed_rho T H a u X) with y5 | y5
    · exact y5
    · exfalso
      apply ht
      refine ⟨X, y0, y1, y2, ?_, y5⟩
      intro hz
      rw [ed_en, Bool.and_eq_true] at y3
      have hz' := congrArg (fun z => Nat.testBit z (H e)) hz
      simp only [Nat.testBit_and, hb.1, y3.1, Bool.and_false] at hz'
      cases hz'
end
section
/-! Java's numbers: bits (the first two families turned from the kit's rows to paste), find, the run of the packing -/
theorem bi_sl : ∀ n, n < 32 → ((nI n &&& 31).toBitVec.smod 32).toNat = n := by decide +kernel
theorem bi_sh : ∀ v, v < 31 → (1 : Int32) <<< (nI v &&& 31) = nI (2 ^ v) := by decide +kernel
theorem bi_and (a b : Nat) : nI a &&& nI b = nI (a &&& b) := by
  apply Int32.toBitVec_inj.1
  show BitVec.ofNat 32 a &&& BitVec.ofNat 32 b = BitVec.ofNat 32 (a &&& b)
  apply BitVec.eq_of_getLsbD_eq
  intro i hi
  simp [hi]
theorem bi_or (a b : Nat) : nI a ||| nI b = nI (a ||| b) := by
  apply Int32.toBitVec_inj.1
  show BitVec.ofNat 32 a ||| BitVec.ofNat 32 b = BitVec.ofNat 32 (a ||| b)
  apply BitVec.eq_of_getLsbD_eq
  intro i hi
  simp [hi]
theorem bi_xor (a b : Nat) : nI a ^^^ nI b = nI (a ^^^ b) := by
  apply Int32.toBitVec_inj.1
  show BitVec.ofNat 32 a ^^^ BitVec.ofNat 32 b = BitVec.ofNat 32 (a ^^^ b)
  apply BitVec.eq_of_getLsbD_eq
  intro i hi
  simp [hi]
theorem bi_bit0 {X v : Nat} : X &&& 2 ^ v = 0 ↔ X.testBit v = false := by
  constructor
  · intro h
    have h1 := congrArg (fun z => Nat.testBit z v) h
    simp only [Nat.testBit_and, Nat.zero_testBit, Nat.testBit_two_pow_self, Bool.and_true] at h1
    exact h1
  · intro h
    apply Nat.eq_of_testBit_eq
    intro i
    rw [Nat.testBit_and, Nat.testBit_two_pow, Nat.zero_testBit]
    by_cases hi : v = i
    · subst hi
      rw [h, Bool.false_and]
    · rw [decide_eq_false hi, Bool.and_false]
theorem bi_z {X Y : Nat} (hX : X < 2 ^ 31) : nI X &&& nI Y = 0 ↔ X &&& Y = 0 := by
  rw [bi_and, ← nI_0, nI_eq (Nat.lt_of_le_of_lt Nat.and_le_left hX) (by decide)]
theorem bi_tb {X v : Nat} (hX : X < 2 ^ 31) (hv : v < 31) : nI X &&& (1 : Int32) <<< (nI v &&& 31) = 0 ↔ X.testBit v = false := by
  rw [bi_sh v hv, bi_z hX, bi_bit0]
theorem bi_tn {X v : Nat} (hX : X < 2 ^ 31) (hv : v < 31) : ¬ nI X &&& (1 : Int32) <<< (nI v &&& 31) = 0 ↔ X.testBit v = true := by
  rw [bi_tb hX hv]
  cases X.testBit v <;> decide
theorem bi_sr {X k : Nat} (hX : X < 2 ^ 31) (hk : k < 32) : nI X >>> (nI k &&& 31) &&& 1 = nI (ed_b (X.testBit k)) := by
  rw [pk_shrN hX (nI k &&& 31) k (bi_sl k hk)]
  show nI (X / 2 ^ k) &&& nI 1 = _
  rw [bi_and, Nat.and_one_is_mod, Nat.testBit_eq_decide_div_mod_eq]
  rcases Nat.mod_two_eq_zero_or_one (X / 2 ^ k) with h | h <;> rw [h] <;> rfl
theorem bi_sr1 {X k : Nat} (hX : X < 2 ^ 31) (hk : k < 32) : nI X >>> (nI k &&& 31) &&& 1 = 1 ↔ X.testBit k = true := by
  rw [bi_sr hX hk]
  cases X.testBit k <;> decide
theorem bi_pw {v n : Nat} (h : v < n) : 2 ^ v < 2 ^ n := Nat.pow_lt_pow_right (by decide) h
theorem bi_p7 {n : Nat} (h : n ≤ 7) : 2 ^ n ≤ 128 := Nat.pow_le_pow_right (n := 2) (by decide) h
theorem bi_all {n : Nat} (h : n ≤ 7) : (1 : Int32) <<< (nI n &&& 31) - 1 = nI (2 ^ n - 1) := by
  rw [bi_sh n (by omega)]
  exact pk_sub (b := 1) (Nat.two_pow_pos n)
/-! the first place -/
def ed_fi (P : Nat → Bool) : Nat → Nat → Nat
  | 0, i => i
  | m + 1, i => if P i = true then i else ed_fi P m (i + 1)
def ed_fd (P : Nat → Bool) (a : Nat) : Nat := ed_fi P a 0
theorem ed_fi_eq (P : Nat → Bool) {e : Nat} (h : P e = true) : ∀ (m i : Nat), i ≤ e → e < i + m → (∀ j, i ≤ j → j < e → P j = false) → ed_fi P m i = e := by
  intro m
  induction m with
  | zero => intro i h1 h2; omega
  | succ m ih =>
    intro i h1 h2 hn
    show (if P i = true then i else ed_fi P m (i + 1)) = e
    by_cases hi : i = e
    · subst hi
      rw [if_pos h]
    · rw [if_neg (by rw [hn i (Nat.le_refl i) (by omega)]; decide)]
      exact ih (i + 1) (by omega) (by omega) (fun j h3 h4 => hn j (by omega) h4)
theorem ed_fi_no (P : Nat → Bool) : ∀ (m i : Nat), (∀ j, i ≤ j → j < i + m → P j = false) → ed_fi P m i = i + m := by
  intro m
  induction m with
  | zero => intro i _; rfl
  | succ m ih =>
    intro i hn
    show (if P i = true then i else ed_fi P m (i + 1)) = i + (m + 1)
    rw [if_neg (by rw [hn i (Nat.le_refl i) (by omega)]; decide), ih (i + 1) (fun j h3 h4 => hn j (by omega) (by omega))]
    omega
theorem ed_fd_eq {P : Nat → Bool} {a e : Nat} (he : e < a) (h : P e = true) (hn : ∀ j, j < e → P j = false) : ed_fd P a = e := ed_fi_eq P h a 0 (by omega) (by omega) (fun j _ h2 => hn j h2)
theorem ed_fd_no {P : Nat → Bool} {a : Nat} (hn : ∀ j, j < a → P j = false) : ed_fd P a = a := by
  rw [ed_fd, ed_fi_no P a 0 (fun j _ h2 => hn j (by omega))]
  omega
theorem ed_fd_ex {P : Nat → Bool} {a : Nat} (h : ∃ e, e < a ∧ P e = true) : ed_fd P a < a ∧ P (ed_fd P a) = true ∧ ∀ j, j < ed_fd P a → P j = false := by
  obtain ⟨e, ⟨h1, h2⟩, hm⟩ := pk_least (fun e => e < a ∧ P e = true) h
  have hn : ∀ j, j < e → P j = false := by
    intro j hj
    cases hp : P j with
    | false => rfl
    | true => exact absurd ⟨by omega, hp⟩ (hm j hj)
  rw [ed_fd_eq h1 h2 hn]
  exact ⟨h1, h2, hn⟩
theorem ed_fd_congr {P Q : Nat → Bool} {a : Nat} (h : ∀ j, j < a → P j = Q j) : ed_fd P a = ed_fd Q a := by
  by_cases he : ∃ e, e < a ∧ P e = true
  · obtain ⟨h1, h2, h3⟩ := ed_fd_ex he
    symm
    exact ed_fd_eq h1 (by rw [← h _ h1]; exact h2) (fun j hj => by rw [← h j (by omega)]; exact h3 j hj)
  · have hP : ∀ j, j < a → P j = false := by
      intro j hj
      cases hp : P j with
      | false => rfl
      | true => exact absurd ⟨j, hj, hp⟩ he
    rw [ed_fd_no hP, ed_fd_no (fun j hj => by rw [← h j hj]; exact hP j hj)]
/-! ORDER -/
def or_pop (X : Nat) : Nat := ed_ct X.testBit 7
def or_dif (X Y : Nat) : Nat := ed_fd (fun v => X.testBit v != Y.testBit v) 7
def or_bf (X Y : Nat) : Bool := if or_pop X = or_pop Y then decide (or_dif X Y < 7) && X.testBit (or_dif X Y) else decide (or_pop X < or_pop Y)
theorem or_low : ∀ D, D < 128 → nI D &&& -(nI D) = nI (if ed_fd (Nat.testBit D) 7 < 7 then 2 ^ ed_fd (Nat.testBit D) 7 else 0) := by decide +kernel
theorem or_dx (X Y : Nat) : or_dif X Y = ed_fd (Nat.testBit (X ^^^ Y)) 7 := by
  apply ed_fd_congr
  intro j _
  rw [Nat.testBit_xor]
theorem or_same {X Y : Nat} (hX : X < 128) (hY : Y < 128) : (nI X &&& ((nI X ^^^ nI Y) &&& -(nI X ^^^ nI Y)) = 0) ↔ (decide (or_dif X Y < 7) && X.testBit (or_dif X Y)) = false := by
  rw [bi_xor, or_low _ (Nat.xor_lt_two_pow (n := 7) hX hY), ← or_dx, bi_z (by omega)]
  by_cases h : or_dif X Y < 7
  · rw [if_pos h, decide_eq_true h, Bool.true_and, bi_bit0]
  · rw [if_neg h, decide_eq_false h, Bool.false_and, Nat.and_zero]
    exact ⟨fun _ => rfl, fun _ => rfl⟩
/-! the first set that stops -/
def fs_at (stp : Nat → Bool) : Nat → Nat
  | 0 => 0
  | m + 1 => if ((fs_at stp m == 0 || or_bf (m + 1) (fs_at stp m)) && stp (m + 1)) = true then m + 1 else fs_at stp m
theorem fs_le (stp : Nat → Bool) (m : Nat) : fs_at stp m ≤ m := by
  induction m with
  | zero => exact Nat.le_refl _
  | succ m ih =>
    show (if ((fs_at stp m == 0 || or_bf (m + 1) (fs_at stp m)) && stp (m + 1)) = true then m + 1 else fs_at stp m) ≤ m + 1
    split <;> omega
theorem fs_s (stp : Nat → Bool) (m : Nat) : fs_at stp (m + 1) = if ((fs_at stp m == 0 || or_bf (m + 1) (fs_at stp m)) && stp (m + 1)) = true then m + 1 else fs_at stp m := rfl
theorem fs_congr {f g : Nat → Bool} {m : Nat} (h : ∀ X, 0 < X → X ≤ m → f X = g X) : fs_at f m = fs_at g m := by
  induction m with
  | zero => rfl
  | succ m ih => rw [fs_s, fs_s, ih (fun X h0 h1 => h X h0 (by omega)), h (m + 1) (by omega) (by omega)]
theorem fs_0 (stp : Nat → Bool) (m : Nat) : fs_at stp m = 0 ↔ ∀ X, 0 < X → X ≤ m → stp X = false := by
  induction m with
  | zero => exact ⟨fun _ X h0 h1 => by omega, fun _ => rfl⟩
  | succ m ih =>
    rw [fs_s]
    by_cases h : fs_at stp m = 0
    · rw [h]
      have h1 := ih.mp h
      cases hs : stp (m + 1) with
      | true =>
        constructor
        · intro h2
          rw [show ((0 : Nat) == 0) = true from rfl, Bool.true_or, Bool.true_and, if_pos rfl] at h2
          omega
        · intro h2
          have h3 := h2 (m + 1) (by omega) (by omega)
          rw [hs] at h3
          cases h3
      | false =>
        constructor
        · intro _ X h0 hm
          by_cases hx : X = m + 1
          · rw [hx]
            exact hs
          · exact h1 X h0 (by omega)
        · intro _
          rw [Bool.and_false, if_neg (by decide)]
    · constructor
      · intro h2
        exfalso
        revert h2
        split
        · omega
        · exact h
      · intro h2
        exact absurd (ih.mpr (fun X h0 hm => h2 X h0 (by omega))) h
/-! truth as a number; arrays of naturals -/
theorem zb_0 {B : Bool} : nI (ed_b B) = 0 ↔ B = false := by cases B <;> decide
theorem zb_1 {B : Bool} : nI (ed_b B) = 1 ↔ B = true := by cases B <;> decide
theorem zb_n0 {B : Bool} : ¬ nI (ed_b B) = 0 ↔ B = true := by cases B <;> decide
theorem zb_n (B : Bool) : narrow .boolean (.int (nI (ed_b B))) = .int (nI (ed_b B)) := by cases B <;> rfl
def ar (T : Nat → Nat) : Nat → Int32 := fun i => nI (T i)
def up (T : Nat → Nat) (k v : Nat) : Nat → Nat := fun j => if j = k then v else T j
theorem ar_up (T : Nat → Nat) (k v : Nat) : upd (ar T) k (nI v) = ar (up T k v) := by
  funext j
  rw [ar, up, upd]
  split <;> rfl
theorem ar_at (T : Nat → Nat) {k : Nat} (h : k < 2 ^ 31) : ar T (nI k).toNatClampNeg = nI (T k) := by rw [nI_clamp h, ar]
theorem zb_t {P : Prop} [Decidable P] (h : P) : (1 : Int32) = nI (ed_b (decide P)) := by
  rw [decide_eq_true h]
  rfl
theorem zb_f {P : Prop} [Decidable P] (h : ¬ P) : (0 : Int32) = nI (ed_b (decide P)) := by
  rw [decide_eq_false h]
  rfl
theorem zb_T {B : Bool} (h : B = true) : (1 : Int32) = nI (ed_b B) := by
  rw [h]
  rfl
theorem zb_F {B : Bool} (h : B = false) : (0 : Int32) = nI (ed_b B) := by
  rw [h]
  rfl
theorem ii_1 (e : Nat) : nI e + Int32.ofInt 1 = nI (e + 1) := nI_1 e
theorem ii_m1 {e : Nat} (h : 0 < e) : nI e + Int32.ofInt (-1) = nI (e - 1) := by
  obtain ⟨k, rfl⟩ : ∃ k, e = k + 1 := ⟨e - 1, by omega⟩
  exact pk_m1 k
end
section
/-! the run of the packing: which arc is taken, what is left, how it ends -/
theorem ed_rho_u {T H : Nat → Nat} {a : Nat} {u u' : Nat → Bool} (h : ∀ e, e < a → u e = u' e) (X : Nat) : ed_rho T H a u X = ed_rho T H a u' X := ed_ct_congr (fun e he => by rw [h e he])
theorem ed_ok_u {n a b k had : Nat} {T H R : Nat → Nat} {u u' : Nat → Bool} (h : ∀ e, e < a → u e = u' e) (ho : ed_ok n T H a R b k had u) : ed_ok n T H a R b k had u' := by
  intro X h0 h1
  rw [← ed_rho_u h X]
  exact ho X h0 h1
theorem ed_all_and {n X : Nat} (h : X < 2 ^ n) : (2 ^ n - 1) &&& X = X := by
  rw [Nat.and_comm]
  exact Nat.and_two_pow_sub_one_of_lt_two_pow h
theorem ed_q_last {R : Nat → Nat} {b k X : Nat} (h : b ≤ k + 1) : ed_q R b k X = 0 := by
  rw [ed_q, ed_ct_congr (g := fun _ => false), ed_ct_0]
  intro j hj
  rw [decide_eq_false (by omega), Bool.false_and]
theorem ed_q_next {R : Nat → Nat} {b k X : Nat} (h : k + 1 < b) : ed_q R b k X = ed_b (R (k + 1) &&& X == 0) + ed_q R b (k + 1) X := by
  cases hx : (R (k + 1) &&& X == 0) with
  | true =>
    have h1 := ed_ct_del (f := fun j => decide (k < j) && (R j &&& X == 0)) (g := fun j => decide (k + 1 < j) && (R j &&& X == 0)) h (by rw [decide_eq_true (by omega), hx]; rfl) (by rw [decide_eq_false (by omega)]; rfl) (fun j hj hn => by
      show (decide (k + 1 < j) && (R j &&& X == 0)) = (decide (k < j) && (R j &&& X == 0))
      by_cases hk : k < j
      · rw [decide_eq_true hk, decide_eq_true (by omega)]
      · rw [decide_eq_false hk, decide_eq_false (by omega)])
    rw [ed_bt, ed_q, ed_q]
    omega
  | false =>
    rw [ed_bf, Nat.zero_add]
    apply ed_ct_congr
    intro j hj
    show (decide (k < j) && (R j &&& X == 0)) = (decide (k + 1 < j) && (R j &&& X == 0))
    by_cases hn : j = k + 1
    · subst hn
      rw [hx, Bool.and_false, Bool.and_false]
    · by_cases hk : k < j
      · rw [decide_eq_true hk, decide_eq_true (by omega)]
      · rw [decide_eq_false hk, decide_eq_false (by omega)]
/-- the branching k has all: what is left is the rest -/
theorem ed_next {n a b k : Nat} {T H R : Nat → Nat} {u : Nat → Bool} (hk : k < b) : ed_ok n T H a R b k (2 ^ n - 1) u ↔ (k + 1 = b ∨ ed_ok n T H a R b (k + 1) (R (k + 1)) u) := by
  have hp : ∀ X, 0 < X → X < 2 ^ n → ed_p R b k (2 ^ n - 1) X = ed_q R b k X := by
    intro X h0 h1
    rw [ed_p, ed_all_and h1, ed_beqf (by omega), ed_bf, Nat.zero_add]
  by_cases hb : k + 1 = b
  · constructor
    · intro _
      exact Or.inl hb
    · intro _ X h0 h1
      rw [hp X h0 h1, ed_q_last (by omega)]
      exact Nat.zero_le _
  · constructor
    · intro h
      right
      intro X h0 h1
      have h2 := h X h0 h1
      rw [hp X h0 h1, ed_q_next (by omega)] at h2
      exact h2
    · intro h X h0 h1
      rcases h with h | h
      · exact absurd h hb
      · rw [hp X h0 h1, ed_q_next (by omega)]
        exact h X h0 h1
/-- all branchings at the start: the first one's state -/
def ed_mis (R : Nat → Nat) (b X : Nat) : Nat := ed_ct (fun k => R k &&& X == 0) b
theorem ed_mis_p {R : Nat → Nat} {b X : Nat} (hb : 0 < b) : ed_p R b 0 (R 0) X = ed_mis R b X := by
  rw [ed_p, ed_mis, ed_q]
  cases hx : (R 0 &&& X == 0) with
  | true =>
    have h1 := ed_ct_del (f := fun k => R k &&& X == 0) (g := fun j => decide (0 < j) && (R j &&& X == 0)) hb hx rfl (fun j hj hn => by
      show (decide (0 < j) && (R j &&& X == 0)) = (R j &&& X == 0)
      rw [decide_eq_true (by omega), Bool.true_and])
    rw [ed_bt]
    omega
  | false =>
    rw [ed_bf, Nat.zero_add]
    apply ed_ct_congr
    intro j hj
    show (decide (0 < j) && (R j &&& X == 0)) = (R j &&& X == 0)
    by_cases hn : j = 0
    · subst hn
      rw [hx, Bool.and_false]
    · rw [decide_eq_true (by omega), Bool.true_and]
def ru_ok (n a b : Nat) (T H R : Nat → Nat) (k had : Nat) (u : Nat → Bool) : Bool := (List.range (2 ^ n)).all (fun X => X == 0 || decide (ed_p R b k had X ≤ ed_rho T H a u X))
theorem ru_ok_iff {n a b k had : Nat} {T H R : Nat → Nat} {u : Nat → Bool} : ru_ok n a b T H R k had u = true ↔ ed_ok n T H a R b k had u := by
  rw [ru_ok, List.all_eq_true]
  constructor
  · intro h X h0 h1
    have h2 : (X == 0 || decide (ed_p R b k had X ≤ ed_rho T H a u X)) = true := h X (List.mem_range.mpr h1)
    rw [Bool.or_eq_true, decide_eq_true_eq, beq_iff_eq] at h2
    rcases h2 with h2 | h2
    · omega
    · exact h2
  · intro h X hX
    show (X == 0 || decide (ed_p R b k had X ≤ ed_rho T H a u X)) = true
    rw [Bool.or_eq_true, decide_eq_true_eq, beq_iff_eq]
    rcases Nat.eq_zero_or_pos X with h0 | h0
    · exact Or.inl h0
    · exact Or.inr (h X h0 (List.mem_range.mp hX))
def ru_use (u : Nat → Bool) (e : Nat) : Nat → Bool := fun i => decide (i = e) || u i
def ru_gr (T H : Nat → Nat) (had : Nat) (u : Nat → Bool) (e : Nat) : Bool := !u e && (had.testBit (T e) && !had.testBit (H e))
def ru_good (n a b : Nat) (T H R : Nat → Nat) (k had : Nat) (u : Nat → Bool) (e : Nat) : Bool := ru_gr T H had u e && ru_ok n a b T H R k (had ||| 2 ^ H e) (ru_use u e)
def ru_pick (n a b : Nat) (T H R : Nat → Nat) (k had : Nat) (u : Nat → Bool) : Nat := ed_fd (ru_good n a b T H R k had u) a
theorem ru_use_e (u : Nat → Bool) (e : Nat) : ru_use u e e = true := by rw [ru_use, decide_eq_true rfl, Bool.true_or]
theorem ru_use_n (u : Nat → Bool) {e i : Nat} (h : i ≠ e) : ru_use u e i = u i := by rw [ru_use, decide_eq_false h, Bool.false_or]
theorem ru_pick_ex {n a b k had : Nat} {T H R : Nat → Nat} {u : Nat → Bool} (hok : ed_ok n T H a R b k had u) (hT : ∀ e, e < a → T e < n) (hh : had < 2 ^ n) (hne : had ≠ 2 ^ n - 1) : ∃ e, e < a ∧ ru_good n a b T H R k had u e = true := by
  obtain ⟨e, h1, h2, h3, h4, h5⟩ := ed_exists hok hT hh hne
  refine ⟨e, h1, ?_⟩
  rw [ru_good, ru_gr, h2, h3, h4, Bool.and_eq_true]
  refine ⟨rfl, ?_⟩
  rw [ru_ok_iff]
  exact (ed_child hok h1 h2 (ru_use_e u e) (fun i _ hn => ru_use_n u hn)).mpr h5
theorem ru_pick_at {n a b k had : Nat} {T H R : Nat → Nat} {u : Nat → Bool} (hok : ed_ok n T H a R b k had u) (hT : ∀ e, e < a → T e < n) (hh : had < 2 ^ n) (hne : had ≠ 2 ^ n - 1) :
    ru_pick n a b T H R k had u < a ∧ ru_gr T H had u (ru_pick n a b T H R k had u) = true ∧ ed_ok n T H a R b k (had ||| 2 ^ H (ru_pick n a b T H R k had u)) (ru_use u (ru_pick n a b T H R k had u)) ∧ ∀ j, j < ru_pick n a b T H R k had u → ru_good n a b T H R k had u j = false := by
  have h := ed_fd_ex (ru_pick_ex hok hT hh hne)
  have e1 : ed_fd (ru_good n a b T H R k had u) a = ru_pick n a b T H R k had u := rfl
  rw [e1] at h
  generalize ru_pick n a b T H R k had u = e at h
  obtain ⟨h1, h2, h3⟩ := h
  rw [ru_good, Bool.and_eq_true, ru_ok_iff] at h2
  exact ⟨h1, h2.1, h2.2, h3⟩
theorem ru_gr_iff {T H : Nat → Nat} {had e : Nat} {u : Nat → Bool} : ru_gr T H had u e = true ↔ u e = false ∧ had.testBit (T e) = true ∧ had.testBit (H e) = false := by
  rw [ru_gr]
  cases u e <;> cases had.testBit (T e) <;> cases had.testBit (H e) <;> decide
/-! owners -/
def ow_u (O : Nat → Int32) : Nat → Bool := fun e => decide (¬ O e = -1)
theorem ow_n1 : ∀ k, k < 3 → ¬ nI k = -1 := by decide +kernel
theorem ow_upd (O : Nat → Int32) (e : Nat) {k : Nat} (hk : k < 3) : ow_u (upd O e (nI k)) = ru_use (ow_u O) e := by
  funext i
  by_cases h : i = e
  · subst h
    rw [ru_use_e, ow_u, pk_us, decide_eq_true (ow_n1 k hk)]
  · rw [ru_use_n _ h, ow_u, ow_u, pk_un h]
def ru_st (n a b : Nat) (T H R : Nat → Nat) (k : Nat) (s : Nat × (Nat → Int32)) : Nat × (Nat → Int32) := if s.1 = 2 ^ n - 1 then s else (s.1 ||| 2 ^ H (ru_pick n a b T H R k s.1 (ow_u s.2)), upd s.2 (ru_pick n a b T H R k s.1 (ow_u s.2)) (nI k))
def ru_it (n a b : Nat) (T H R : Nat → Nat) (k : Nat) : Nat → Nat × (Nat → Int32) → Nat × (Nat → Int32)
  | 0, s => s
  | m + 1, s => ru_st n a b T H R k (ru_it n a b T H R k m s)
theorem ru_it_s (n a b : Nat) (T H R : Nat → Nat) (k m : Nat) (s : Nat × (Nat → Int32)) : ru_it n a b T H R k (m + 1) s = ru_st n a b T H R k (ru_it n a b T H R k m s) := rfl
theorem ru_st_fix {n a b k : Nat} {T H R : Nat → Nat} {s : Nat × (Nat → Int32)} (h : s.1 = 2 ^ n - 1) : ru_st n a b T H R k s = s := if_pos h
theorem ru_st_go {n a b k : Nat} {T H R : Nat → Nat} {s : Nat × (Nat → Int32)} (h : ¬ s.1 = 2 ^ n - 1) : ru_st n a b T H R k s = (s.1 ||| 2 ^ H (ru_pick n a b T H R k s.1 (ow_u s.2)), upd s.2 (ru_pick n a b T H R k s.1 (ow_u s.2)) (nI k)) := if_neg h
theorem ru_it_fix {n a b k : Nat} {T H R : Nat → Nat} {s : Nat × (Nat → Int32)} {j : Nat} (h : (ru_it n a b T H R k j s).1 = 2 ^ n - 1) (m : Nat) : ru_it n a b T H R k (j + m) s = ru_it n a b T H R k j s := by
  induction m with
  | zero => rfl
  | succ m ih => rw [← Nat.add_assoc, ru_it_s, ih, ru_st_fix h]
theorem ru_it_two {n a b k : Nat} {T H R : Nat → Nat} {s : Nat × (Nat → Int32)} {i j : Nat} (hi : (ru_it n a b T H R k i s).1 = 2 ^ n - 1) (hj : (ru_it n a b T H R k j s).1 = 2 ^ n - 1) : ru_it n a b T H R k i s = ru_it n a b T H R k j s := by
  rcases Nat.le_total i j with h | h
  · rw [← ru_it_fix hi (j - i), Nat.add_sub_cancel' h]
  · rw [← ru_it_fix hj (i - j), Nat.add_sub_cancel' h]
/-- what holds of a state of the run at the branching k -/
def ru_I (n a b : Nat) (T H R : Nat → Nat) (k : Nat) (s : Nat × (Nat → Int32)) : Prop := ed_ok n T H a R b k s.1 (ow_u s.2) ∧ s.1 < 2 ^ n ∧ s.1 ≠ 0 ∧ (∀ e, e < a → s.2 e = nI k → s.1.testBit (H e) = true) ∧ (∀ e, s.2 e = -1 ∨ (e < a ∧ ∃ j, j ≤ k ∧ s.2 e = nI j))
theorem ru_or_ne {x y : Nat} (h : x ≠ 0) : x ||| y ≠ 0 := fun z => h (Nat.or_eq_zero_iff.mp z).1
theorem ru_I_st {n a b k : Nat} {T H R : Nat → Nat} {s : Nat × (Nat → Int32)} (hT : ∀ e, e < a → T e < n ∧ H e < n) (hk : k < 3) (h : ru_I n a b T H R k s) : ru_I n a b T H R k (ru_st n a b T H R k s) := by
  by_cases hf : s.1 = 2 ^ n - 1
  · rw [ru_st_fix hf]
    exact h
  · rw [ru_st_go hf]
    obtain ⟨h1, h2, h3, h4, h5⟩ := h
    obtain ⟨p1, p2, p3, p4⟩ := ru_pick_at h1 (fun e he => (hT e he).1) h2 hf
    generalize ru_pick n a b T H R k s.1 (ow_u s.2) = e at p1 p2 p3 p4
    refine ⟨?_, ?_, ru_or_ne h3, ?_, ?_⟩
    · show ed_ok n T H a R b k (s.1 ||| 2 ^ H e) (ow_u (upd s.2 e (nI k)))
      rw [ow_upd s.2 e hk]
      exact p3
    · exact Nat.or_lt_two_pow h2 (bi_pw (hT e p1).2)
    · intro i hi hO
      show (s.1 ||| 2 ^ H e).testBit (H i) = true
      rw [Nat.testBit_or]
      by_cases hie : i = e
      · subst hie
        rw [Nat.testBit_two_pow_self, Bool.or_true]
      · have hO' : upd s.2 e (nI k) i = nI k := hO
        rw [pk_un hie] at hO'
        rw [h4 i hi hO', Bool.true_or]
    · intro i
      show upd s.2 e (nI k) i = -1 ∨ (i < a ∧ ∃ j, j ≤ k ∧ upd s.2 e (nI k) i = nI j)
      by_cases hie : i = e
      · subst hie
        rw [pk_us]
        exact Or.inr ⟨p1, k, Nat.le_refl k, rfl⟩
      · rw [pk_un hie]
        exact h5 i
theorem ru_I_it {n a b k : Nat} {T H R : Nat → Nat} {s : Nat × (Nat → Int32)} (hT : ∀ e, e < a → T e < n ∧ H e < n) (hk : k < 3) (h : ru_I n a b T H R k s) (m : Nat) : ru_I n a b T H R k (ru_it n a b T H R k m s) := by
  induction m with
  | zero => exact h
  | succ m ih =>
    rw [ru_it_s]
    exact ru_I_st hT hk ih
/-! how long it runs -/
def ru_left (n had : Nat) : Nat := ed_ct (fun v => !had.testBit v) n
theorem ed_ct_lt {f : Nat → Bool} {n k : Nat} (hk : k < n) (hf : f k = false) : ed_ct f n < n := by
  induction n with
  | zero => omega
  | succ n ih =>
    rw [ed_ct_s]
    have h1 := ed_b_le (f n)
    have h2 := ed_ct_le f n
    by_cases hkn : k = n
    · subst hkn
      rw [hf, ed_bf]
      omega
    · have h3 := ih (by omega)
      omega
theorem ru_left_lt {n had : Nat} (h : had < 2 ^ n) (h0 : had ≠ 0) : ru_left n had < n := by
  obtain ⟨v, hv⟩ := Nat.exists_testBit_of_ne_zero h0
  exact ed_ct_lt (ed_in h hv) (by rw [hv]; rfl)
theorem ru_left_0 {n had : Nat} (h : had < 2 ^ n) (h0 : ru_left n had = 0) : had = 2 ^ n - 1 := by
  apply Nat.eq_of_testBit_eq
  intro i
  rw [Nat.testBit_two_pow_sub_one]
  rcases Nat.lt_or_ge i n with hi | hi
  · rw [decide_eq_true hi]
    cases hb : had.testBit i with
    | true => rfl
    | false =>
      have h1 := ed_ct_pos (f := fun v => !had.testBit v) hi (by rw [hb]; rfl)
      rw [ru_left] at h0
      omega
  · rw [decide_eq_false (by omega), ed_hi h hi]
theorem ru_left_st {n had v : Nat} (hv : v < n) (hb : had.testBit v = false) : ru_left n (had ||| 2 ^ v) + 1 = ru_left n had := by
  apply ed_ct_del hv
  · rw [hb]
    rfl
  · rw [Nat.testBit_or, Nat.testBit_two_pow_self, Bool.or_true]
    rfl
  · intro i _ hn
    rw [Nat.testBit_or, Nat.testBit_two_pow_of_ne (Ne.symm hn), Bool.or_false]
theorem ru_it_left {n a b k : Nat} {T H R : Nat → Nat} {s : Nat × (Nat → Int32)} (hT : ∀ e, e < a → T e < n ∧ H e < n) (hk : k < 3) (h : ru_I n a b T H R k s) (m : Nat) : (ru_it n a b T H R k m s).1 = 2 ^ n - 1 ∨ ru_left n (ru_it n a b T H R k m s).1 + m ≤ ru_left n s.1 := by
  induction m with
  | zero => exact Or.inr (Nat.le_refl _)
  | succ m ih =>
    rw [ru_it_s]
    have hI := ru_I_it hT hk h m
    generalize ru_it n a b T H R k m s = t at ih hI
    by_cases hf : t.1 = 2 ^ n - 1
    · rw [ru_st_fix hf]
      exact Or.inl hf
    · rw [ru_st_go hf]
      rcases ih with ih | ih
      · exact absurd ih hf
      · right
        obtain ⟨h1, h2, -⟩ := hI
        obtain ⟨p1, p2, -⟩ := ru_pick_at h1 (fun e he => (hT e he).1) h2 hf
        generalize ru_pick n a b T H R k t.1 (ow_u t.2) = e at p1 p2
        have h3 := ru_left_st (hT e p1).2 (ru_gr_iff.mp p2).2.2
        show ru_left n (t.1 ||| 2 ^ H e) + (m + 1) ≤ ru_left n s.1
        omega
theorem ru_it_all {n a b k : Nat} {T H R : Nat → Nat} {s : Nat × (Nat → Int32)} (hT : ∀ e, e < a → T e < n ∧ H e < n) (hk : k < 3) (h : ru_I n a b T H R k s) : (ru_it n a b T H R k (n - 1) s).1 = 2 ^ n - 1 := by
  rcases ru_it_left hT hk h (n - 1) with h1 | h1
  · exact h1
  · have h2 := ru_left_lt h.2.1 h.2.2.1
    exact ru_left_0 (ru_I_it hT hk h (n - 1)).2.1 (by omega)
/-! all branchings, one after the other -/
def pg_O (n a b : Nat) (T H R : Nat → Nat) : Nat → (Nat → Int32)
  | 0 => fun _ => -1
  | k + 1 => (ru_it n a b T H R k (n - 1) (R k, pg_O n a b T H R k)).2
def pg_all (n a b : Nat) (T H R : Nat → Nat) : Nat → Int32 := if ru_ok n a b T H R 0 (R 0) (fun _ => false) = true then pg_O n a b T H R b else fun _ => -1
/-- what holds ahead of the branching k -/
def pg_I (n a b : Nat) (T H R : Nat → Nat) (k : Nat) (O : Nat → Int32) : Prop := (k < b → ed_ok n T H a R b k (R k) (ow_u O)) ∧ ∀ e, O e = -1 ∨ (e < a ∧ ∃ j, j < k ∧ O e = nI j)
theorem ow_m1 : ow_u (fun _ => -1) = fun _ => false := by
  funext e
  rw [ow_u]
  exact decide_eq_false (fun h => h rfl)
theorem pg_I0 {n a b : Nat} {T H R : Nat → Nat} (h : ru_ok n a b T H R 0 (R 0) (fun _ => false) = true) : pg_I n a b T H R 0 (fun _ => -1) := by
  refine ⟨fun _ => ?_, fun e => Or.inl rfl⟩
  rw [ow_m1]
  exact ru_ok_iff.mp h
theorem ow_inj {j k : Nat} (hj : j < 3) (hk : k < 3) (h : nI j = nI k) : j = k := (nI_eq (by omega) (by omega)).mp h
theorem pg_start {n a b k : Nat} {T H R : Nat → Nat} {O : Nat → Int32} (hR : ∀ k, k < b → R k ≠ 0 ∧ R k < 2 ^ n) (hb : b ≤ 3) (hk : k < b) (h : pg_I n a b T H R k O) : ru_I n a b T H R k (R k, O) := by
  refine ⟨h.1 hk, (hR k hk).2, (hR k hk).1, ?_, ?_⟩
  · intro e _ hO
    exfalso
    have hO' : O e = nI k := hO
    rcases h.2 e with h1 | ⟨_, j, h2, h3⟩
    · rw [h1] at hO'
      exact ow_n1 k (by omega) hO'.symm
    · rw [h3] at hO'
      have h4 := ow_inj (by omega) (by omega) hO'
      omega
  · intro e
    rcases h.2 e with h1 | ⟨h0, j, h2, h3⟩
    · exact Or.inl h1
    · exact Or.inr ⟨h0, j, by omega, h3⟩
theorem pg_end {n a b k : Nat} {T H R : Nat → Nat} {s : Nat × (Nat → Int32)} (hk : k < b) (h : ru_I n a b T H R k s) (hs : s.1 = 2 ^ n - 1) : pg_I n a b T H R (k + 1) s.2 := by
  obtain ⟨h1, h2, h3, h4, h5⟩ := h
  rw [hs] at h1
  refine ⟨fun hb => ?_, fun e => ?_⟩
  · rcases (ed_next hk).mp h1 with h6 | h6
    · omega
    · exact h6
  · rcases h5 e with h6 | ⟨h0, j, h6, h7⟩
    · exact Or.inl h6
    · exact Or.inr ⟨h0, j, by omega, h7⟩
theorem pg_step {n a b k : Nat} {T H R : Nat → Nat} {O : Nat → Int32} (hT : ∀ e, e < a → T e < n ∧ H e < n) (hR : ∀ k, k < b → R k ≠ 0 ∧ R k < 2 ^ n) (hb : b ≤ 3) (hk : k < b) (h : pg_I n a b T H R k O) : pg_I n a b T H R (k + 1) (ru_it n a b T H R k (n - 1) (R k, O)).2 := by
  have h1 := pg_start hR hb hk h
  exact pg_end hk (ru_I_it hT (by omega) h1 (n - 1)) (ru_it_all hT (by omega) h1)
theorem pg_I_k {n a b : Nat} {T H R : Nat → Nat} (hT : ∀ e, e < a → T e < n ∧ H e < n) (hR : ∀ k, k < b → R k ≠ 0 ∧ R k < 2 ^ n) (hb : b ≤ 3) (h : ru_ok n a b T H R 0 (R 0) (fun _ => false) = true) (k : Nat) (hk : k ≤ b) : pg_I n a b T H R k (pg_O n a b T H R k) := by
  induction k with
  | zero => exact pg_I0 h
  | succ k ih => exact pg_step hT hR hb (by omega) (ih (by omega))
/-! ways -/
def wy_ok (a : Nat) (H : Nat → Nat) (O W : Nat → Int32) : Prop := ∀ k v, k < 3 → v < 7 → (W (7 * k + v) = -1 ∧ ∀ e, e < a → O e = nI k → H e ≠ v) ∨ ∃ e, e < a ∧ W (7 * k + v) = nI e ∧ O e = nI k ∧ H e = v ∧ ∀ i, i < a → O i = nI k → H i = v → i = e
theorem wy_0 {a : Nat} {H : Nat → Nat} {O W : Nat → Int32} (hO : ∀ e, e < a → O e = -1) (hW : ∀ j, j < 21 → W j = -1) : wy_ok a H O W := by
  intro k v hk hv
  left
  refine ⟨hW _ (by omega), fun e he hO' => ?_⟩
  rw [hO e he] at hO'
  exact absurd hO'.symm (ow_n1 k hk)
theorem wy_st {a k e : Nat} {H : Nat → Nat} {O W : Nat → Int32} (h : wy_ok a H O W) (hk : k < 3) (he : e < a) (hO : O e = -1) (hv : H e < 7) (hn : ∀ i, i < a → O i = nI k → H i ≠ H e) : wy_ok a H (upd O e (nI k)) (upd W (7 * k + H e) (nI e)) := by
  intro k' v hk' hv'
  by_cases hc : k' = k ∧ v = H e
  · obtain ⟨rfl, rfl⟩ := hc
    right
    refine ⟨e, he, pk_us, pk_us, rfl, ?_⟩
    intro i hi hOi hHi
    by_cases hie : i = e
    · exact hie
    · rw [pk_un hie] at hOi
      exact absurd hHi (hn i hi hOi)
  · have hne : 7 * k' + v ≠ 7 * k + H e := by
      intro hz
      apply hc
      omega
    rw [pk_un hne]
    rcases h k' v hk' hv' with ⟨h1, h2⟩ | ⟨i, h1, h2, h3, h4, h5⟩
    · left
      refine ⟨h1, fun j hj hOj => ?_⟩
      by_cases hje : j = e
      · subst hje
        rw [pk_us] at hOj
        have h6 := ow_inj hk hk' hOj
        intro hz
        exact hc ⟨h6.symm, hz.symm⟩
      · rw [pk_un hje] at hOj
        exact h2 j hj hOj
    · right
      have hie : i ≠ e := by
        intro hz
        subst hz
        rw [hO] at h3
        exact ow_n1 k' hk' h3.symm
      refine ⟨i, h1, h2, by rw [pk_un hie]; exact h3, h4, fun j hj hOj hHj => ?_⟩
      by_cases hje : j = e
      · subst hje
        rw [pk_us] at hOj
        have h6 := ow_inj hk hk' hOj
        exact absurd ⟨h6.symm, hHj.symm⟩ hc
      · rw [pk_un hje] at hOj
        exact h5 j hj hOj hHj
theorem wy_look {a k v : Nat} {H : Nat → Nat} {O W : Nat → Int32} (h : wy_ok a H O W) (hk : k < 3) (hv : v < 7) : W (7 * k + v) = if ed_fd (fun e => decide (O e = nI k) && decide (H e = v)) a < a then nI (ed_fd (fun e => decide (O e = nI k) && decide (H e = v)) a) else -1 := by
  rcases h k v hk hv with ⟨h1, h2⟩ | ⟨e, h1, h2, h3, h4, h5⟩
  · rw [ed_fd_no, if_neg (Nat.lt_irrefl a)]
    · exact h1
    · intro j hj
      by_cases hO : O j = nI k
      · rw [decide_eq_false (h2 j hj hO), Bool.and_false]
      · rw [decide_eq_false hO, Bool.false_and]
  · rw [ed_fd_eq (e := e) h1, if_pos h1]
    · exact h2
    · rw [decide_eq_true h3, decide_eq_true h4]
      rfl
    · intro j hj
      by_cases hO : O j = nI k
      · by_cases hH : H j = v
        · have h6 := h5 j (by omega) hO hH
          omega
        · rw [decide_eq_false hH, Bool.and_false]
      · rw [decide_eq_false hO, Bool.false_and]
/-! surplus -/
def su_ok (n a b : Nat) (T H R : Nat → Nat) (k had : Nat) (u : Nat → Bool) (S : Nat → Int32) : Prop := ∀ X, 0 < X → X < 2 ^ n → S X = nI (ed_rho T H a u X - ed_p R b k had X)
def su_tk (T H : Nat → Nat) (had e X : Nat) : Bool := !(X &&& had == 0) && ed_en T H X e
theorem su_tk_iff {T H : Nat → Nat} {had e X : Nat} : su_tk T H had e X = true ↔ had &&& X ≠ 0 ∧ ed_en T H X e = true := by
  rw [su_tk, Bool.and_eq_true, Nat.and_comm]
  constructor
  · intro h
    refine ⟨fun hz => ?_, h.2⟩
    rw [hz] at h
    exact absurd h.1 (by decide)
  · intro h
    refine ⟨?_, h.2⟩
    rw [ed_beqf h.1]
    rfl
theorem ed_p_in {R : Nat → Nat} {b k had X : Nat} (h : had &&& X ≠ 0) : ed_p R b k had X = ed_q R b k X := by rw [ed_p, ed_beqf h, ed_bf, Nat.zero_add]
theorem ed_p_out {R : Nat → Nat} {b k had X : Nat} (h : had &&& X = 0) : ed_p R b k had X = 1 + ed_q R b k X := by rw [ed_p, h]; rfl
/-- an arc is safe: no set that it takes from is short -/
theorem su_safe {n a b k had e : Nat} {T H R : Nat → Nat} {u : Nat → Bool} (hok : ed_ok n T H a R b k had u) (he : e < a) (hu : u e = false) : ru_ok n a b T H R k (had ||| 2 ^ H e) (ru_use u e) = true ↔ ∀ X, 0 < X → X < 2 ^ n → su_tk T H had e X = true → 0 < ed_rho T H a u X - ed_p R b k had X := by
  rw [ru_ok_iff, ed_child hok he hu (ru_use_e u e) (fun i _ hn => ru_use_n u hn)]
  constructor
  · intro h X h0 h1 h2
    obtain ⟨h3, h4⟩ := su_tk_iff.mp h2
    have h5 := h X h0 h1 h3 h4
    rw [ed_p_in h3]
    omega
  · intro h X h0 h1 h3 h4
    have h5 := h X h0 h1 (su_tk_iff.mpr ⟨h3, h4⟩)
    rw [ed_p_in h3] at h5
    omega
theorem su_use {n a b k had e : Nat} {T H R : Nat → Nat} {u : Nat → Bool} {S S' : Nat → Int32} (hok : ed_ok n T H a R b k had u) (he : e < a) (hg : ru_gr T H had u e = true) (hs : ru_ok n a b T H R k (had ||| 2 ^ H e) (ru_use u e) = true) (hS : su_ok n a b T H R k had u S) (hS' : ∀ X, 0 < X → X < 2 ^ n → S' X = if su_tk T H had e X = true then S X - 1 else S X) : su_ok n a b T H R k (had ||| 2 ^ H e) (ru_use u e) S' := by
  obtain ⟨g1, g2, g3⟩ := ru_gr_iff.mp hg
  have hsafe := (su_safe hok he g1).mp hs
  intro X h0 h1
  rw [hS' X h0 h1, hS X h0 h1]
  have h5 := hok X h0 h1
  cases hen : ed_en T H X e with
  | true =>
    have hr := ed_rho_in he g1 (ru_use_e u e) (fun i _ hn => ru_use_n u hn) hen
    have hb : X.testBit (H e) = true := by
      rw [ed_en, Bool.and_eq_true] at hen
      exact hen.1
    have h1' : (had ||| 2 ^ H e).testBit (H e) = true := by rw [Nat.testBit_or, Nat.testBit_two_pow_self, Bool.or_true]
    rw [ed_p_in (ed_and1 h1' hb)]
    by_cases h2 : had &&& X = 0
    · rw [if_neg (fun hz => (su_tk_iff.mp hz).1 h2), ed_p_out h2]
      congr 1
      omega
    · have h3 := su_tk_iff.mpr ⟨h2, hen⟩
      have h4 := hsafe X h0 h1 h3
      rw [if_pos h3]
      rw [ed_p_in h2] at h4 ⊢
      rw [show ed_rho T H a u X - ed_q R b k X = (ed_rho T H a (ru_use u e) X - ed_q R b k X) + 1 by omega]
      exact nI_pred _
  | false =>
    rw [if_neg (fun hz => by rw [(su_tk_iff.mp hz).2] at hen; cases hen), ed_rho_out (u' := ru_use u e) (fun i _ hn => ru_use_n u hn) hen]
    have hp : ed_p R b k (had ||| 2 ^ H e) X = ed_p R b k had X := by
      by_cases h2 : had &&& X = 0
      · have hT : X.testBit (T e) = false := ed_and0 h2 g2
        have hH : X.testBit (H e) = false := by
          rw [ed_en, hT] at hen
          revert hen
          cases X.testBit (H e) <;> decide
        have h3 : (had ||| 2 ^ H e) &&& X = 0 := by
          rw [Nat.and_or_distrib_right, h2, Nat.and_comm, bi_bit0.mpr hH]
          rfl
        rw [ed_p_out h2, ed_p_out h3]
      · have h3 : (had ||| 2 ^ H e) &&& X ≠ 0 := by
          intro hz
          rw [Nat.and_or_distrib_right] at hz
          exact h2 (Nat.or_eq_zero_iff.mp hz).1
        rw [ed_p_in h2, ed_p_in h3]
    rw [hp]
theorem su_next {n a b k : Nat} {T H R : Nat → Nat} {u : Nat → Bool} {S : Nat → Int32} (hk : k + 1 < b) (h : su_ok n a b T H R k (2 ^ n - 1) u S) : su_ok n a b T H R (k + 1) (R (k + 1)) u S := by
  intro X h0 h1
  rw [h X h0 h1, ed_p_in (by rw [ed_all_and h1]; omega), ed_q_next hk]
  rfl
theorem su_start {n a b : Nat} {T H R : Nat → Nat} {S : Nat → Int32} (hb : 0 < b) (h : ∀ X, 0 < X → X < 2 ^ n → S X = nI (ed_rho T H a (fun _ => false) X - ed_mis R b X)) : su_ok n a b T H R 0 (R 0) (fun _ => false) S := by
  intro X h0 h1
  rw [h X h0 h1, ed_mis_p hb]
/-! an arc left out -/
theorem ed_ct_skip (f : Nat → Bool) {e m : Nat} (he : e ≤ m) : ed_ct (fun i => if i < e then f i else f (i + 1)) m + ed_b (f e) = ed_ct f (m + 1) := by
  induction m with
  | zero =>
    have h0 : e = 0 := by omega
    subst h0
    rfl
  | succ m ih =>
    by_cases hm : e = m + 1
    · rw [ed_ct_s f (m + 1), ← hm, ed_ct_congr (g := f)]
      intro i hi
      rw [if_pos (by omega)]
    · have h1 := ih (by omega)
      rw [ed_ct_s, if_neg (by omega), ed_ct_s f (m + 1)]
      omega
def rm_f (T : Nat → Nat) (e m : Nat) : Nat → Nat := fun i => if e ≤ i ∧ i < m then T (i + 1) else T i
theorem rm_rho {T H : Nat → Nat} {e m X : Nat} (he : e ≤ m) : ed_rho (rm_f T e m) (rm_f H e m) m (fun _ => false) X + ed_b (ed_en T H X e) = ed_rho T H (m + 1) (fun _ => false) X := by
  rw [ed_rho, ed_rho]
  have h := ed_ct_skip (fun i => !(fun _ => false) i && ed_en T H X i) he
  have h2 : ed_ct (fun i => !(fun _ => false) i && ed_en (rm_f T e m) (rm_f H e m) X i) m = ed_ct (fun i => if i < e then !(fun _ => false) i && ed_en T H X i else !(fun _ => false) (i + 1) && ed_en T H X (i + 1)) m := by
    apply ed_ct_congr
    intro i hi
    rw [ed_en, rm_f, rm_f]
    by_cases h3 : i < e
    · rw [if_neg (by omega), if_neg (by omega), if_pos h3]
      rfl
    · rw [if_pos (by omega), if_pos (by omega), if_neg h3]
      rfl
  rw [h2]
  exact h
theorem rm_lt {T : Nat → Nat} {e m n : Nat} (h : ∀ i, i < m + 1 → T i < n) : ∀ i, i < m → rm_f T e m i < n := by
  intro i hi
  rw [rm_f]
  split
  · exact h _ (by omega)
  · exact h _ (by omega)
end
section
/-! what the calls answer and what they leave, in numbers -/
theorem i_le_lt {x y : Int32} : ¬ x ≤ y ↔ y < x := by
  rw [Int32.le_iff_toInt_le, Int32.lt_iff_toInt_lt]
  omega
theorem i_lt_le {x y : Int32} : ¬ x < y ↔ y ≤ x := by
  rw [Int32.le_iff_toInt_le, Int32.lt_iff_toInt_lt]
  omega
def st_I (n a : Nat) (T H : Nat → Nat) (b : Nat) (R : Nat → Nat) : Prop := 1 ≤ n ∧ n ≤ 7 ∧ a ≤ 14 ∧ (∀ i, T i < 7 ∧ H i < 7) ∧ (∀ i, i < a → T i < n ∧ H i < n) ∧ b ≤ 3 ∧ (∀ k, k < b → R k ≠ 0 ∧ R k < 2 ^ n) ∧ ∀ k, R k < 128
def rho0 (T H : Nat → Nat) (a X : Nat) : Nat := ed_rho T H a (fun _ => false) X
def is_in (x : Int32) (n : Nat) : Prop := 0 ≤ x ∧ x < nI n
theorem is_in_of {x : Int32} {n : Nat} (h : is_in x n) (hn : n < 2 ^ 31) : ∃ j, j < n ∧ x = nI j := by
  obtain ⟨h1, h2⟩ := h
  obtain ⟨j, hj, rfl⟩ := nI_of (x := x) (i_lt_le.mpr h1)
  exact ⟨j, (nI_ltI hj hn).mp h2, rfl⟩
theorem is_in_nI {j n : Nat} (hj : j < n) (hn : n < 2 ^ 31) : is_in (nI j) n := ⟨nI_pos' (by omega), nI_lt hj hn⟩
def is_set (x : Int32) (n : Nat) : Prop := 0 ≤ x ∧ x ≤ nI (2 ^ n - 1)
theorem is_set_in {x : Int32} {n : Nat} (hn : n ≤ 7) : is_set x n ↔ is_in x (2 ^ n) := by
  have h7 := bi_p7 hn
  have h1 : 0 < 2 ^ n := Nat.two_pow_pos n
  rw [is_set, is_in]
  constructor
  · intro h
    refine ⟨h.1, ?_⟩
    obtain ⟨j, hj, rfl⟩ := nI_of (x := x) (i_lt_le.mpr h.1)
    have := (nI_leI hj (by omega)).mp h.2
    exact nI_lt (by omega) (by omega)
  · intro h
    refine ⟨h.1, ?_⟩
    obtain ⟨j, hj, rfl⟩ := is_in_of h (by omega)
    exact nI_le (by omega) (by omega)
def bgF (x : Int32) (n a b : Nat) : Int32 × Nat × Nat × Nat := if 1 ≤ x ∧ x ≤ 7 then (1, x.toNatClampNeg, 0, 0) else (0, n, a, b)
def arF (n a : Nat) (T H : Nat → Nat) (x y : Int32) : Int32 × Nat × (Nat → Nat) × (Nat → Nat) := if a < 14 ∧ (0 ≤ x ∧ x < nI n) ∧ (0 ≤ y ∧ y < nI n) ∧ ¬ x = y then (nI a, a + 1, up T a x.toNatClampNeg, up H a y.toNatClampNeg) else (-1, a, T, H)
def drF (a : Nat) (T H : Nat → Nat) (x : Int32) : Int32 × Nat × (Nat → Nat) × (Nat → Nat) := if 0 ≤ x ∧ x < nI a then (1, a - 1, rm_f T x.toNatClampNeg (a - 1), rm_f H x.toNatClampNeg (a - 1)) else (0, a, T, H)
def plF (n b : Nat) (R : Nat → Nat) (x : Int32) : Int32 × Nat × (Nat → Nat) := if b < 3 ∧ ¬ x = 0 ∧ (0 ≤ x ∧ x ≤ nI (2 ^ n - 1)) then (nI b, b + 1, up R b x.toNatClampNeg) else (-1, b, R)
def feF (b : Nat) : Int32 × Nat := if b = 0 then (-1, b) else (nI (b - 1), b - 1)
def coF (n a b : Nat) (x : Int32) : Int32 := if x = 0 then nI n else if x = 1 then nI a else if x = 2 then nI b else -1
def enF (a : Nat) (T H : Nat → Nat) (x y : Int32) : Int32 := if (0 ≤ x ∧ x < nI a) ∧ (y = 0 ∨ y = 1) then (if y = 0 then nI (T x.toNatClampNeg) else nI (H x.toNatClampNeg)) else -1
def etF (n a : Nat) (T H : Nat → Nat) (x : Int32) : Int32 := if 0 ≤ x ∧ x ≤ nI (2 ^ n - 1) then nI (rho0 T H a x.toNatClampNeg) else -1
def miF (n b : Nat) (R : Nat → Nat) (x : Int32) : Int32 := if 0 ≤ x ∧ x ≤ nI (2 ^ n - 1) then nI (ed_mis R b x.toNatClampNeg) else -1
def stp (T H : Nat → Nat) (a : Nat) (R : Nat → Nat) (b X : Nat) : Bool := decide (rho0 T H a X < ed_mis R b X)
def spF (n a : Nat) (T H : Nat → Nat) (b : Nat) (R : Nat → Nat) : Nat := fs_at (stp T H a R b) (2 ^ n - 1)
def paF (n a : Nat) (T H : Nat → Nat) (b : Nat) (R : Nat → Nat) : Bool := decide (spF n a T H b R = 0)
def owF (n a b : Nat) (T H R : Nat → Nat) (x : Int32) : Int32 := if 0 ≤ x ∧ x < nI a then pg_all n a b T H R x.toNatClampNeg else -1
def wyF (n a b : Nat) (T H R : Nat → Nat) (x y : Int32) : Int32 := if (0 ≤ x ∧ x < nI b) ∧ (0 ≤ y ∧ y < nI n) then (if ed_fd (fun e => decide (pg_all n a b T H R e = x) && decide (nI (H e) = y)) a < a then nI (ed_fd (fun e => decide (pg_all n a b T H R e = x) && decide (nI (H e) = y)) a) else -1) else -1
def stpL (T H : Nat → Nat) (a : Nat) (R : Nat → Nat) (b j X : Nat) : Bool := decide (rho0 T H a X - ed_b (ed_en T H X j) < ed_mis R b X)
def srF (n a : Nat) (T H : Nat → Nat) (b : Nat) (R : Nat → Nat) (x : Int32) : Bool := if 0 ≤ x ∧ x < nI a then decide (fs_at (stpL T H a R b x.toNatClampNeg) (2 ^ n - 1) = 0) else false
def mo_at (T H : Nat → Nat) (a Y : Nat) : Nat → Nat
  | 0 => 99
  | m + 1 => if (m + 1) &&& Y = 0 then min (mo_at T H a Y m) (rho0 T H a (m + 1)) else mo_at T H a Y m
def moF (n a : Nat) (T H : Nat → Nat) (x : Int32) : Int32 := if ¬ x = 0 ∧ (0 ≤ x ∧ x ≤ nI (2 ^ n - 1)) then nI (mo_at T H a x.toNatClampNeg (2 ^ n - 1)) else -1
theorem st_0 : st_I 1 0 (fun _ => 0) (fun _ => 0) 0 (fun _ => 0) := ⟨by omega, by omega, by omega, fun _ => ⟨(by show 0 < 7; omega), (by show 0 < 7; omega)⟩, fun i h => by omega, by omega, fun k h => by omega, fun _ => (by show 0 < 128; omega)⟩
theorem up_lt {T : Nat → Nat} {k v N : Nat} (h : ∀ i, T i < N) (hv : v < N) (i : Nat) : up T k v i < N := by
  rw [up]
  split
  · exact hv
  · exact h i
theorem st_bg {x : Int32} {n a b : Nat} {T H R : Nat → Nat} (h : st_I n a T H b R) : st_I (bgF x n a b).2.1 (bgF x n a b).2.2.1 T H (bgF x n a b).2.2.2 R := by
  rw [bgF]
  split
  · rename_i hx
    obtain ⟨j, hj, rfl⟩ := nI_of2 (x := x) (M := 7) (n := 7) (by decide) (i_lt_le.mpr (Int32.le_trans (by decide) hx.1)) hx.2
    have h1 := (nI_leI (a := 1) (by omega) (by omega)).mp hx.1
    show st_I (nI j).toNatClampNeg 0 T H 0 R
    rw [nI_clamp (by omega)]
    exact ⟨h1, hj, by omega, h.2.2.2.1, fun i hi => by omega, by omega, fun k hk => by omega, h.2.2.2.2.2.2.2⟩
  · exact h
theorem st_ar {x y : Int32} {n a b : Nat} {T H R : Nat → Nat} (h : st_I n a T H b R) : st_I n (arF n a T H x y).2.1 (arF n a T H x y).2.2.1 (arF n a T H x y).2.2.2 b R := by
  rw [arF]
  split
  · rename_i hx
    obtain ⟨ha, h1, h2, -⟩ := hx
    obtain ⟨i1, i2, i3, i4, i5, i6⟩ := h
    obtain ⟨j, hj, rfl⟩ := is_in_of h1 (by omega)
    obtain ⟨k, hk, rfl⟩ := is_in_of h2 (by omega)
    show st_I n (a + 1) (up T a (nI j).toNatClampNeg) (up H a (nI k).toNatClampNeg) b R
    rw [nI_clamp (by omega), nI_clamp (by omega)]
    refine ⟨i1, i2, by omega, fun i => ⟨up_lt (fun i => (i4 i).1) (by omega) i, up_lt (fun i => (i4 i).2) (by omega) i⟩, fun i hi => ?_, i6⟩
    rw [up, up]
    by_cases hia : i = a
    · rw [if_pos hia, if_pos hia]
      exact ⟨hj, hk⟩
    · rw [if_neg hia, if_neg hia]
      exact i5 i (by omega)
  · exact h
theorem rm_all {T : Nat → Nat} {e m N : Nat} (h : ∀ i, T i < N) (i : Nat) : rm_f T e m i < N := by
  rw [rm_f]
  split
  · exact h _
  · exact h _
theorem st_rm {j n a b : Nat} {T H R : Nat → Nat} (ha : 0 < a) (h : st_I n a T H b R) : st_I n (a - 1) (rm_f T j (a - 1)) (rm_f H j (a - 1)) b R := by
  obtain ⟨i1, i2, i3, i4, i5, i6⟩ := h
  refine ⟨i1, i2, by omega, fun i => ⟨rm_all (fun i => (i4 i).1) i, rm_all (fun i => (i4 i).2) i⟩, fun i hi => ⟨rm_lt (fun i hi => (i5 i (by omega)).1) i hi, rm_lt (fun i hi => (i5 i (by omega)).2) i hi⟩, i6⟩
theorem st_dr {x : Int32} {n a b : Nat} {T H R : Nat → Nat} (h : st_I n a T H b R) : st_I n (drF a T H x).2.1 (drF a T H x).2.2.1 (drF a T H x).2.2.2 b R := by
  rw [drF]
  split
  · rename_i hx
    obtain ⟨j, hj, rfl⟩ := is_in_of hx (by have := h.2.2.1; omega)
    exact st_rm (by omega) h
  · exact h
theorem st_pl {x : Int32} {n a b : Nat} {T H R : Nat → Nat} (h : st_I n a T H b R) : st_I n a T H (plF n b R x).2.1 (plF n b R x).2.2 := by
  rw [plF]
  split
  · rename_i hx
    obtain ⟨hb, h0, h1⟩ := hx
    obtain ⟨i1, i2, i3, i4, i5, i6, i7, i8⟩ := h
    have h7 := bi_p7 i2
    obtain ⟨j, hj, rfl⟩ := is_in_of ((is_set_in i2).mp h1) (by omega)
    have hj0 : j ≠ 0 := fun z => h0 (by rw [z]; exact nI_0)
    show st_I n a T H (b + 1) (up R b (nI j).toNatClampNeg)
    rw [nI_clamp (by omega)]
    refine ⟨i1, i2, i3, i4, i5, by omega, fun k hk => ?_, fun k => up_lt i8 (by omega) k⟩
    rw [up]
    by_cases hkb : k = b
    · rw [if_pos hkb]
      exact ⟨hj0, hj⟩
    · rw [if_neg hkb]
      exact i7 k (by omega)
  · exact h
theorem st_fe {n a b : Nat} {T H R : Nat → Nat} (h : st_I n a T H b R) : st_I n a T H (feF b).2 R := by
  rw [feF]
  obtain ⟨i1, i2, i3, i4, i5, i6, i7, i8⟩ := h
  split
  · exact ⟨i1, i2, i3, i4, i5, i6, i7, i8⟩
  · exact ⟨i1, i2, i3, i4, i5, by show b - 1 ≤ 3; omega, fun k hk => i7 k (by have : k < b - 1 := hk; omega), i8⟩
/-- the class's two answers: no set stops them, or the branchings can go on -/
theorem pa_ok {n a b : Nat} {T H R : Nat → Nat} (hb : 0 < b) : paF n a T H b R = ru_ok n a b T H R 0 (R 0) (fun _ => false) := by
  have h : paF n a T H b R = true ↔ ru_ok n a b T H R 0 (R 0) (fun _ => false) = true := by
    rw [paF, decide_eq_true_eq, spF, fs_0, ru_ok_iff]
    have h1 : 0 < 2 ^ n := Nat.two_pow_pos n
    constructor
    · intro h X h0 hX
      have h2 := h X h0 (by omega)
      rw [stp, decide_eq_false_iff_not, rho0] at h2
      rw [ed_mis_p hb]
      omega
    · intro h X h0 hX
      have h2 := h X h0 (by omega)
      rw [ed_mis_p hb] at h2
      rw [stp, decide_eq_false_iff_not, rho0]
      omega
  cases h1 : paF n a T H b R <;> cases h2 : ru_ok n a b T H R 0 (R 0) (fun _ => false) <;> simp_all
theorem pa_0 {n a : Nat} {T H R : Nat → Nat} : paF n a T H 0 R = true := by
  rw [paF, decide_eq_true_eq, spF, fs_0]
  intro X _ _
  rw [stp, decide_eq_false_iff_not]
  show ¬ rho0 T H a X < 0
  omega
/-- an arc left out, in the class's way and in the reference's -/
theorem sr_rm {n a b j : Nat} {T H R : Nat → Nat} (hj : j < a) : decide (fs_at (stpL T H a R b j) (2 ^ n - 1) = 0) = paF n (a - 1) (rm_f T j (a - 1)) (rm_f H j (a - 1)) b R := by
  rw [paF, spF]
  congr 2
  apply fs_congr
  intro X _ _
  rw [stpL, stp]
  congr 1
  have h := rm_rho (T := T) (H := H) (e := j) (m := a - 1) (X := X) (by omega)
  rw [show a - 1 + 1 = a by omega] at h
  rw [rho0, rho0]
  rw [← h, Nat.add_sub_cancel]
end
section
/-! the reference's search: whether the branchings can go on -/
def go (n a b : Nat) (T H R : Nat → Nat) (k had U : Nat) : Bool := decide (k = b) || ru_ok n a b T H R k had (Nat.testBit U)
theorem go_lt {n a b k had U : Nat} {T H R : Nat → Nat} (h : k < b) : go n a b T H R k had U = ru_ok n a b T H R k had (Nat.testBit U) := by rw [go, decide_eq_false (by omega), Bool.false_or]
theorem go_b {n a b had U : Nat} {T H R : Nat → Nat} : go n a b T H R b had U = true := by rw [go, decide_eq_true rfl, Bool.true_or]
theorem bool_ext {x y : Bool} (h : x = true ↔ y = true) : x = y := by
  cases x <;> cases y
  · rfl
  · exact (h.mpr rfl).symm ▸ rfl
  · exact (h.mp rfl).symm ▸ rfl
  · rfl
theorem go_next {n a b k U : Nat} {T H R : Nat → Nat} (h : k < b) : go n a b T H R k (2 ^ n - 1) U = go n a b T H R (k + 1) (if k + 1 < b then R (k + 1) else 0) U := by
  rw [go_lt h]
  apply bool_ext
  rw [ru_ok_iff, ed_next h]
  by_cases hb : k + 1 = b
  · rw [hb, go_b]
    exact ⟨fun _ => rfl, fun _ => Or.inl rfl⟩
  · rw [if_pos (by omega), go_lt (by omega), ru_ok_iff]
    exact ⟨fun z => z.resolve_left hb, Or.inr⟩
theorem ub_use (U e : Nat) : Nat.testBit (U ||| 2 ^ e) = ru_use (Nat.testBit U) e := by
  funext i
  rw [Nat.testBit_or, Nat.testBit_two_pow, ru_use]
  by_cases h : i = e
  · rw [decide_eq_true h, decide_eq_true h.symm, Bool.true_or, Bool.or_true]
  · rw [decide_eq_false h, decide_eq_false (fun z => h z.symm), Bool.false_or, Bool.or_false]
theorem go_good {n a b k had U e : Nat} {T H R : Nat → Nat} (hk : k < b) : ru_good n a b T H R k had (Nat.testBit U) e = (ru_gr T H had (Nat.testBit U) e && go n a b T H R k (had ||| 2 ^ H e) (U ||| 2 ^ e)) := by
  rw [ru_good, go_lt hk, ub_use]
def df_C (n a b : Nat) (T H R : Nat → Nat) (tr hd us nx : Nat → Int32) (s t h V e0 : Nat) : Prop := tr s = nI t ∧ hd s = nI h ∧ us s = nI V ∧ nx s = nI e0 ∧ t < b ∧ h < 2 ^ n ∧ h ≠ 2 ^ n - 1 ∧ ru_ok n a b T H R t h (Nat.testBit V) = true ∧ (∀ j, j < e0 → ru_good n a b T H R t h (Nat.testBit V) j = false) ∧ s + ru_left a V ≤ 14 ∧ V < 2 ^ 14 ∧ e0 ≤ a
def df_I (n a b : Nat) (T H R : Nat → Nat) (G : Bool) (tr hd us nx : Nat → Int32) (dn step : Int32) (mu : Nat) : Prop :=
  (dn = 1 ∧ G = true) ∨ (dn = 0 ∧ step = -1 ∧ G = false) ∨ (mu = 1 ∧ dn = 0 ∧ step = nI 0 ∧ nx 0 = nI a ∧ G = false) ∨
  (∃ s t h V e0, mu = ru_left a V * 64 + 2 * (a - e0) + 2 ∧ dn = 0 ∧ step = nI s ∧ df_C n a b T H R tr hd us nx s t h V e0 ∧ G = true) ∨
  (∃ s t h V e0, mu = ru_left a V * 64 + 2 * (a - e0) + 3 ∧ dn = 0 ∧ step = nI (s + 1) ∧ nx (s + 1) = nI a ∧ df_C n a b T H R tr hd us nx s t h V e0 ∧ s + 1 ≤ 14 ∧ G = true)
/-- at a state that isn't stopped an arc is left to try -/
theorem df_more {n a b : Nat} {T H R : Nat → Nat} {tr hd us nx : Nat → Int32} {s t h V e0 : Nat} (hT : ∀ e, e < a → T e < n) (hC : df_C n a b T H R tr hd us nx s t h V e0) : e0 < a := by
  obtain ⟨-, -, -, -, c1, c2, c3, c4, c5, -⟩ := hC
  obtain ⟨j, h1, h2⟩ := ru_pick_ex (ru_ok_iff.mp c4) hT c2 c3
  rcases Nat.lt_or_ge j e0 with h3 | h3
  · rw [c5 j h3] at h2
    cases h2
  · omega
theorem df_left {a U e : Nat} (he : e < a) (hu : U.testBit e = false) : ru_left a (U ||| 2 ^ e) + 1 = ru_left a U := ru_left_st he hu
theorem df_used {U e : Nat} (hU : U < 2 ^ 14) (he : e < 14) : U ||| 2 ^ e < 2 ^ 14 := Nat.or_lt_two_pow hU (bi_pw he)
end
section
-- ===== PART A: goes FIRST, ahead of the names: the tables' words, and 'selects' of the private methods out of them =====
/-- a private method of a class that the tables say can be made, by its rows of tables_1 -/
def lw_okq (q : MethodName × Nat) : Prop := (q.1.cls ≠ "java/lang/invoke/MethodHandle" ∧ q.1.cls ≠ "java/lang/invoke/VarHandle") ∧ Cond.instantiable q.1.cls q.2 ∈ tables_1 ∧ Cond.privateMethod q.1 ∈ tables_1 ∧ Cond.instanceMethod q.1 ∈ tables_1
theorem lw_p0 : lw_okq (⟨"BranchPacker", "firstStopper", "(I)I"⟩, 3) := ⟨⟨by decide +kernel, by decide +kernel⟩, List.mem_of_getElem? (i := 10) (by decide +kernel), List.mem_of_getElem? (i := 174) (by decide +kernel), List.mem_of_getElem? (i := 175) (by decide +kernel)⟩
theorem lw_p1 : lw_okq (⟨"BranchPacker", "stops", "(II)Z"⟩, 3) := ⟨⟨by decide +kernel, by decide +kernel⟩, List.mem_of_getElem? (i := 10) (by decide +kernel), List.mem_of_getElem? (i := 188) (by decide +kernel), List.mem_of_getElem? (i := 189) (by decide +kernel)⟩
theorem lw_p2 : lw_okq (⟨"BranchPacker$Packing", "measureSurplus", "(LBranchPacker$Net;LBranchPacker$Grove;)Z"⟩, 3) := ⟨⟨by decide +kernel, by decide +kernel⟩, List.mem_of_getElem? (i := 62) (by decide +kernel), List.mem_of_getElem? (i := 208) (by decide +kernel), List.mem_of_getElem? (i := 209) (by decide +kernel)⟩
theorem lw_p3 : lw_okq (⟨"BranchPacker$Packing", "growToAll", "(LBranchPacker$Net;II)V"⟩, 3) := ⟨⟨by decide +kernel, by decide +kernel⟩, List.mem_of_getElem? (i := 62) (by decide +kernel), List.mem_of_getElem? (i := 215) (by decide +kernel), List.mem_of_getElem? (i := 216) (by decide +kernel)⟩
theorem lw_p4 : lw_okq (⟨"BranchPacker$Packing", "leastSafeArc", "(LBranchPacker$Net;I)I"⟩, 3) := ⟨⟨by decide +kernel, by decide +kernel⟩, List.mem_of_getElem? (i := 62) (by decide +kernel), List.mem_of_getElem? (i := 219) (by decide +kernel), List.mem_of_getElem? (i := 220) (by decide +kernel)⟩
theorem lw_p5 : lw_okq (⟨"BranchPacker$Packing", "isSafe", "(LBranchPacker$Net;II)Z"⟩, 3) := ⟨⟨by decide +kernel, by decide +kernel⟩, List.mem_of_getElem? (i := 62) (by decide +kernel), List.mem_of_getElem? (i := 226) (by decide +kernel), List.mem_of_getElem? (i := 227) (by decide +kernel)⟩
theorem lw_p6 : lw_okq (⟨"BranchPacker$Packing", "use", "(LBranchPacker$Net;III)V"⟩, 3) := ⟨⟨by decide +kernel, by decide +kernel⟩, List.mem_of_getElem? (i := 62) (by decide +kernel), List.mem_of_getElem? (i := 234) (by decide +kernel), List.mem_of_getElem? (i := 235) (by decide +kernel)⟩
theorem lw_p7 : lw_okq (⟨"BranchPackerModel", "isArc", "(I)Z"⟩, 12) := ⟨⟨by decide +kernel, by decide +kernel⟩, List.mem_of_getElem? (i := 253) (by decide +kernel), List.mem_of_getElem? (i := 308) (by decide +kernel), List.mem_of_getElem? (i := 309) (by decide +kernel)⟩
theorem lw_p8 : lw_okq (⟨"BranchPackerModel", "remove", "(I)V"⟩, 12) := ⟨⟨by decide +kernel, by decide +kernel⟩, List.mem_of_getElem? (i := 253) (by decide +kernel), List.mem_of_getElem? (i := 312) (by decide +kernel), List.mem_of_getElem? (i := 313) (by decide +kernel)⟩
theorem lw_p9 : lw_okq (⟨"BranchPackerModel", "isSet", "(I)Z"⟩, 12) := ⟨⟨by decide +kernel, by decide +kernel⟩, List.mem_of_getElem? (i := 253) (by decide +kernel), List.mem_of_getElem? (i := 320) (by decide +kernel), List.mem_of_getElem? (i := 321) (by decide +kernel)⟩
theorem lw_p10 : lw_okq (⟨"BranchPackerModel", "all", "()I"⟩, 12) := ⟨⟨by decide +kernel, by decide +kernel⟩, List.mem_of_getElem? (i := 253) (by decide +kernel), List.mem_of_getElem? (i := 324) (by decide +kernel), List.mem_of_getElem? (i := 325) (by decide +kernel)⟩
theorem lw_p11 : lw_okq (⟨"BranchPackerModel", "entryOf", "(II)I"⟩, 12) := ⟨⟨by decide +kernel, by decide +kernel⟩, List.mem_of_getElem? (i := 253) (by decide +kernel), List.mem_of_getElem? (i := 344) (by decide +kernel), List.mem_of_getElem? (i := 345) (by decide +kernel)⟩
theorem lw_p12 : lw_okq (⟨"BranchPackerModel", "canGoOn", "(III)Z"⟩, 12) := ⟨⟨by decide +kernel, by decide +kernel⟩, List.mem_of_getElem? (i := 253) (by decide +kernel), List.mem_of_getElem? (i := 371) (by decide +kernel), List.mem_of_getElem? (i := 372) (by decide +kernel)⟩
theorem lw_p13 : lw_okq (⟨"BranchPackerModel", "isDone", "(IIII)Z"⟩, 12) := ⟨⟨by decide +kernel, by decide +kernel⟩, List.mem_of_getElem? (i := 253) (by decide +kernel), List.mem_of_getElem? (i := 375) (by decide +kernel), List.mem_of_getElem? (i := 376) (by decide +kernel)⟩
theorem lw_p14 : lw_okq (⟨"BranchPackerModel", "isStopped", "(III)Z"⟩, 12) := ⟨⟨by decide +kernel, by decide +kernel⟩, List.mem_of_getElem? (i := 253) (by decide +kernel), List.mem_of_getElem? (i := 379) (by decide +kernel), List.mem_of_getElem? (i := 380) (by decide +kernel)⟩
theorem lw_p15 : lw_okq (⟨"BranchPackerModel", "grows", "(III)Z"⟩, 12) := ⟨⟨by decide +kernel, by decide +kernel⟩, List.mem_of_getElem? (i := 253) (by decide +kernel), List.mem_of_getElem? (i := 383) (by decide +kernel), List.mem_of_getElem? (i := 384) (by decide +kernel)⟩
def lw_privs_1 : List (MethodName × Nat) := [(⟨"BranchPacker", "firstStopper", "(I)I"⟩, 3), (⟨"BranchPacker", "stops", "(II)Z"⟩, 3), (⟨"BranchPacker$Packing", "measureSurplus", "(LBranchPacker$Net;LBranchPacker$Grove;)Z"⟩, 3), (⟨"BranchPacker$Packing", "growToAll", "(LBranchPacker$Net;II)V"⟩, 3), (⟨"BranchPacker$Packing", "leastSafeArc", "(LBranchPacker$Net;I)I"⟩, 3), (⟨"BranchPacker$Packing", "isSafe", "(LBranchPacker$Net;II)Z"⟩, 3), (⟨"BranchPacker$Packing", "use", "(LBranchPacker$Net;III)V"⟩, 3), (⟨"BranchPackerModel", "isArc", "(I)Z"⟩, 12), (⟨"BranchPackerModel", "remove", "(I)V"⟩, 12), (⟨"BranchPackerModel", "isSet", "(I)Z"⟩, 12), (⟨"BranchPackerModel", "all", "()I"⟩, 12), (⟨"BranchPackerModel", "entryOf", "(II)I"⟩, 12), (⟨"BranchPackerModel", "canGoOn", "(III)Z"⟩, 12), (⟨"BranchPackerModel", "isDone", "(IIII)Z"⟩, 12), (⟨"BranchPackerModel", "isStopped", "(III)Z"⟩, 12), (⟨"BranchPackerModel", "grows", "(III)Z"⟩, 12)]
theorem lw_r1 : ∀ q ∈ lw_privs_1, lw_okq q := List.forall_mem_cons.mpr ⟨lw_p0, List.forall_mem_cons.mpr ⟨lw_p1, List.forall_mem_cons.mpr ⟨lw_p2, List.forall_mem_cons.mpr ⟨lw_p3, List.forall_mem_cons.mpr ⟨lw_p4, List.forall_mem_cons.mpr ⟨lw_p5, List.forall_mem_cons.mpr ⟨lw_p6, List.forall_mem_cons.mpr ⟨lw_p7, List.forall_mem_cons.mpr ⟨lw_p8, List.forall_mem_cons.mpr ⟨lw_p9, List.forall_mem_cons.mpr ⟨lw_p10, List.forall_mem_cons.mpr ⟨lw_p11, List.forall_mem_cons.mpr ⟨lw_p12, List.forall_mem_cons.mpr ⟨lw_p13, List.forall_mem_cons.mpr ⟨lw_p14, List.forall_mem_cons.mpr ⟨lw_p15, fun _ h => absurd h List.not_mem_nil⟩⟩⟩⟩⟩⟩⟩⟩⟩⟩⟩⟩⟩⟩⟩⟩
theorem lw_p16 : lw_okq (⟨"BranchPackerModel", "pack", "()Z"⟩, 12) := ⟨⟨by decide +kernel, by decide +kernel⟩, List.mem_of_getElem? (i := 253) (by decide +kernel), List.mem_of_getElem? (i := 391) (by decide +kernel), List.mem_of_getElem? (i := 392) (by decide +kernel)⟩
def lw_privs_2 : List (MethodName × Nat) := [(⟨"BranchPackerModel", "pack", "()Z"⟩, 12)]
theorem lw_r2 : ∀ q ∈ lw_privs_2, lw_okq q := List.forall_mem_cons.mpr ⟨lw_p16, fun _ h => absurd h List.not_mem_nil⟩
def lw_privs : List (MethodName × Nat) := lw_privs_1 ++ (lw_privs_2)
def lw_tbl : List Cond := k2_sels lw_privs ++ tables_1
theorem lw_privs_ok : ∀ q ∈ lw_privs, lw_okq q := by
  show ∀ q ∈ lw_privs_1 ++ (lw_privs_2), lw_okq q
  exact List.forall_mem_append.mpr ⟨lw_r1, lw_r2⟩
end
section
def RX0 : String := "BranchPacker$Grove"
def TX0 : u_T := fun k => match k with
  | 0 => ("BranchPacker$Grove", "roots", "[I", true)
  | _ => ("BranchPacker$Grove", "size", "I", false)
def tyX0 : Nat → FieldType := fun k => match k with
  | 0 => .array .int
  | _ => .int
theorem nmX0 : ∀ a, a < 2 → ∀ b, b < 2 → a ≠ b → (TX0 a).2.1 ≠ (TX0 b).2.1 := by decide +kernel
theorem tyX0_ok : ∀ k, k < 2 → parseFieldDescriptor (TX0 k).2.2.1 = some (tyX0 k) := by decide +kernel
def RX1 : String := "BranchPacker$Net"
def TX1 : u_T := fun k => match k with
  | 0 => ("BranchPacker$Net", "tails", "[I", true)
  | 1 => ("BranchPacker$Net", "heads", "[I", true)
  | 2 => ("BranchPacker$Net", "vertexCount", "I", false)
  | _ => ("BranchPacker$Net", "arcCount", "I", false)
def tyX1 : Nat → FieldType := fun k => match k with
  | 0 => .array .int
  | 1 => .array .int
  | 2 => .int
  | _ => .int
theorem nmX1 : ∀ a, a < 4 → ∀ b, b < 4 → a ≠ b → (TX1 a).2.1 ≠ (TX1 b).2.1 := by decide +kernel
theorem tyX1_ok : ∀ k, k < 4 → parseFieldDescriptor (TX1 k).2.2.1 = some (tyX1 k) := by decide +kernel
def RX2 : String := "BranchPacker$Packing"
def TX2 : u_T := fun k => match k with
  | 0 => ("BranchPacker$Packing", "owners", "[I", true)
  | 1 => ("BranchPacker$Packing", "surplus", "[I", true)
  | _ => ("BranchPacker$Packing", "isStale", "Z", false)
def tyX2 : Nat → FieldType := fun k => match k with
  | 0 => .array .int
  | 1 => .array .int
  | _ => .boolean
theorem nmX2 : ∀ a, a < 3 → ∀ b, b < 3 → a ≠ b → (TX2 a).2.1 ≠ (TX2 b).2.1 := by decide +kernel
theorem tyX2_ok : ∀ k, k < 3 → parseFieldDescriptor (TX2 k).2.2.1 = some (tyX2 k) := by decide +kernel
def RX3 : String := "BranchPacker"
def TX3 : u_T := fun k => match k with
  | 0 => ("BranchPacker", "net", "LBranchPacker$Net;", true)
  | 1 => ("BranchPacker", "grove", "LBranchPacker$Grove;", true)
  | _ => ("BranchPacker", "packing", "LBranchPacker$Packing;", true)
def tyX3 : Nat → FieldType := fun k => match k with
  | 0 => .object "BranchPacker$Net"
  | 1 => .object "BranchPacker$Grove"
  | _ => .object "BranchPacker$Packing"
theorem nmX3 : ∀ a, a < 3 → ∀ b, b < 3 → a ≠ b → (TX3 a).2.1 ≠ (TX3 b).2.1 := by decide +kernel
theorem tyX3_ok : ∀ k, k < 3 → parseFieldDescriptor (TX3 k).2.2.1 = some (tyX3 k) := by decide +kernel
def RX4 : String := "BranchPackerModel"
def RJ6 : String := "java/lang/Integer"
def RJ9 : String := "java/lang/Math"
def RJ7 : String := "java/util/Arrays"
def RL : String := "BranchPackerLaw"
def TX4 : u_T := fun k => match k with
  | 0 => ("BranchPackerModel", "n", "I", false)
  | 1 => ("BranchPackerModel", "arcs", "I", false)
  | 2 => ("BranchPackerModel", "branchings", "I", false)
  | 3 => ("BranchPackerModel", "from", "[I", true)
  | 4 => ("BranchPackerModel", "to", "[I", true)
  | 5 => ("BranchPackerModel", "roots", "[I", true)
  | 6 => ("BranchPackerModel", "owners", "[I", true)
  | 7 => ("BranchPackerModel", "ways", "[I", true)
  | 8 => ("BranchPackerModel", "trees", "[I", true)
  | 9 => ("BranchPackerModel", "hads", "[I", true)
  | 10 => ("BranchPackerModel", "useds", "[I", true)
  | _ => ("BranchPackerModel", "nexts", "[I", true)
def tyX4 : Nat → FieldType := fun k => match k with
  | 0 => .int
  | 1 => .int
  | 2 => .int
  | 3 => .array .int
  | 4 => .array .int
  | 5 => .array .int
  | 6 => .array .int
  | 7 => .array .int
  | 8 => .array .int
  | 9 => .array .int
  | 10 => .array .int
  | _ => .array .int
theorem nmX4 : ∀ a, a < 12 → ∀ b, b < 12 → a ≠ b → (TX4 a).2.1 ≠ (TX4 b).2.1 := by decide +kernel
theorem tyX4_ok : ∀ k, k < 12 → parseFieldDescriptor (TX4 k).2.2.1 = some (tyX4 k) := by decide +kernel
abbrev cX3_init : ByteArray := prog_1_method_1_code
def yX3_init : MethodName := ⟨RX3, "<init>", "()V"⟩
abbrev cX1_init : ByteArray := prog_3_method_1_code
def yX1_init : MethodName := ⟨RX1, "<init>", "()V"⟩
abbrev cX0_init : ByteArray := prog_2_method_1_code
def yX0_init : MethodName := ⟨RX0, "<init>", "()V"⟩
abbrev cX2_init : ByteArray := prog_4_method_1_code
def yX2_init : MethodName := ⟨RX2, "<init>", "()V"⟩
abbrev cX3_begin : ByteArray := prog_1_method_2_code
def yX3_begin : MethodName := ⟨RX3, "begin", "(I)Z"⟩
abbrev cX1_restart : ByteArray := prog_3_method_2_code
def yX1_restart : MethodName := ⟨RX1, "restart", "(I)V"⟩
abbrev cX3_arc : ByteArray := prog_1_method_3_code
def yX3_arc : MethodName := ⟨RX3, "arc", "(II)I"⟩
abbrev cX1_hasVertex : ByteArray := prog_3_method_5_code
def yX1_hasVertex : MethodName := ⟨RX1, "hasVertex", "(I)Z"⟩
abbrev cX1_addArc : ByteArray := prog_3_method_3_code
def yX1_addArc : MethodName := ⟨RX1, "addArc", "(II)V"⟩
abbrev cX3_drop : ByteArray := prog_1_method_4_code
def yX3_drop : MethodName := ⟨RX3, "drop", "(I)Z"⟩
abbrev cX1_hasArc : ByteArray := prog_3_method_6_code
def yX1_hasArc : MethodName := ⟨RX1, "hasArc", "(I)Z"⟩
abbrev cX1_removeArc : ByteArray := prog_3_method_4_code
def yX1_removeArc : MethodName := ⟨RX1, "removeArc", "(I)V"⟩
abbrev cX3_plant : ByteArray := prog_1_method_5_code
def yX3_plant : MethodName := ⟨RX3, "plant", "(I)I"⟩
abbrev cX1_hasSet : ByteArray := prog_3_method_7_code
def yX1_hasSet : MethodName := ⟨RX1, "hasSet", "(I)Z"⟩
abbrev cX1_allVertices : ByteArray := prog_3_method_8_code
def yX1_allVertices : MethodName := ⟨RX1, "allVertices", "()I"⟩
abbrev cX0_add : ByteArray := prog_2_method_2_code
def yX0_add : MethodName := ⟨RX0, "add", "(I)V"⟩
abbrev cX3_fell : ByteArray := prog_1_method_6_code
def yX3_fell : MethodName := ⟨RX3, "fell", "()I"⟩
abbrev cX3_count : ByteArray := prog_1_method_7_code
def yX3_count : MethodName := ⟨RX3, "count", "(I)I"⟩
abbrev cX3_end : ByteArray := prog_1_method_8_code
def yX3_end : MethodName := ⟨RX3, "end", "(II)I"⟩
abbrev cX3_entry : ByteArray := prog_1_method_9_code
def yX3_entry : MethodName := ⟨RX3, "entry", "(I)I"⟩
abbrev cX1_entrySize : ByteArray := prog_3_method_10_code
def yX1_entrySize : MethodName := ⟨RX1, "entrySize", "(I)I"⟩
abbrev cX1_enters : ByteArray := prog_3_method_9_code
def yX1_enters : MethodName := ⟨RX1, "enters", "(II)Z"⟩
abbrev cX3_missed : ByteArray := prog_1_method_10_code
def yX3_missed : MethodName := ⟨RX3, "missed", "(I)I"⟩
abbrev cX0_missing : ByteArray := prog_2_method_3_code
def yX0_missing : MethodName := ⟨RX0, "missing", "(I)I"⟩
abbrev cX3_packs : ByteArray := prog_1_method_11_code
def yX3_packs : MethodName := ⟨RX3, "packs", "()Z"⟩
abbrev cX3_firstStopper : ByteArray := prog_1_method_17_code
def yX3_firstStopper : MethodName := ⟨RX3, "firstStopper", "(I)I"⟩
abbrev cX3_comesBefore : ByteArray := prog_1_method_19_code
def yX3_comesBefore : MethodName := ⟨RX3, "comesBefore", "(II)Z"⟩
abbrev cJ6_bitCount : ByteArray := prog_7_method_49_code
def yJ6_bitCount : MethodName := ⟨RJ6, "bitCount", "(I)I"⟩
abbrev cX3_stops : ByteArray := prog_1_method_18_code
def yX3_stops : MethodName := ⟨RX3, "stops", "(II)Z"⟩
abbrev cX3_stopper : ByteArray := prog_1_method_12_code
def yX3_stopper : MethodName := ⟨RX3, "stopper", "()I"⟩
abbrev cX3_owner : ByteArray := prog_1_method_13_code
def yX3_owner : MethodName := ⟨RX3, "owner", "(I)I"⟩
abbrev cX2_refresh : ByteArray := prog_4_method_2_code
def yX2_refresh : MethodName := ⟨RX2, "refresh", "(LBranchPacker$Net;LBranchPacker$Grove;)V"⟩
abbrev cJ7_fill : ByteArray := prog_9_method_103_code
def yJ7_fill : MethodName := ⟨RJ7, "fill", "([II)V"⟩
abbrev cX2_measureSurplus : ByteArray := prog_4_method_3_code
def yX2_measureSurplus : MethodName := ⟨RX2, "measureSurplus", "(LBranchPacker$Net;LBranchPacker$Grove;)Z"⟩
abbrev cX2_growToAll : ByteArray := prog_4_method_4_code
def yX2_growToAll : MethodName := ⟨RX2, "growToAll", "(LBranchPacker$Net;II)V"⟩
abbrev cX2_leastSafeArc : ByteArray := prog_4_method_5_code
def yX2_leastSafeArc : MethodName := ⟨RX2, "leastSafeArc", "(LBranchPacker$Net;I)I"⟩
abbrev cX2_leadsOut : ByteArray := prog_4_method_6_code
def yX2_leadsOut : MethodName := ⟨RX2, "leadsOut", "(LBranchPacker$Net;II)Z"⟩
abbrev cX2_isSafe : ByteArray := prog_4_method_7_code
def yX2_isSafe : MethodName := ⟨RX2, "isSafe", "(LBranchPacker$Net;II)Z"⟩
abbrev cX2_takesFrom : ByteArray := prog_4_method_9_code
def yX2_takesFrom : MethodName := ⟨RX2, "takesFrom", "(LBranchPacker$Net;III)Z"⟩
abbrev cX2_use : ByteArray := prog_4_method_8_code
def yX2_use : MethodName := ⟨RX2, "use", "(LBranchPacker$Net;III)V"⟩
abbrev cX3_way : ByteArray := prog_1_method_14_code
def yX3_way : MethodName := ⟨RX3, "way", "(II)I"⟩
abbrev cX3_spare : ByteArray := prog_1_method_15_code
def yX3_spare : MethodName := ⟨RX3, "spare", "(I)Z"⟩
abbrev cX3_most : ByteArray := prog_1_method_16_code
def yX3_most : MethodName := ⟨RX3, "most", "(I)I"⟩
abbrev cJ9_min : ByteArray := prog_8_method_69_code
def yJ9_min : MethodName := ⟨RJ9, "min", "(II)I"⟩
abbrev cX4_init : ByteArray := prog_6_method_1_code
def yX4_init : MethodName := ⟨RX4, "<init>", "()V"⟩
abbrev cX4_begin : ByteArray := prog_6_method_9_code
def yX4_begin : MethodName := ⟨RX4, "begin", "(I)Z"⟩
abbrev cX4_arc : ByteArray := prog_6_method_10_code
def yX4_arc : MethodName := ⟨RX4, "arc", "(II)I"⟩
abbrev cX4_drop : ByteArray := prog_6_method_11_code
def yX4_drop : MethodName := ⟨RX4, "drop", "(I)Z"⟩
abbrev cX4_isArc : ByteArray := prog_6_method_6_code
def yX4_isArc : MethodName := ⟨RX4, "isArc", "(I)Z"⟩
abbrev cX4_remove : ByteArray := prog_6_method_12_code
def yX4_remove : MethodName := ⟨RX4, "remove", "(I)V"⟩
abbrev cX4_plant : ByteArray := prog_6_method_13_code
def yX4_plant : MethodName := ⟨RX4, "plant", "(I)I"⟩
abbrev cX4_isSet : ByteArray := prog_6_method_5_code
def yX4_isSet : MethodName := ⟨RX4, "isSet", "(I)Z"⟩
abbrev cX4_all : ByteArray := prog_6_method_4_code
def yX4_all : MethodName := ⟨RX4, "all", "()I"⟩
abbrev cX4_fell : ByteArray := prog_6_method_14_code
def yX4_fell : MethodName := ⟨RX4, "fell", "()I"⟩
abbrev cX4_count : ByteArray := prog_6_method_15_code
def yX4_count : MethodName := ⟨RX4, "count", "(I)I"⟩
abbrev cX4_end : ByteArray := prog_6_method_16_code
def yX4_end : MethodName := ⟨RX4, "end", "(II)I"⟩
abbrev cX4_entry : ByteArray := prog_6_method_18_code
def yX4_entry : MethodName := ⟨RX4, "entry", "(I)I"⟩
abbrev cX4_entryOf : ByteArray := prog_6_method_17_code
def yX4_entryOf : MethodName := ⟨RX4, "entryOf", "(II)I"⟩
abbrev cX4_has : ByteArray := prog_6_method_3_code
def yX4_has : MethodName := ⟨RX4, "has", "(II)Z"⟩
abbrev cX4_missed : ByteArray := prog_6_method_19_code
def yX4_missed : MethodName := ⟨RX4, "missed", "(I)I"⟩
abbrev cX4_stopper : ByteArray := prog_6_method_20_code
def yX4_stopper : MethodName := ⟨RX4, "stopper", "()I"⟩
abbrev cX4_isBefore : ByteArray := prog_6_method_8_code
def yX4_isBefore : MethodName := ⟨RX4, "isBefore", "(II)Z"⟩
abbrev cX4_size : ByteArray := prog_6_method_7_code
def yX4_size : MethodName := ⟨RX4, "size", "(I)I"⟩
abbrev cX4_packs : ByteArray := prog_6_method_25_code
def yX4_packs : MethodName := ⟨RX4, "packs", "()Z"⟩
abbrev cX4_canGoOn : ByteArray := prog_6_method_23_code
def yX4_canGoOn : MethodName := ⟨RX4, "canGoOn", "(III)Z"⟩
abbrev cX4_isDone : ByteArray := prog_6_method_22_code
def yX4_isDone : MethodName := ⟨RX4, "isDone", "(IIII)Z"⟩
abbrev cX4_isStopped : ByteArray := prog_6_method_21_code
def yX4_isStopped : MethodName := ⟨RX4, "isStopped", "(III)Z"⟩
abbrev cX4_grows : ByteArray := prog_6_method_24_code
def yX4_grows : MethodName := ⟨RX4, "grows", "(III)Z"⟩
abbrev cX4_owner : ByteArray := prog_6_method_27_code
def yX4_owner : MethodName := ⟨RX4, "owner", "(I)I"⟩
abbrev cX4_pack : ByteArray := prog_6_method_26_code
def yX4_pack : MethodName := ⟨RX4, "pack", "()Z"⟩
abbrev cX4_way : ByteArray := prog_6_method_28_code
def yX4_way : MethodName := ⟨RX4, "way", "(II)I"⟩
abbrev cX4_spare : ByteArray := prog_6_method_29_code
def yX4_spare : MethodName := ⟨RX4, "spare", "(I)Z"⟩
abbrev cX4_most : ByteArray := prog_6_method_30_code
def yX4_most : MethodName := ⟨RX4, "most", "(I)I"⟩
abbrev cL_law : ByteArray := code
def yL_law : MethodName := ⟨RL, "law", "([I)Z"⟩
abbrev classes : List vw_C := [(RX0, TX0, 2), (RX1, TX1, 4), (RX2, TX2, 3), (RX3, TX3, 3), (RX4, TX4, 12)]
def bigW : List Cond := lw_tbl.filter goodWord
abbrev wq (y : MethodName) (c : ByteArray) (n : Nat) (r : Option FieldType) : List Cond := .code y c n r :: bigW
theorem bw_t (i : Nat) {w : Cond} (h : tables_1[i]? = some w) (hg : goodWord w = true) : w ∈ bigW := List.mem_filter.mpr ⟨List.mem_append_right _ (List.mem_of_getElem? h), hg⟩
theorem bw_s (i : Nat) {w : Cond} (h : (k2_sels lw_privs)[i]? = some w) (hg : goodWord w = true) : w ∈ bigW := List.mem_filter.mpr ⟨List.mem_append_left _ (List.mem_of_getElem? h), hg⟩
theorem bw_l {w : Cond} (h : w ∈ bigW) : w ∈ lw_tbl := (List.mem_filter.mp h).1
theorem bw_g {w : Cond} (h : w ∈ bigW) : (w.onTables && w.keeps) = true ∨ ∃ ty, w = .arrayClass ty := good_of_word (List.mem_filter.mp h).2
theorem bw_c {c0 c1 : Cond} (h1 : c1 ∈ bigW) : GoodIn (c0 :: bigW) (c1 :: bigW) := by
  intro w hw
  rcases List.mem_cons.mp hw with rfl | h
  · exact ⟨List.mem_cons_of_mem _ h1, bw_g h1⟩
  · exact ⟨List.mem_cons_of_mem _ h, bw_g h⟩
theorem bw_V {c0 : Cond} {own C : String} {idx n : Nat} {y : MethodName} {b : ByteArray} {r : Option FieldType} (hl : Cond.methodLink own idx y ∈ bigW) (hi : Cond.instanceMethod y ∈ bigW) (hs : Cond.selects C y y ∈ bigW) (hn : Cond.initialized C ∈ bigW) (hc : Cond.code y b n r ∈ bigW) : GoodIn (c0 :: bigW) (wsV own idx C y (wq y b n r)) := by
  intro w hw
  rcases List.mem_append.mp hw with h | h
  · simp only [List.mem_cons, List.not_mem_nil, or_false] at h
    have hm : w ∈ bigW := by
      rcases h with rfl | rfl | rfl | rfl
      · exact hl
      · exact hi
      · exact hs
      · exact hn
    exact ⟨List.mem_cons_of_mem _ hm, bw_g hm⟩
  · exact bw_c hc w h
theorem bw_S {c0 : Cond} {own : String} {idx n : Nat} {y : MethodName} {b : ByteArray} {r : Option FieldType} (hl : Cond.methodLink own idx y ∈ bigW) (hi : Cond.static y ∈ bigW) (hn : Cond.initialized own ∈ bigW) (hc : Cond.code y b n r ∈ bigW) : GoodIn (c0 :: bigW) (wsS own idx y (wq y b n r)) := by
  intro w hw
  rcases List.mem_append.mp hw with h | h
  · simp only [List.mem_cons, List.not_mem_nil, or_false] at h
    have hm : w ∈ bigW := by
      rcases h with rfl | rfl | rfl
      · exact hl
      · exact hi
      · exact hn
    exact ⟨List.mem_cons_of_mem _ hm, bw_g hm⟩
  · exact bw_c hc w h
theorem in_X0 : ∀ w ∈ u_ws RX0 TX0 2, w ∈ bigW := fun w h => List.mem_filter.mpr ⟨List.mem_append_right _ ((by decide +kernel : ∀ w ∈ u_ws RX0 TX0 2, w ∈ tables_1) w h), (by decide +kernel : ∀ w ∈ u_ws RX0 TX0 2, goodWord w = true) w h⟩
theorem in_X1 : ∀ w ∈ u_ws RX1 TX1 4, w ∈ bigW := fun w h => List.mem_filter.mpr ⟨List.mem_append_right _ ((by decide +kernel : ∀ w ∈ u_ws RX1 TX1 4, w ∈ tables_1) w h), (by decide +kernel : ∀ w ∈ u_ws RX1 TX1 4, goodWord w = true) w h⟩
theorem in_X2 : ∀ w ∈ u_ws RX2 TX2 3, w ∈ bigW := fun w h => List.mem_filter.mpr ⟨List.mem_append_right _ ((by decide +kernel : ∀ w ∈ u_ws RX2 TX2 3, w ∈ tables_1) w h), (by decide +kernel : ∀ w ∈ u_ws RX2 TX2 3, goodWord w = true) w h⟩
theorem in_X3 : ∀ w ∈ u_ws RX3 TX3 3, w ∈ bigW := fun w h => List.mem_filter.mpr ⟨List.mem_append_right _ ((by decide +kernel : ∀ w ∈ u_ws RX3 TX3 3, w ∈ tables_1) w h), (by decide +kernel : ∀ w ∈ u_ws RX3 TX3 3, goodWord w = true) w h⟩
theorem in_X4 : ∀ w ∈ u_ws RX4 TX4 12, w ∈ bigW := fun w h => List.mem_filter.mpr ⟨List.mem_append_right _ ((by decide +kernel : ∀ w ∈ u_ws RX4 TX4 12, w ∈ tables_1) w h), (by decide +kernel : ∀ w ∈ u_ws RX4 TX4 12, goodWord w = true) w h⟩
theorem mq_in_L : (.initialized RL : Cond) ∈ bigW := bw_t 0 rfl rfl
theorem mq_in_X3 : (.initialized RX3 : Cond) ∈ bigW := bw_t 1 rfl rfl
theorem mq_in_X1 : (.initialized RX1 : Cond) ∈ bigW := bw_t 2 rfl rfl
theorem mq_in_X0 : (.initialized RX0 : Cond) ∈ bigW := bw_t 3 rfl rfl
theorem mq_in_X2 : (.initialized RX2 : Cond) ∈ bigW := bw_t 4 rfl rfl
theorem mq_in_X4 : (.initialized RX4 : Cond) ∈ bigW := bw_t 5 rfl rfl
theorem mq_in_J6 : (.initialized RJ6 : Cond) ∈ bigW := bw_t 6 rfl rfl
theorem mq_in_J7 : (.initialized RJ7 : Cond) ∈ bigW := bw_t 7 rfl rfl
theorem mq_in_J9 : (.initialized "java/lang/Math" : Cond) ∈ bigW := bw_t 8 rfl rfl
theorem mq_cl_L_7 : (.classLink RL 7 RX3 : Cond) ∈ bigW := bw_t 9 rfl rfl
theorem mq_ins_X3 : (.instantiable RX3 3 : Cond) ∈ bigW := bw_t 10 rfl rfl
theorem mq_ml_L_9 : (.methodLink RL 9 yX3_init : Cond) ∈ bigW := bw_t 11 rfl rfl
theorem mq_im_X3_init : (.instanceMethod yX3_init : Cond) ∈ bigW := bw_t 12 rfl rfl
theorem mq_co_X3_init : (.code yX3_init cX3_init 1 none : Cond) ∈ bigW := bw_t 13 rfl rfl
theorem mq_ml_X3_1 : (.methodLink RX3 1 objectInit : Cond) ∈ bigW := bw_t 14 rfl rfl
theorem mq_im_obj : (.instanceMethod objectInit : Cond) ∈ bigW := bw_t 15 rfl rfl
theorem mq_co_obj : (.code objectInit ⟨#[0xb1]⟩ 1 none : Cond) ∈ bigW := bw_t 16 rfl rfl
theorem mq_cl_X3_7 : (.classLink RX3 7 RX1 : Cond) ∈ bigW := bw_t 17 rfl rfl
theorem mq_ins_X1 : (.instantiable RX1 4 : Cond) ∈ bigW := bw_t 18 rfl rfl
theorem mq_im_X1_init : (.instanceMethod yX1_init : Cond) ∈ bigW := bw_t 20 rfl rfl
theorem mq_co_X1_init : (.code yX1_init cX1_init 1 none : Cond) ∈ bigW := bw_t 21 rfl rfl
theorem mq_ml_X1_3 : (.methodLink RX1 3 objectInit : Cond) ∈ bigW := bw_t 22 rfl rfl
theorem mq_fl_X1_9 : (.fieldLink RX1 9 "BranchPacker$Net" "tails" "[I" : Cond) ∈ bigW := bw_t 23 rfl rfl
theorem mq_fl_X1_15 : (.fieldLink RX1 15 "BranchPacker$Net" "heads" "[I" : Cond) ∈ bigW := bw_t 26 rfl rfl
theorem mq_fl_X1_18 : (.fieldLink RX1 18 "BranchPacker$Net" "vertexCount" "I" : Cond) ∈ bigW := bw_t 29 rfl rfl
theorem mq_fl_X1_22 : (.fieldLink RX1 22 "BranchPacker$Net" "arcCount" "I" : Cond) ∈ bigW := bw_t 32 rfl rfl
theorem mq_ac : (.arrayClass .int : Cond) ∈ bigW := bw_t 44 rfl rfl
theorem mq_cl_X3_16 : (.classLink RX3 16 RX0 : Cond) ∈ bigW := bw_t 45 rfl rfl
theorem mq_ins_X0 : (.instantiable RX0 2 : Cond) ∈ bigW := bw_t 46 rfl rfl
theorem mq_im_X0_init : (.instanceMethod yX0_init : Cond) ∈ bigW := bw_t 48 rfl rfl
theorem mq_co_X0_init : (.code yX0_init cX0_init 1 none : Cond) ∈ bigW := bw_t 49 rfl rfl
theorem mq_ml_X0_3 : (.methodLink RX0 3 objectInit : Cond) ∈ bigW := bw_t 50 rfl rfl
theorem mq_fl_X0_9 : (.fieldLink RX0 9 "BranchPacker$Grove" "roots" "[I" : Cond) ∈ bigW := bw_t 51 rfl rfl
theorem mq_fl_X0_15 : (.fieldLink RX0 15 "BranchPacker$Grove" "size" "I" : Cond) ∈ bigW := bw_t 53 rfl rfl
theorem mq_cl_X3_23 : (.classLink RX3 23 RX2 : Cond) ∈ bigW := bw_t 61 rfl rfl
theorem mq_ins_X2 : (.instantiable RX2 3 : Cond) ∈ bigW := bw_t 62 rfl rfl
theorem mq_im_X2_init : (.instanceMethod yX2_init : Cond) ∈ bigW := bw_t 64 rfl rfl
theorem mq_co_X2_init : (.code yX2_init cX2_init 1 none : Cond) ∈ bigW := bw_t 65 rfl rfl
theorem mq_ml_X2_3 : (.methodLink RX2 3 objectInit : Cond) ∈ bigW := bw_t 66 rfl rfl
theorem mq_fl_X2_9 : (.fieldLink RX2 9 "BranchPacker$Packing" "owners" "[I" : Cond) ∈ bigW := bw_t 67 rfl rfl
theorem mq_fl_X2_15 : (.fieldLink RX2 15 "BranchPacker$Packing" "surplus" "[I" : Cond) ∈ bigW := bw_t 69 rfl rfl
theorem mq_fl_X2_18 : (.fieldLink RX2 18 "BranchPacker$Packing" "isStale" "Z" : Cond) ∈ bigW := bw_t 70 rfl rfl
theorem mq_fl_X3_10 : (.fieldLink RX3 10 "BranchPacker" "net" "LBranchPacker$Net;" : Cond) ∈ bigW := bw_t 79 rfl rfl
theorem mq_fl_X3_19 : (.fieldLink RX3 19 "BranchPacker" "grove" "LBranchPacker$Grove;" : Cond) ∈ bigW := bw_t 80 rfl rfl
theorem mq_fl_X3_26 : (.fieldLink RX3 26 "BranchPacker" "packing" "LBranchPacker$Packing;" : Cond) ∈ bigW := bw_t 81 rfl rfl
theorem mq_ml_L_13 : (.methodLink RL 13 yX3_begin : Cond) ∈ bigW := bw_t 89 rfl rfl
theorem mq_im_X3_begin : (.instanceMethod yX3_begin : Cond) ∈ bigW := bw_t 90 rfl rfl
theorem mq_se_X3_begin : (.selects RX3 yX3_begin yX3_begin : Cond) ∈ bigW := bw_t 91 rfl rfl
theorem mq_co_X3_begin : (.code yX3_begin cX3_begin 2 (some .boolean) : Cond) ∈ bigW := bw_t 92 rfl rfl
theorem mq_ml_X3_30 : (.methodLink RX3 30 yX1_restart : Cond) ∈ bigW := bw_t 93 rfl rfl
theorem mq_im_X1_restart : (.instanceMethod yX1_restart : Cond) ∈ bigW := bw_t 94 rfl rfl
theorem mq_se_X1_restart : (.selects RX1 yX1_restart yX1_restart : Cond) ∈ bigW := bw_t 95 rfl rfl
theorem mq_co_X1_restart : (.code yX1_restart cX1_restart 2 none : Cond) ∈ bigW := bw_t 96 rfl rfl
theorem mq_ml_L_18 : (.methodLink RL 18 yX3_arc : Cond) ∈ bigW := bw_t 97 rfl rfl
theorem mq_im_X3_arc : (.instanceMethod yX3_arc : Cond) ∈ bigW := bw_t 98 rfl rfl
theorem mq_se_X3_arc : (.selects RX3 yX3_arc yX3_arc : Cond) ∈ bigW := bw_t 99 rfl rfl
theorem mq_co_X3_arc : (.code yX3_arc cX3_arc 3 (some .int) : Cond) ∈ bigW := bw_t 100 rfl rfl
theorem mq_ml_X3_45 : (.methodLink RX3 45 yX1_hasVertex : Cond) ∈ bigW := bw_t 101 rfl rfl
theorem mq_im_X1_hasVertex : (.instanceMethod yX1_hasVertex : Cond) ∈ bigW := bw_t 102 rfl rfl
theorem mq_se_X1_hasVertex : (.selects RX1 yX1_hasVertex yX1_hasVertex : Cond) ∈ bigW := bw_t 103 rfl rfl
theorem mq_co_X1_hasVertex : (.code yX1_hasVertex cX1_hasVertex 2 (some .boolean) : Cond) ∈ bigW := bw_t 104 rfl rfl
theorem mq_ml_X3_49 : (.methodLink RX3 49 yX1_addArc : Cond) ∈ bigW := bw_t 105 rfl rfl
theorem mq_im_X1_addArc : (.instanceMethod yX1_addArc : Cond) ∈ bigW := bw_t 106 rfl rfl
theorem mq_se_X1_addArc : (.selects RX1 yX1_addArc yX1_addArc : Cond) ∈ bigW := bw_t 107 rfl rfl
theorem mq_co_X1_addArc : (.code yX1_addArc cX1_addArc 3 none : Cond) ∈ bigW := bw_t 108 rfl rfl
theorem mq_ml_L_23 : (.methodLink RL 23 yX3_drop : Cond) ∈ bigW := bw_t 109 rfl rfl
theorem mq_im_X3_drop : (.instanceMethod yX3_drop : Cond) ∈ bigW := bw_t 110 rfl rfl
theorem mq_se_X3_drop : (.selects RX3 yX3_drop yX3_drop : Cond) ∈ bigW := bw_t 111 rfl rfl
theorem mq_co_X3_drop : (.code yX3_drop cX3_drop 2 (some .boolean) : Cond) ∈ bigW := bw_t 112 rfl rfl
theorem mq_ml_X3_53 : (.methodLink RX3 53 yX1_hasArc : Cond) ∈ bigW := bw_t 113 rfl rfl
theorem mq_im_X1_hasArc : (.instanceMethod yX1_hasArc : Cond) ∈ bigW := bw_t 114 rfl rfl
theorem mq_se_X1_hasArc : (.selects RX1 yX1_hasArc yX1_hasArc : Cond) ∈ bigW := bw_t 115 rfl rfl
theorem mq_co_X1_hasArc : (.code yX1_hasArc cX1_hasArc 2 (some .boolean) : Cond) ∈ bigW := bw_t 116 rfl rfl
theorem mq_ml_X3_56 : (.methodLink RX3 56 yX1_removeArc : Cond) ∈ bigW := bw_t 117 rfl rfl
theorem mq_im_X1_removeArc : (.instanceMethod yX1_removeArc : Cond) ∈ bigW := bw_t 118 rfl rfl
theorem mq_se_X1_removeArc : (.selects RX1 yX1_removeArc yX1_removeArc : Cond) ∈ bigW := bw_t 119 rfl rfl
theorem mq_co_X1_removeArc : (.code yX1_removeArc cX1_removeArc 3 none : Cond) ∈ bigW := bw_t 120 rfl rfl
theorem mq_ml_L_27 : (.methodLink RL 27 yX3_plant : Cond) ∈ bigW := bw_t 121 rfl rfl
theorem mq_im_X3_plant : (.instanceMethod yX3_plant : Cond) ∈ bigW := bw_t 122 rfl rfl
theorem mq_se_X3_plant : (.selects RX3 yX3_plant yX3_plant : Cond) ∈ bigW := bw_t 123 rfl rfl
theorem mq_co_X3_plant : (.code yX3_plant cX3_plant 2 (some .int) : Cond) ∈ bigW := bw_t 124 rfl rfl
theorem mq_ml_X3_59 : (.methodLink RX3 59 yX1_hasSet : Cond) ∈ bigW := bw_t 125 rfl rfl
theorem mq_im_X1_hasSet : (.instanceMethod yX1_hasSet : Cond) ∈ bigW := bw_t 126 rfl rfl
theorem mq_se_X1_hasSet : (.selects RX1 yX1_hasSet yX1_hasSet : Cond) ∈ bigW := bw_t 127 rfl rfl
theorem mq_co_X1_hasSet : (.code yX1_hasSet cX1_hasSet 2 (some .boolean) : Cond) ∈ bigW := bw_t 128 rfl rfl
theorem mq_ml_X1_25 : (.methodLink RX1 25 yX1_allVertices : Cond) ∈ bigW := bw_t 129 rfl rfl
theorem mq_im_X1_allVertices : (.instanceMethod yX1_allVertices : Cond) ∈ bigW := bw_t 130 rfl rfl
theorem mq_se_X1_allVertices : (.selects RX1 yX1_allVertices yX1_allVertices : Cond) ∈ bigW := bw_t 131 rfl rfl
theorem mq_co_X1_allVertices : (.code yX1_allVertices cX1_allVertices 1 (some .int) : Cond) ∈ bigW := bw_t 132 rfl rfl
theorem mq_ml_X3_62 : (.methodLink RX3 62 yX0_add : Cond) ∈ bigW := bw_t 133 rfl rfl
theorem mq_im_X0_add : (.instanceMethod yX0_add : Cond) ∈ bigW := bw_t 134 rfl rfl
theorem mq_se_X0_add : (.selects RX0 yX0_add yX0_add : Cond) ∈ bigW := bw_t 135 rfl rfl
theorem mq_co_X0_add : (.code yX0_add cX0_add 2 none : Cond) ∈ bigW := bw_t 136 rfl rfl
theorem mq_ml_L_32 : (.methodLink RL 32 yX3_fell : Cond) ∈ bigW := bw_t 137 rfl rfl
theorem mq_im_X3_fell : (.instanceMethod yX3_fell : Cond) ∈ bigW := bw_t 138 rfl rfl
theorem mq_se_X3_fell : (.selects RX3 yX3_fell yX3_fell : Cond) ∈ bigW := bw_t 139 rfl rfl
theorem mq_co_X3_fell : (.code yX3_fell cX3_fell 1 (some .int) : Cond) ∈ bigW := bw_t 140 rfl rfl
theorem mq_ml_L_37 : (.methodLink RL 37 yX3_count : Cond) ∈ bigW := bw_t 141 rfl rfl
theorem mq_im_X3_count : (.instanceMethod yX3_count : Cond) ∈ bigW := bw_t 142 rfl rfl
theorem mq_se_X3_count : (.selects RX3 yX3_count yX3_count : Cond) ∈ bigW := bw_t 143 rfl rfl
theorem mq_co_X3_count : (.code yX3_count cX3_count 2 (some .int) : Cond) ∈ bigW := bw_t 144 rfl rfl
theorem mq_ml_L_41 : (.methodLink RL 41 yX3_end : Cond) ∈ bigW := bw_t 145 rfl rfl
theorem mq_im_X3_end : (.instanceMethod yX3_end : Cond) ∈ bigW := bw_t 146 rfl rfl
theorem mq_se_X3_end : (.selects RX3 yX3_end yX3_end : Cond) ∈ bigW := bw_t 147 rfl rfl
theorem mq_co_X3_end : (.code yX3_end cX3_end 3 (some .int) : Cond) ∈ bigW := bw_t 148 rfl rfl
theorem mq_ml_L_45 : (.methodLink RL 45 yX3_entry : Cond) ∈ bigW := bw_t 149 rfl rfl
theorem mq_im_X3_entry : (.instanceMethod yX3_entry : Cond) ∈ bigW := bw_t 150 rfl rfl
theorem mq_se_X3_entry : (.selects RX3 yX3_entry yX3_entry : Cond) ∈ bigW := bw_t 151 rfl rfl
theorem mq_co_X3_entry : (.code yX3_entry cX3_entry 2 (some .int) : Cond) ∈ bigW := bw_t 152 rfl rfl
theorem mq_ml_X3_75 : (.methodLink RX3 75 yX1_entrySize : Cond) ∈ bigW := bw_t 153 rfl rfl
theorem mq_im_X1_entrySize : (.instanceMethod yX1_entrySize : Cond) ∈ bigW := bw_t 154 rfl rfl
theorem mq_se_X1_entrySize : (.selects RX1 yX1_entrySize yX1_entrySize : Cond) ∈ bigW := bw_t 155 rfl rfl
theorem mq_co_X1_entrySize : (.code yX1_entrySize cX1_entrySize 4 (some .int) : Cond) ∈ bigW := bw_t 156 rfl rfl
theorem mq_ml_X1_29 : (.methodLink RX1 29 yX1_enters : Cond) ∈ bigW := bw_t 157 rfl rfl
theorem mq_im_X1_enters : (.instanceMethod yX1_enters : Cond) ∈ bigW := bw_t 158 rfl rfl
theorem mq_se_X1_enters : (.selects RX1 yX1_enters yX1_enters : Cond) ∈ bigW := bw_t 159 rfl rfl
theorem mq_co_X1_enters : (.code yX1_enters cX1_enters 3 (some .boolean) : Cond) ∈ bigW := bw_t 160 rfl rfl
theorem mq_ml_L_49 : (.methodLink RL 49 yX3_missed : Cond) ∈ bigW := bw_t 161 rfl rfl
theorem mq_im_X3_missed : (.instanceMethod yX3_missed : Cond) ∈ bigW := bw_t 162 rfl rfl
theorem mq_se_X3_missed : (.selects RX3 yX3_missed yX3_missed : Cond) ∈ bigW := bw_t 163 rfl rfl
theorem mq_co_X3_missed : (.code yX3_missed cX3_missed 2 (some .int) : Cond) ∈ bigW := bw_t 164 rfl rfl
theorem mq_ml_X3_79 : (.methodLink RX3 79 yX0_missing : Cond) ∈ bigW := bw_t 165 rfl rfl
theorem mq_im_X0_missing : (.instanceMethod yX0_missing : Cond) ∈ bigW := bw_t 166 rfl rfl
theorem mq_se_X0_missing : (.selects RX0 yX0_missing yX0_missing : Cond) ∈ bigW := bw_t 167 rfl rfl
theorem mq_co_X0_missing : (.code yX0_missing cX0_missing 4 (some .int) : Cond) ∈ bigW := bw_t 168 rfl rfl
theorem mq_ml_L_53 : (.methodLink RL 53 yX3_packs : Cond) ∈ bigW := bw_t 169 rfl rfl
theorem mq_im_X3_packs : (.instanceMethod yX3_packs : Cond) ∈ bigW := bw_t 170 rfl rfl
theorem mq_se_X3_packs : (.selects RX3 yX3_packs yX3_packs : Cond) ∈ bigW := bw_t 171 rfl rfl
theorem mq_co_X3_packs : (.code yX3_packs cX3_packs 1 (some .boolean) : Cond) ∈ bigW := bw_t 172 rfl rfl
theorem mq_ml_X3_82 : (.methodLink RX3 82 yX3_firstStopper : Cond) ∈ bigW := bw_t 173 rfl rfl
theorem mq_im_X3_firstStopper : (.instanceMethod yX3_firstStopper : Cond) ∈ bigW := bw_t 175 rfl rfl
theorem mq_co_X3_firstStopper : (.code yX3_firstStopper cX3_firstStopper 4 (some .int) : Cond) ∈ bigW := bw_t 176 rfl rfl
theorem mq_ml_X3_92 : (.methodLink RX3 92 yX1_allVertices : Cond) ∈ bigW := bw_t 177 rfl rfl
theorem mq_ml_X3_102 : (.methodLink RX3 102 yX3_comesBefore : Cond) ∈ bigW := bw_t 178 rfl rfl
theorem mq_st_X3_comesBefore : (.static yX3_comesBefore : Cond) ∈ bigW := bw_t 179 rfl rfl
theorem mq_co_X3_comesBefore : (.code yX3_comesBefore cX3_comesBefore 6 (some .boolean) : Cond) ∈ bigW := bw_t 180 rfl rfl
theorem mq_ml_X3_112 : (.methodLink RX3 112 yJ6_bitCount : Cond) ∈ bigW := bw_t 181 rfl rfl
theorem mq_st_J6_bitCount : (.static yJ6_bitCount : Cond) ∈ bigW := bw_t 182 rfl rfl
theorem mq_co_J6_bitCount : (.code yJ6_bitCount cJ6_bitCount 1 (some .int) : Cond) ∈ bigW := bw_t 183 rfl rfl
theorem mq_k_J6_265 : (.constant RJ6 265 1431655765 : Cond) ∈ bigW := bw_t 184 rfl rfl
theorem mq_k_J6_266 : (.constant RJ6 266 858993459 : Cond) ∈ bigW := bw_t 185 rfl rfl
theorem mq_k_J6_267 : (.constant RJ6 267 252645135 : Cond) ∈ bigW := bw_t 186 rfl rfl
theorem mq_ml_X3_106 : (.methodLink RX3 106 yX3_stops : Cond) ∈ bigW := bw_t 187 rfl rfl
theorem mq_im_X3_stops : (.instanceMethod yX3_stops : Cond) ∈ bigW := bw_t 189 rfl rfl
theorem mq_co_X3_stops : (.code yX3_stops cX3_stops 4 (some .boolean) : Cond) ∈ bigW := bw_t 190 rfl rfl
theorem mq_ml_X3_109 : (.methodLink RX3 109 yX1_enters : Cond) ∈ bigW := bw_t 191 rfl rfl
theorem mq_ml_L_58 : (.methodLink RL 58 yX3_stopper : Cond) ∈ bigW := bw_t 192 rfl rfl
theorem mq_im_X3_stopper : (.instanceMethod yX3_stopper : Cond) ∈ bigW := bw_t 193 rfl rfl
theorem mq_se_X3_stopper : (.selects RX3 yX3_stopper yX3_stopper : Cond) ∈ bigW := bw_t 194 rfl rfl
theorem mq_co_X3_stopper : (.code yX3_stopper cX3_stopper 1 (some .int) : Cond) ∈ bigW := bw_t 195 rfl rfl
theorem mq_ml_L_62 : (.methodLink RL 62 yX3_owner : Cond) ∈ bigW := bw_t 196 rfl rfl
theorem mq_im_X3_owner : (.instanceMethod yX3_owner : Cond) ∈ bigW := bw_t 197 rfl rfl
theorem mq_se_X3_owner : (.selects RX3 yX3_owner yX3_owner : Cond) ∈ bigW := bw_t 198 rfl rfl
theorem mq_co_X3_owner : (.code yX3_owner cX3_owner 2 (some .int) : Cond) ∈ bigW := bw_t 199 rfl rfl
theorem mq_ml_X3_85 : (.methodLink RX3 85 yX2_refresh : Cond) ∈ bigW := bw_t 200 rfl rfl
theorem mq_im_X2_refresh : (.instanceMethod yX2_refresh : Cond) ∈ bigW := bw_t 201 rfl rfl
theorem mq_se_X2_refresh : (.selects RX2 yX2_refresh yX2_refresh : Cond) ∈ bigW := bw_t 202 rfl rfl
theorem mq_co_X2_refresh : (.code yX2_refresh cX2_refresh 4 none : Cond) ∈ bigW := bw_t 203 rfl rfl
theorem mq_ml_X2_22 : (.methodLink RX2 22 yJ7_fill : Cond) ∈ bigW := bw_t 204 rfl rfl
theorem mq_st_J7_fill : (.static yJ7_fill : Cond) ∈ bigW := bw_t 205 rfl rfl
theorem mq_co_J7_fill : (.code yJ7_fill cJ7_fill 4 none : Cond) ∈ bigW := bw_t 206 rfl rfl
theorem mq_ml_X2_28 : (.methodLink RX2 28 yX2_measureSurplus : Cond) ∈ bigW := bw_t 207 rfl rfl
theorem mq_im_X2_measureSurplus : (.instanceMethod yX2_measureSurplus : Cond) ∈ bigW := bw_t 209 rfl rfl
theorem mq_co_X2_measureSurplus : (.code yX2_measureSurplus cX2_measureSurplus 4 (some .boolean) : Cond) ∈ bigW := bw_t 210 rfl rfl
theorem mq_ml_X2_45 : (.methodLink RX2 45 yX1_allVertices : Cond) ∈ bigW := bw_t 211 rfl rfl
theorem mq_ml_X2_51 : (.methodLink RX2 51 yX1_entrySize : Cond) ∈ bigW := bw_t 212 rfl rfl
theorem mq_ml_X2_55 : (.methodLink RX2 55 yX0_missing : Cond) ∈ bigW := bw_t 213 rfl rfl
theorem mq_ml_X2_41 : (.methodLink RX2 41 yX2_growToAll : Cond) ∈ bigW := bw_t 214 rfl rfl
theorem mq_im_X2_growToAll : (.instanceMethod yX2_growToAll : Cond) ∈ bigW := bw_t 216 rfl rfl
theorem mq_co_X2_growToAll : (.code yX2_growToAll cX2_growToAll 7 none : Cond) ∈ bigW := bw_t 217 rfl rfl
theorem mq_ml_X2_61 : (.methodLink RX2 61 yX2_leastSafeArc : Cond) ∈ bigW := bw_t 218 rfl rfl
theorem mq_im_X2_leastSafeArc : (.instanceMethod yX2_leastSafeArc : Cond) ∈ bigW := bw_t 220 rfl rfl
theorem mq_co_X2_leastSafeArc : (.code yX2_leastSafeArc cX2_leastSafeArc 4 (some .int) : Cond) ∈ bigW := bw_t 221 rfl rfl
theorem mq_ml_X2_75 : (.methodLink RX2 75 yX2_leadsOut : Cond) ∈ bigW := bw_t 222 rfl rfl
theorem mq_st_X2_leadsOut : (.static yX2_leadsOut : Cond) ∈ bigW := bw_t 223 rfl rfl
theorem mq_co_X2_leadsOut : (.code yX2_leadsOut cX2_leadsOut 3 (some .boolean) : Cond) ∈ bigW := bw_t 224 rfl rfl
theorem mq_ml_X2_79 : (.methodLink RX2 79 yX2_isSafe : Cond) ∈ bigW := bw_t 225 rfl rfl
theorem mq_im_X2_isSafe : (.instanceMethod yX2_isSafe : Cond) ∈ bigW := bw_t 227 rfl rfl
theorem mq_co_X2_isSafe : (.code yX2_isSafe cX2_isSafe 5 (some .boolean) : Cond) ∈ bigW := bw_t 228 rfl rfl
theorem mq_ml_X2_85 : (.methodLink RX2 85 yX2_takesFrom : Cond) ∈ bigW := bw_t 229 rfl rfl
theorem mq_st_X2_takesFrom : (.static yX2_takesFrom : Cond) ∈ bigW := bw_t 230 rfl rfl
theorem mq_co_X2_takesFrom : (.code yX2_takesFrom cX2_takesFrom 4 (some .boolean) : Cond) ∈ bigW := bw_t 231 rfl rfl
theorem mq_ml_X2_89 : (.methodLink RX2 89 yX1_enters : Cond) ∈ bigW := bw_t 232 rfl rfl
theorem mq_ml_X2_65 : (.methodLink RX2 65 yX2_use : Cond) ∈ bigW := bw_t 233 rfl rfl
theorem mq_im_X2_use : (.instanceMethod yX2_use : Cond) ∈ bigW := bw_t 235 rfl rfl
theorem mq_co_X2_use : (.code yX2_use cX2_use 6 none : Cond) ∈ bigW := bw_t 236 rfl rfl
theorem mq_ml_L_66 : (.methodLink RL 66 yX3_way : Cond) ∈ bigW := bw_t 237 rfl rfl
theorem mq_im_X3_way : (.instanceMethod yX3_way : Cond) ∈ bigW := bw_t 238 rfl rfl
theorem mq_se_X3_way : (.selects RX3 yX3_way yX3_way : Cond) ∈ bigW := bw_t 239 rfl rfl
theorem mq_co_X3_way : (.code yX3_way cX3_way 4 (some .int) : Cond) ∈ bigW := bw_t 240 rfl rfl
theorem mq_ml_L_70 : (.methodLink RL 70 yX3_spare : Cond) ∈ bigW := bw_t 241 rfl rfl
theorem mq_im_X3_spare : (.instanceMethod yX3_spare : Cond) ∈ bigW := bw_t 242 rfl rfl
theorem mq_se_X3_spare : (.selects RX3 yX3_spare yX3_spare : Cond) ∈ bigW := bw_t 243 rfl rfl
theorem mq_co_X3_spare : (.code yX3_spare cX3_spare 2 (some .boolean) : Cond) ∈ bigW := bw_t 244 rfl rfl
theorem mq_ml_L_74 : (.methodLink RL 74 yX3_most : Cond) ∈ bigW := bw_t 245 rfl rfl
theorem mq_im_X3_most : (.instanceMethod yX3_most : Cond) ∈ bigW := bw_t 246 rfl rfl
theorem mq_se_X3_most : (.selects RX3 yX3_most yX3_most : Cond) ∈ bigW := bw_t 247 rfl rfl
theorem mq_co_X3_most : (.code yX3_most cX3_most 4 (some .int) : Cond) ∈ bigW := bw_t 248 rfl rfl
theorem mq_ml_X3_96 : (.methodLink RX3 96 yJ9_min : Cond) ∈ bigW := bw_t 249 rfl rfl
theorem mq_st_J9_min : (.static yJ9_min : Cond) ∈ bigW := bw_t 250 rfl rfl
theorem mq_co_J9_min : (.code yJ9_min cJ9_min 2 (some .int) : Cond) ∈ bigW := bw_t 251 rfl rfl
theorem mq_cl_L_10 : (.classLink RL 10 RX4 : Cond) ∈ bigW := bw_t 252 rfl rfl
theorem mq_ins_X4 : (.instantiable RX4 12 : Cond) ∈ bigW := bw_t 253 rfl rfl
theorem mq_ml_L_12 : (.methodLink RL 12 yX4_init : Cond) ∈ bigW := bw_t 254 rfl rfl
theorem mq_im_X4_init : (.instanceMethod yX4_init : Cond) ∈ bigW := bw_t 255 rfl rfl
theorem mq_co_X4_init : (.code yX4_init cX4_init 1 none : Cond) ∈ bigW := bw_t 256 rfl rfl
theorem mq_ml_X4_1 : (.methodLink RX4 1 objectInit : Cond) ∈ bigW := bw_t 257 rfl rfl
theorem mq_fl_X4_7 : (.fieldLink RX4 7 "BranchPackerModel" "n" "I" : Cond) ∈ bigW := bw_t 258 rfl rfl
theorem mq_fl_X4_45 : (.fieldLink RX4 45 "BranchPackerModel" "arcs" "I" : Cond) ∈ bigW := bw_t 259 rfl rfl
theorem mq_fl_X4_56 : (.fieldLink RX4 56 "BranchPackerModel" "branchings" "I" : Cond) ∈ bigW := bw_t 260 rfl rfl
theorem mq_fl_X4_13 : (.fieldLink RX4 13 "BranchPackerModel" "from" "[I" : Cond) ∈ bigW := bw_t 261 rfl rfl
theorem mq_fl_X4_17 : (.fieldLink RX4 17 "BranchPackerModel" "to" "[I" : Cond) ∈ bigW := bw_t 262 rfl rfl
theorem mq_fl_X4_20 : (.fieldLink RX4 20 "BranchPackerModel" "roots" "[I" : Cond) ∈ bigW := bw_t 263 rfl rfl
theorem mq_fl_X4_23 : (.fieldLink RX4 23 "BranchPackerModel" "owners" "[I" : Cond) ∈ bigW := bw_t 264 rfl rfl
theorem mq_fl_X4_26 : (.fieldLink RX4 26 "BranchPackerModel" "ways" "[I" : Cond) ∈ bigW := bw_t 265 rfl rfl
theorem mq_fl_X4_29 : (.fieldLink RX4 29 "BranchPackerModel" "trees" "[I" : Cond) ∈ bigW := bw_t 266 rfl rfl
theorem mq_fl_X4_32 : (.fieldLink RX4 32 "BranchPackerModel" "hads" "[I" : Cond) ∈ bigW := bw_t 267 rfl rfl
theorem mq_fl_X4_35 : (.fieldLink RX4 35 "BranchPackerModel" "useds" "[I" : Cond) ∈ bigW := bw_t 268 rfl rfl
theorem mq_fl_X4_38 : (.fieldLink RX4 38 "BranchPackerModel" "nexts" "[I" : Cond) ∈ bigW := bw_t 269 rfl rfl
theorem mq_ml_L_17 : (.methodLink RL 17 yX4_begin : Cond) ∈ bigW := bw_t 295 rfl rfl
theorem mq_im_X4_begin : (.instanceMethod yX4_begin : Cond) ∈ bigW := bw_t 296 rfl rfl
theorem mq_se_X4_begin : (.selects RX4 yX4_begin yX4_begin : Cond) ∈ bigW := bw_t 297 rfl rfl
theorem mq_co_X4_begin : (.code yX4_begin cX4_begin 2 (some .boolean) : Cond) ∈ bigW := bw_t 298 rfl rfl
theorem mq_ml_L_22 : (.methodLink RL 22 yX4_arc : Cond) ∈ bigW := bw_t 299 rfl rfl
theorem mq_im_X4_arc : (.instanceMethod yX4_arc : Cond) ∈ bigW := bw_t 300 rfl rfl
theorem mq_se_X4_arc : (.selects RX4 yX4_arc yX4_arc : Cond) ∈ bigW := bw_t 301 rfl rfl
theorem mq_co_X4_arc : (.code yX4_arc cX4_arc 3 (some .int) : Cond) ∈ bigW := bw_t 302 rfl rfl
theorem mq_ml_L_26 : (.methodLink RL 26 yX4_drop : Cond) ∈ bigW := bw_t 303 rfl rfl
theorem mq_im_X4_drop : (.instanceMethod yX4_drop : Cond) ∈ bigW := bw_t 304 rfl rfl
theorem mq_se_X4_drop : (.selects RX4 yX4_drop yX4_drop : Cond) ∈ bigW := bw_t 305 rfl rfl
theorem mq_co_X4_drop : (.code yX4_drop cX4_drop 2 (some .boolean) : Cond) ∈ bigW := bw_t 306 rfl rfl
theorem mq_ml_X4_59 : (.methodLink RX4 59 yX4_isArc : Cond) ∈ bigW := bw_t 307 rfl rfl
theorem mq_im_X4_isArc : (.instanceMethod yX4_isArc : Cond) ∈ bigW := bw_t 309 rfl rfl
theorem mq_co_X4_isArc : (.code yX4_isArc cX4_isArc 2 (some .boolean) : Cond) ∈ bigW := bw_t 310 rfl rfl
theorem mq_ml_X4_63 : (.methodLink RX4 63 yX4_remove : Cond) ∈ bigW := bw_t 311 rfl rfl
theorem mq_im_X4_remove : (.instanceMethod yX4_remove : Cond) ∈ bigW := bw_t 313 rfl rfl
theorem mq_co_X4_remove : (.code yX4_remove cX4_remove 3 none : Cond) ∈ bigW := bw_t 314 rfl rfl
theorem mq_ml_L_31 : (.methodLink RL 31 yX4_plant : Cond) ∈ bigW := bw_t 315 rfl rfl
theorem mq_im_X4_plant : (.instanceMethod yX4_plant : Cond) ∈ bigW := bw_t 316 rfl rfl
theorem mq_se_X4_plant : (.selects RX4 yX4_plant yX4_plant : Cond) ∈ bigW := bw_t 317 rfl rfl
theorem mq_co_X4_plant : (.code yX4_plant cX4_plant 2 (some .int) : Cond) ∈ bigW := bw_t 318 rfl rfl
theorem mq_ml_X4_67 : (.methodLink RX4 67 yX4_isSet : Cond) ∈ bigW := bw_t 319 rfl rfl
theorem mq_im_X4_isSet : (.instanceMethod yX4_isSet : Cond) ∈ bigW := bw_t 321 rfl rfl
theorem mq_co_X4_isSet : (.code yX4_isSet cX4_isSet 2 (some .boolean) : Cond) ∈ bigW := bw_t 322 rfl rfl
theorem mq_ml_X4_41 : (.methodLink RX4 41 yX4_all : Cond) ∈ bigW := bw_t 323 rfl rfl
theorem mq_im_X4_all : (.instanceMethod yX4_all : Cond) ∈ bigW := bw_t 325 rfl rfl
theorem mq_co_X4_all : (.code yX4_all cX4_all 1 (some .int) : Cond) ∈ bigW := bw_t 326 rfl rfl
theorem mq_ml_L_36 : (.methodLink RL 36 yX4_fell : Cond) ∈ bigW := bw_t 327 rfl rfl
theorem mq_im_X4_fell : (.instanceMethod yX4_fell : Cond) ∈ bigW := bw_t 328 rfl rfl
theorem mq_se_X4_fell : (.selects RX4 yX4_fell yX4_fell : Cond) ∈ bigW := bw_t 329 rfl rfl
theorem mq_co_X4_fell : (.code yX4_fell cX4_fell 1 (some .int) : Cond) ∈ bigW := bw_t 330 rfl rfl
theorem mq_ml_L_40 : (.methodLink RL 40 yX4_count : Cond) ∈ bigW := bw_t 331 rfl rfl
theorem mq_im_X4_count : (.instanceMethod yX4_count : Cond) ∈ bigW := bw_t 332 rfl rfl
theorem mq_se_X4_count : (.selects RX4 yX4_count yX4_count : Cond) ∈ bigW := bw_t 333 rfl rfl
theorem mq_co_X4_count : (.code yX4_count cX4_count 2 (some .int) : Cond) ∈ bigW := bw_t 334 rfl rfl
theorem mq_ml_L_44 : (.methodLink RL 44 yX4_end : Cond) ∈ bigW := bw_t 335 rfl rfl
theorem mq_im_X4_end : (.instanceMethod yX4_end : Cond) ∈ bigW := bw_t 336 rfl rfl
theorem mq_se_X4_end : (.selects RX4 yX4_end yX4_end : Cond) ∈ bigW := bw_t 337 rfl rfl
theorem mq_co_X4_end : (.code yX4_end cX4_end 3 (some .int) : Cond) ∈ bigW := bw_t 338 rfl rfl
theorem mq_ml_L_48 : (.methodLink RL 48 yX4_entry : Cond) ∈ bigW := bw_t 339 rfl rfl
theorem mq_im_X4_entry : (.instanceMethod yX4_entry : Cond) ∈ bigW := bw_t 340 rfl rfl
theorem mq_se_X4_entry : (.selects RX4 yX4_entry yX4_entry : Cond) ∈ bigW := bw_t 341 rfl rfl
theorem mq_co_X4_entry : (.code yX4_entry cX4_entry 2 (some .int) : Cond) ∈ bigW := bw_t 342 rfl rfl
theorem mq_ml_X4_70 : (.methodLink RX4 70 yX4_entryOf : Cond) ∈ bigW := bw_t 343 rfl rfl
theorem mq_im_X4_entryOf : (.instanceMethod yX4_entryOf : Cond) ∈ bigW := bw_t 345 rfl rfl
theorem mq_co_X4_entryOf : (.code yX4_entryOf cX4_entryOf 5 (some .int) : Cond) ∈ bigW := bw_t 346 rfl rfl
theorem mq_ml_X4_48 : (.methodLink RX4 48 yX4_has : Cond) ∈ bigW := bw_t 347 rfl rfl
theorem mq_st_X4_has : (.static yX4_has : Cond) ∈ bigW := bw_t 348 rfl rfl
theorem mq_co_X4_has : (.code yX4_has cX4_has 2 (some .boolean) : Cond) ∈ bigW := bw_t 349 rfl rfl
theorem mq_ml_L_52 : (.methodLink RL 52 yX4_missed : Cond) ∈ bigW := bw_t 350 rfl rfl
theorem mq_im_X4_missed : (.instanceMethod yX4_missed : Cond) ∈ bigW := bw_t 351 rfl rfl
theorem mq_se_X4_missed : (.selects RX4 yX4_missed yX4_missed : Cond) ∈ bigW := bw_t 352 rfl rfl
theorem mq_co_X4_missed : (.code yX4_missed cX4_missed 4 (some .int) : Cond) ∈ bigW := bw_t 353 rfl rfl
theorem mq_ml_L_61 : (.methodLink RL 61 yX4_stopper : Cond) ∈ bigW := bw_t 354 rfl rfl
theorem mq_im_X4_stopper : (.instanceMethod yX4_stopper : Cond) ∈ bigW := bw_t 355 rfl rfl
theorem mq_se_X4_stopper : (.selects RX4 yX4_stopper yX4_stopper : Cond) ∈ bigW := bw_t 356 rfl rfl
theorem mq_co_X4_stopper : (.code yX4_stopper cX4_stopper 3 (some .int) : Cond) ∈ bigW := bw_t 357 rfl rfl
theorem mq_ml_X4_74 : (.methodLink RX4 74 yX4_entry : Cond) ∈ bigW := bw_t 358 rfl rfl
theorem mq_ml_X4_77 : (.methodLink RX4 77 yX4_missed : Cond) ∈ bigW := bw_t 359 rfl rfl
theorem mq_ml_X4_80 : (.methodLink RX4 80 yX4_isBefore : Cond) ∈ bigW := bw_t 360 rfl rfl
theorem mq_st_X4_isBefore : (.static yX4_isBefore : Cond) ∈ bigW := bw_t 361 rfl rfl
theorem mq_co_X4_isBefore : (.code yX4_isBefore cX4_isBefore 3 (some .boolean) : Cond) ∈ bigW := bw_t 362 rfl rfl
theorem mq_ml_X4_52 : (.methodLink RX4 52 yX4_size : Cond) ∈ bigW := bw_t 363 rfl rfl
theorem mq_st_X4_size : (.static yX4_size : Cond) ∈ bigW := bw_t 364 rfl rfl
theorem mq_co_X4_size : (.code yX4_size cX4_size 3 (some .int) : Cond) ∈ bigW := bw_t 365 rfl rfl
theorem mq_ml_L_57 : (.methodLink RL 57 yX4_packs : Cond) ∈ bigW := bw_t 366 rfl rfl
theorem mq_im_X4_packs : (.instanceMethod yX4_packs : Cond) ∈ bigW := bw_t 367 rfl rfl
theorem mq_se_X4_packs : (.selects RX4 yX4_packs yX4_packs : Cond) ∈ bigW := bw_t 368 rfl rfl
theorem mq_co_X4_packs : (.code yX4_packs cX4_packs 1 (some .boolean) : Cond) ∈ bigW := bw_t 369 rfl rfl
theorem mq_ml_X4_94 : (.methodLink RX4 94 yX4_canGoOn : Cond) ∈ bigW := bw_t 370 rfl rfl
theorem mq_im_X4_canGoOn : (.instanceMethod yX4_canGoOn : Cond) ∈ bigW := bw_t 372 rfl rfl
theorem mq_co_X4_canGoOn : (.code yX4_canGoOn cX4_canGoOn 7 (some .boolean) : Cond) ∈ bigW := bw_t 373 rfl rfl
theorem mq_ml_X4_87 : (.methodLink RX4 87 yX4_isDone : Cond) ∈ bigW := bw_t 374 rfl rfl
theorem mq_im_X4_isDone : (.instanceMethod yX4_isDone : Cond) ∈ bigW := bw_t 376 rfl rfl
theorem mq_co_X4_isDone : (.code yX4_isDone cX4_isDone 7 (some .boolean) : Cond) ∈ bigW := bw_t 377 rfl rfl
theorem mq_ml_X4_83 : (.methodLink RX4 83 yX4_isStopped : Cond) ∈ bigW := bw_t 378 rfl rfl
theorem mq_im_X4_isStopped : (.instanceMethod yX4_isStopped : Cond) ∈ bigW := bw_t 380 rfl rfl
theorem mq_co_X4_isStopped : (.code yX4_isStopped cX4_isStopped 7 (some .boolean) : Cond) ∈ bigW := bw_t 381 rfl rfl
theorem mq_ml_X4_91 : (.methodLink RX4 91 yX4_grows : Cond) ∈ bigW := bw_t 382 rfl rfl
theorem mq_im_X4_grows : (.instanceMethod yX4_grows : Cond) ∈ bigW := bw_t 384 rfl rfl
theorem mq_co_X4_grows : (.code yX4_grows cX4_grows 4 (some .boolean) : Cond) ∈ bigW := bw_t 385 rfl rfl
theorem mq_ml_L_65 : (.methodLink RL 65 yX4_owner : Cond) ∈ bigW := bw_t 386 rfl rfl
theorem mq_im_X4_owner : (.instanceMethod yX4_owner : Cond) ∈ bigW := bw_t 387 rfl rfl
theorem mq_se_X4_owner : (.selects RX4 yX4_owner yX4_owner : Cond) ∈ bigW := bw_t 388 rfl rfl
theorem mq_co_X4_owner : (.code yX4_owner cX4_owner 2 (some .int) : Cond) ∈ bigW := bw_t 389 rfl rfl
theorem mq_ml_X4_101 : (.methodLink RX4 101 yX4_pack : Cond) ∈ bigW := bw_t 390 rfl rfl
theorem mq_im_X4_pack : (.instanceMethod yX4_pack : Cond) ∈ bigW := bw_t 392 rfl rfl
theorem mq_co_X4_pack : (.code yX4_pack cX4_pack 5 (some .boolean) : Cond) ∈ bigW := bw_t 393 rfl rfl
theorem mq_ml_X4_97 : (.methodLink RX4 97 yX4_packs : Cond) ∈ bigW := bw_t 394 rfl rfl
theorem mq_ml_L_69 : (.methodLink RL 69 yX4_way : Cond) ∈ bigW := bw_t 395 rfl rfl
theorem mq_im_X4_way : (.instanceMethod yX4_way : Cond) ∈ bigW := bw_t 396 rfl rfl
theorem mq_se_X4_way : (.selects RX4 yX4_way yX4_way : Cond) ∈ bigW := bw_t 397 rfl rfl
theorem mq_co_X4_way : (.code yX4_way cX4_way 4 (some .int) : Cond) ∈ bigW := bw_t 398 rfl rfl
theorem mq_ml_L_73 : (.methodLink RL 73 yX4_spare : Cond) ∈ bigW := bw_t 399 rfl rfl
theorem mq_im_X4_spare : (.instanceMethod yX4_spare : Cond) ∈ bigW := bw_t 400 rfl rfl
theorem mq_se_X4_spare : (.selects RX4 yX4_spare yX4_spare : Cond) ∈ bigW := bw_t 401 rfl rfl
theorem mq_co_X4_spare : (.code yX4_spare cX4_spare 6 (some .boolean) : Cond) ∈ bigW := bw_t 402 rfl rfl
theorem mq_ml_L_77 : (.methodLink RL 77 yX4_most : Cond) ∈ bigW := bw_t 403 rfl rfl
theorem mq_im_X4_most : (.instanceMethod yX4_most : Cond) ∈ bigW := bw_t 404 rfl rfl
theorem mq_se_X4_most : (.selects RX4 yX4_most yX4_most : Cond) ∈ bigW := bw_t 405 rfl rfl
theorem mq_co_X4_most : (.code yX4_most cX4_most 5 (some .int) : Cond) ∈ bigW := bw_t 406 rfl rfl
theorem mq_se_X3_firstStopper : (.selects RX3 yX3_firstStopper yX3_firstStopper : Cond) ∈ bigW := bw_s 0 rfl rfl
theorem mq_se_X3_stops : (.selects RX3 yX3_stops yX3_stops : Cond) ∈ bigW := bw_s 1 rfl rfl
theorem mq_se_X2_measureSurplus : (.selects RX2 yX2_measureSurplus yX2_measureSurplus : Cond) ∈ bigW := bw_s 2 rfl rfl
theorem mq_se_X2_growToAll : (.selects RX2 yX2_growToAll yX2_growToAll : Cond) ∈ bigW := bw_s 3 rfl rfl
theorem mq_se_X2_leastSafeArc : (.selects RX2 yX2_leastSafeArc yX2_leastSafeArc : Cond) ∈ bigW := bw_s 4 rfl rfl
theorem mq_se_X2_isSafe : (.selects RX2 yX2_isSafe yX2_isSafe : Cond) ∈ bigW := bw_s 5 rfl rfl
theorem mq_se_X2_use : (.selects RX2 yX2_use yX2_use : Cond) ∈ bigW := bw_s 6 rfl rfl
theorem mq_se_X4_isArc : (.selects RX4 yX4_isArc yX4_isArc : Cond) ∈ bigW := bw_s 7 rfl rfl
theorem mq_se_X4_remove : (.selects RX4 yX4_remove yX4_remove : Cond) ∈ bigW := bw_s 8 rfl rfl
theorem mq_se_X4_isSet : (.selects RX4 yX4_isSet yX4_isSet : Cond) ∈ bigW := bw_s 9 rfl rfl
theorem mq_se_X4_all : (.selects RX4 yX4_all yX4_all : Cond) ∈ bigW := bw_s 10 rfl rfl
theorem mq_se_X4_entryOf : (.selects RX4 yX4_entryOf yX4_entryOf : Cond) ∈ bigW := bw_s 11 rfl rfl
theorem mq_se_X4_canGoOn : (.selects RX4 yX4_canGoOn yX4_canGoOn : Cond) ∈ bigW := bw_s 12 rfl rfl
theorem mq_se_X4_isDone : (.selects RX4 yX4_isDone yX4_isDone : Cond) ∈ bigW := bw_s 13 rfl rfl
theorem mq_se_X4_isStopped : (.selects RX4 yX4_isStopped yX4_isStopped : Cond) ∈ bigW := bw_s 14 rfl rfl
theorem mq_se_X4_grows : (.selects RX4 yX4_grows yX4_grows : Cond) ∈ bigW := bw_s 15 rfl rfl
theorem mq_se_X4_pack : (.selects RX4 yX4_pack yX4_pack : Cond) ∈ bigW := bw_s 16 rfl rfl
def nx_F : List (String × Nat × String × String × String × String) := [(RX2, 82, "BranchPacker$Net", "tails", "[I", RX3), (RX3, 68, "BranchPacker$Net", "tails", "[I", RX3), (RX2, 69, "BranchPacker$Net", "heads", "[I", RX3), (RX3, 72, "BranchPacker$Net", "heads", "[I", RX3), (RX2, 58, "BranchPacker$Net", "vertexCount", "I", RX3), (RX3, 65, "BranchPacker$Net", "vertexCount", "I", RX3), (RX3, 42, "BranchPacker$Net", "arcCount", "I", RX3), (RX2, 72, "BranchPacker$Net", "arcCount", "I", RX3), (RX2, 38, "BranchPacker$Grove", "roots", "[I", RX3), (RX3, 34, "BranchPacker$Grove", "size", "I", RX3), (RX2, 32, "BranchPacker$Grove", "size", "I", RX3), (RX3, 89, "BranchPacker$Packing", "owners", "[I", RX3), (RX3, 38, "BranchPacker$Packing", "isStale", "Z", RX3)]
def nx_M : List (String × Nat × MethodName × String) := [(RX3, 9, yX1_init, RX3), (RX3, 18, yX0_init, RX3), (RX3, 25, yX2_init, RX3)]
def nx_ok (U : State) : Prop := (∀ q ∈ nx_F, va_Nw (.fieldLinkNest q.1 q.2.1 q.2.2.1 q.2.2.2.1 q.2.2.2.2.1 q.2.2.2.2.2) U) ∧ ∀ q ∈ nx_M, va_Nw (.methodLinkNest q.1 q.2.1 q.2.2.1 q.2.2.2) U
theorem nx_warm {s U : State} (hW : s.WarmedH U.vm) (h : nx_ok s) : nx_ok U := ⟨fun q hq => va_Nw.warmF hW (h.1 q hq), fun q hq => va_Nw.warmM hW (h.2 q hq)⟩
theorem nx_same {s U : State} (hv : s.vm = U.vm) (h : nx_ok s) : nx_ok U := ⟨fun q hq => va_Nw.same rfl hv (h.1 q hq), fun q hq => va_Nw.same rfl hv (h.2 q hq)⟩
theorem nf_X2_82 {s : State} {args : Array Value} (h : nx_ok s) : (Cond.fieldLinkNest RX2 82 "BranchPacker$Net" "tails" "[I" RX3).before args s = true := va_Nw.use rfl (h.1 (RX2, 82, "BranchPacker$Net", "tails", "[I", RX3) (List.mem_of_getElem? (i := 0) rfl))
theorem nf_X3_68 {s : State} {args : Array Value} (h : nx_ok s) : (Cond.fieldLinkNest RX3 68 "BranchPacker$Net" "tails" "[I" RX3).before args s = true := va_Nw.use rfl (h.1 (RX3, 68, "BranchPacker$Net", "tails", "[I", RX3) (List.mem_of_getElem? (i := 1) rfl))
theorem nf_X2_69 {s : State} {args : Array Value} (h : nx_ok s) : (Cond.fieldLinkNest RX2 69 "BranchPacker$Net" "heads" "[I" RX3).before args s = true := va_Nw.use rfl (h.1 (RX2, 69, "BranchPacker$Net", "heads", "[I", RX3) (List.mem_of_getElem? (i := 2) rfl))
theorem nf_X3_72 {s : State} {args : Array Value} (h : nx_ok s) : (Cond.fieldLinkNest RX3 72 "BranchPacker$Net" "heads" "[I" RX3).before args s = true := va_Nw.use rfl (h.1 (RX3, 72, "BranchPacker$Net", "heads", "[I", RX3) (List.mem_of_getElem? (i := 3) rfl))
theorem nf_X2_58 {s : State} {args : Array Value} (h : nx_ok s) : (Cond.fieldLinkNest RX2 58 "BranchPacker$Net" "vertexCount" "I" RX3).before args s = true := va_Nw.use rfl (h.1 (RX2, 58, "BranchPacker$Net", "vertexCount", "I", RX3) (List.mem_of_getElem? (i := 4) rfl))
theorem nf_X3_65 {s : State} {args : Array Value} (h : nx_ok s) : (Cond.fieldLinkNest RX3 65 "BranchPacker$Net" "vertexCount" "I" RX3).before args s = true := va_Nw.use rfl (h.1 (RX3, 65, "BranchPacker$Net", "vertexCount", "I", RX3) (List.mem_of_getElem? (i := 5) rfl))
theorem nf_X3_42 {s : State} {args : Array Value} (h : nx_ok s) : (Cond.fieldLinkNest RX3 42 "BranchPacker$Net" "arcCount" "I" RX3).before args s = true := va_Nw.use rfl (h.1 (RX3, 42, "BranchPacker$Net", "arcCount", "I", RX3) (List.mem_of_getElem? (i := 6) rfl))
theorem nf_X2_72 {s : State} {args : Array Value} (h : nx_ok s) : (Cond.fieldLinkNest RX2 72 "BranchPacker$Net" "arcCount" "I" RX3).before args s = true := va_Nw.use rfl (h.1 (RX2, 72, "BranchPacker$Net", "arcCount", "I", RX3) (List.mem_of_getElem? (i := 7) rfl))
theorem nf_X2_38 {s : State} {args : Array Value} (h : nx_ok s) : (Cond.fieldLinkNest RX2 38 "BranchPacker$Grove" "roots" "[I" RX3).before args s = true := va_Nw.use rfl (h.1 (RX2, 38, "BranchPacker$Grove", "roots", "[I", RX3) (List.mem_of_getElem? (i := 8) rfl))
theorem nf_X3_34 {s : State} {args : Array Value} (h : nx_ok s) : (Cond.fieldLinkNest RX3 34 "BranchPacker$Grove" "size" "I" RX3).before args s = true := va_Nw.use rfl (h.1 (RX3, 34, "BranchPacker$Grove", "size", "I", RX3) (List.mem_of_getElem? (i := 9) rfl))
theorem nf_X2_32 {s : State} {args : Array Value} (h : nx_ok s) : (Cond.fieldLinkNest RX2 32 "BranchPacker$Grove" "size" "I" RX3).before args s = true := va_Nw.use rfl (h.1 (RX2, 32, "BranchPacker$Grove", "size", "I", RX3) (List.mem_of_getElem? (i := 10) rfl))
theorem nf_X3_89 {s : State} {args : Array Value} (h : nx_ok s) : (Cond.fieldLinkNest RX3 89 "BranchPacker$Packing" "owners" "[I" RX3).before args s = true := va_Nw.use rfl (h.1 (RX3, 89, "BranchPacker$Packing", "owners", "[I", RX3) (List.mem_of_getElem? (i := 11) rfl))
theorem nf_X3_38 {s : State} {args : Array Value} (h : nx_ok s) : (Cond.fieldLinkNest RX3 38 "BranchPacker$Packing" "isStale" "Z" RX3).before args s = true := va_Nw.use rfl (h.1 (RX3, 38, "BranchPacker$Packing", "isStale", "Z", RX3) (List.mem_of_getElem? (i := 12) rfl))
theorem nm_X3_9 {s : State} (h : nx_ok s) : va_Nw (.methodLinkNest RX3 9 yX1_init RX3) s := h.2 (RX3, 9, yX1_init, RX3) (List.mem_of_getElem? (i := 0) rfl)
theorem nm_X3_18 {s : State} (h : nx_ok s) : va_Nw (.methodLinkNest RX3 18 yX0_init RX3) s := h.2 (RX3, 18, yX0_init, RX3) (List.mem_of_getElem? (i := 1) rfl)
theorem nm_X3_25 {s : State} (h : nx_ok s) : va_Nw (.methodLinkNest RX3 25 yX2_init RX3) s := h.2 (RX3, 25, yX2_init, RX3) (List.mem_of_getElem? (i := 2) rfl)
end
section
theorem dX1_init_0 : decode cX1_init 0 = .ok (.aload_n 0, 1) := by decide +kernel
theorem dX1_init_1 : decode cX1_init 1 = .ok (.invokespecial 3, 3) := by decide +kernel
theorem dX1_init_4 : decode cX1_init 4 = .ok (.aload_n 0, 1) := by decide +kernel
theorem dX1_init_5 : decode cX1_init 5 = .ok (.bipush 14, 2) := by decide +kernel
theorem dX1_init_7 : decode cX1_init 7 = .ok (.newarray .int, 2) := by decide +kernel
theorem dX1_init_9 : decode cX1_init 9 = .ok (.putfield 9, 3) := by decide +kernel
theorem dX1_init_12 : decode cX1_init 12 = .ok (.aload_n 0, 1) := by decide +kernel
theorem dX1_init_13 : decode cX1_init 13 = .ok (.bipush 14, 2) := by decide +kernel
theorem dX1_init_15 : decode cX1_init 15 = .ok (.newarray .int, 2) := by decide +kernel
theorem dX1_init_17 : decode cX1_init 17 = .ok (.putfield 15, 3) := by decide +kernel
theorem dX1_init_20 : decode cX1_init 20 = .ok (.aload_n 0, 1) := by decide +kernel
theorem dX1_init_21 : decode cX1_init 21 = .ok (.iconst 1, 1) := by decide +kernel
theorem dX1_init_22 : decode cX1_init 22 = .ok (.putfield 18, 3) := by decide +kernel
theorem dX1_init_25 : decode cX1_init 25 = .ok (.aload_n 0, 1) := by decide +kernel
theorem dX1_init_26 : decode cX1_init 26 = .ok (.iconst 0, 1) := by decide +kernel
theorem dX1_init_27 : decode cX1_init 27 = .ok (.putfield 22, 3) := by decide +kernel
theorem dX1_init_30 : decode cX1_init 30 = .ok (.return_, 1) := by decide +kernel
theorem dX0_init_0 : decode cX0_init 0 = .ok (.aload_n 0, 1) := by decide +kernel
theorem dX0_init_1 : decode cX0_init 1 = .ok (.invokespecial 3, 3) := by decide +kernel
theorem dX0_init_4 : decode cX0_init 4 = .ok (.aload_n 0, 1) := by decide +kernel
theorem dX0_init_5 : decode cX0_init 5 = .ok (.iconst 3, 1) := by decide +kernel
theorem dX0_init_6 : decode cX0_init 6 = .ok (.newarray .int, 2) := by decide +kernel
theorem dX0_init_8 : decode cX0_init 8 = .ok (.putfield 9, 3) := by decide +kernel
theorem dX0_init_11 : decode cX0_init 11 = .ok (.aload_n 0, 1) := by decide +kernel
theorem dX0_init_12 : decode cX0_init 12 = .ok (.iconst 0, 1) := by decide +kernel
theorem dX0_init_13 : decode cX0_init 13 = .ok (.putfield 15, 3) := by decide +kernel
theorem dX0_init_16 : decode cX0_init 16 = .ok (.return_, 1) := by decide +kernel
theorem dX2_init_0 : decode cX2_init 0 = .ok (.aload_n 0, 1) := by decide +kernel
theorem dX2_init_1 : decode cX2_init 1 = .ok (.invokespecial 3, 3) := by decide +kernel
theorem dX2_init_4 : decode cX2_init 4 = .ok (.aload_n 0, 1) := by decide +kernel
theorem dX2_init_5 : decode cX2_init 5 = .ok (.bipush 14, 2) := by decide +kernel
theorem dX2_init_7 : decode cX2_init 7 = .ok (.newarray .int, 2) := by decide +kernel
theorem dX2_init_9 : decode cX2_init 9 = .ok (.putfield 9, 3) := by decide +kernel
theorem dX2_init_12 : decode cX2_init 12 = .ok (.aload_n 0, 1) := by decide +kernel
theorem dX2_init_13 : decode cX2_init 13 = .ok (.sipush 128, 3) := by decide +kernel
theorem dX2_init_16 : decode cX2_init 16 = .ok (.newarray .int, 2) := by decide +kernel
theorem dX2_init_18 : decode cX2_init 18 = .ok (.putfield 15, 3) := by decide +kernel
theorem dX2_init_21 : decode cX2_init 21 = .ok (.aload_n 0, 1) := by decide +kernel
theorem dX2_init_22 : decode cX2_init 22 = .ok (.iconst 1, 1) := by decide +kernel
theorem dX2_init_23 : decode cX2_init 23 = .ok (.putfield 18, 3) := by decide +kernel
theorem dX2_init_26 : decode cX2_init 26 = .ok (.return_, 1) := by decide +kernel
theorem dX1_restart_0 : decode cX1_restart 0 = .ok (.aload_n 0, 1) := by decide +kernel
theorem dX1_restart_1 : decode cX1_restart 1 = .ok (.iload_n 1, 1) := by decide +kernel
theorem dX1_restart_2 : decode cX1_restart 2 = .ok (.putfield 18, 3) := by decide +kernel
theorem dX1_restart_5 : decode cX1_restart 5 = .ok (.aload_n 0, 1) := by decide +kernel
theorem dX1_restart_6 : decode cX1_restart 6 = .ok (.iconst 0, 1) := by decide +kernel
theorem dX1_restart_7 : decode cX1_restart 7 = .ok (.putfield 22, 3) := by decide +kernel
theorem dX1_restart_10 : decode cX1_restart 10 = .ok (.return_, 1) := by decide +kernel
theorem dX1_hasVertex_0 : decode cX1_hasVertex 0 = .ok (.iload_n 1, 1) := by decide +kernel
theorem dX1_hasVertex_1 : decode cX1_hasVertex 1 = .ok (.ifCond .lt 15, 3) := by decide +kernel
theorem dX1_hasVertex_4 : decode cX1_hasVertex 4 = .ok (.iload_n 1, 1) := by decide +kernel
theorem dX1_hasVertex_5 : decode cX1_hasVertex 5 = .ok (.aload_n 0, 1) := by decide +kernel
theorem dX1_hasVertex_6 : decode cX1_hasVertex 6 = .ok (.getfield 18, 3) := by decide +kernel
theorem dX1_hasVertex_9 : decode cX1_hasVertex 9 = .ok (.if_icmp .ge 7, 3) := by decide +kernel
theorem dX1_hasVertex_12 : decode cX1_hasVertex 12 = .ok (.iconst 1, 1) := by decide +kernel
theorem dX1_hasVertex_13 : decode cX1_hasVertex 13 = .ok (.goto 4, 3) := by decide +kernel
theorem dX1_hasVertex_16 : decode cX1_hasVertex 16 = .ok (.iconst 0, 1) := by decide +kernel
theorem dX1_hasVertex_17 : decode cX1_hasVertex 17 = .ok (.ireturn, 1) := by decide +kernel
theorem dX1_addArc_0 : decode cX1_addArc 0 = .ok (.aload_n 0, 1) := by decide +kernel
theorem dX1_addArc_1 : decode cX1_addArc 1 = .ok (.getfield 9, 3) := by decide +kernel
theorem dX1_addArc_4 : decode cX1_addArc 4 = .ok (.aload_n 0, 1) := by decide +kernel
theorem dX1_addArc_5 : decode cX1_addArc 5 = .ok (.getfield 22, 3) := by decide +kernel
theorem dX1_addArc_8 : decode cX1_addArc 8 = .ok (.iload_n 1, 1) := by decide +kernel
theorem dX1_addArc_9 : decode cX1_addArc 9 = .ok (.iastore, 1) := by decide +kernel
theorem dX1_addArc_10 : decode cX1_addArc 10 = .ok (.aload_n 0, 1) := by decide +kernel
theorem dX1_addArc_11 : decode cX1_addArc 11 = .ok (.getfield 15, 3) := by decide +kernel
theorem dX1_addArc_14 : decode cX1_addArc 14 = .ok (.aload_n 0, 1) := by decide +kernel
theorem dX1_addArc_15 : decode cX1_addArc 15 = .ok (.getfield 22, 3) := by decide +kernel
theorem dX1_addArc_18 : decode cX1_addArc 18 = .ok (.iload_n 2, 1) := by decide +kernel
theorem dX1_addArc_19 : decode cX1_addArc 19 = .ok (.iastore, 1) := by decide +kernel
theorem dX1_addArc_20 : decode cX1_addArc 20 = .ok (.aload_n 0, 1) := by decide +kernel
theorem dX1_addArc_21 : decode cX1_addArc 21 = .ok (.dup, 1) := by decide +kernel
theorem dX1_addArc_22 : decode cX1_addArc 22 = .ok (.getfield 22, 3) := by decide +kernel
theorem dX1_addArc_25 : decode cX1_addArc 25 = .ok (.iconst 1, 1) := by decide +kernel
theorem dX1_addArc_26 : decode cX1_addArc 26 = .ok (.iadd, 1) := by decide +kernel
theorem dX1_addArc_27 : decode cX1_addArc 27 = .ok (.putfield 22, 3) := by decide +kernel
theorem dX1_addArc_30 : decode cX1_addArc 30 = .ok (.return_, 1) := by decide +kernel
theorem dX1_hasArc_0 : decode cX1_hasArc 0 = .ok (.iload_n 1, 1) := by decide +kernel
theorem dX1_hasArc_1 : decode cX1_hasArc 1 = .ok (.ifCond .lt 15, 3) := by decide +kernel
theorem dX1_hasArc_4 : decode cX1_hasArc 4 = .ok (.iload_n 1, 1) := by decide +kernel
theorem dX1_hasArc_5 : decode cX1_hasArc 5 = .ok (.aload_n 0, 1) := by decide +kernel
theorem dX1_hasArc_6 : decode cX1_hasArc 6 = .ok (.getfield 22, 3) := by decide +kernel
theorem dX1_hasArc_9 : decode cX1_hasArc 9 = .ok (.if_icmp .ge 7, 3) := by decide +kernel
theorem dX1_hasArc_12 : decode cX1_hasArc 12 = .ok (.iconst 1, 1) := by decide +kernel
theorem dX1_hasArc_13 : decode cX1_hasArc 13 = .ok (.goto 4, 3) := by decide +kernel
theorem dX1_hasArc_16 : decode cX1_hasArc 16 = .ok (.iconst 0, 1) := by decide +kernel
theorem dX1_hasArc_17 : decode cX1_hasArc 17 = .ok (.ireturn, 1) := by decide +kernel
theorem dX1_removeArc_0 : decode cX1_removeArc 0 = .ok (.aload_n 0, 1) := by decide +kernel
theorem dX1_removeArc_1 : decode cX1_removeArc 1 = .ok (.dup, 1) := by decide +kernel
theorem dX1_removeArc_2 : decode cX1_removeArc 2 = .ok (.getfield 22, 3) := by decide +kernel
theorem dX1_removeArc_5 : decode cX1_removeArc 5 = .ok (.iconst 1, 1) := by decide +kernel
theorem dX1_removeArc_6 : decode cX1_removeArc 6 = .ok (.isub, 1) := by decide +kernel
theorem dX1_removeArc_7 : decode cX1_removeArc 7 = .ok (.putfield 22, 3) := by decide +kernel
theorem dX1_removeArc_10 : decode cX1_removeArc 10 = .ok (.iload_n 1, 1) := by decide +kernel
theorem dX1_removeArc_11 : decode cX1_removeArc 11 = .ok (.istore_n 2, 1) := by decide +kernel
theorem dX1_removeArc_12 : decode cX1_removeArc 12 = .ok (.iload_n 2, 1) := by decide +kernel
theorem dX1_removeArc_13 : decode cX1_removeArc 13 = .ok (.aload_n 0, 1) := by decide +kernel
theorem dX1_removeArc_14 : decode cX1_removeArc 14 = .ok (.getfield 22, 3) := by decide +kernel
theorem dX1_removeArc_17 : decode cX1_removeArc 17 = .ok (.if_icmp .ge 37, 3) := by decide +kernel
theorem dX1_removeArc_20 : decode cX1_removeArc 20 = .ok (.aload_n 0, 1) := by decide +kernel
theorem dX1_removeArc_21 : decode cX1_removeArc 21 = .ok (.getfield 9, 3) := by decide +kernel
theorem dX1_removeArc_24 : decode cX1_removeArc 24 = .ok (.iload_n 2, 1) := by decide +kernel
theorem dX1_removeArc_25 : decode cX1_removeArc 25 = .ok (.aload_n 0, 1) := by decide +kernel
theorem dX1_removeArc_26 : decode cX1_removeArc 26 = .ok (.getfield 9, 3) := by decide +kernel
theorem dX1_removeArc_29 : decode cX1_removeArc 29 = .ok (.iload_n 2, 1) := by decide +kernel
theorem dX1_removeArc_30 : decode cX1_removeArc 30 = .ok (.iconst 1, 1) := by decide +kernel
theorem dX1_removeArc_31 : decode cX1_removeArc 31 = .ok (.iadd, 1) := by decide +kernel
theorem dX1_removeArc_32 : decode cX1_removeArc 32 = .ok (.iaload, 1) := by decide +kernel
theorem dX1_removeArc_33 : decode cX1_removeArc 33 = .ok (.iastore, 1) := by decide +kernel
theorem dX1_removeArc_34 : decode cX1_removeArc 34 = .ok (.aload_n 0, 1) := by decide +kernel
theorem dX1_removeArc_35 : decode cX1_removeArc 35 = .ok (.getfield 15, 3) := by decide +kernel
theorem dX1_removeArc_38 : decode cX1_removeArc 38 = .ok (.iload_n 2, 1) := by decide +kernel
theorem dX1_removeArc_39 : decode cX1_removeArc 39 = .ok (.aload_n 0, 1) := by decide +kernel
theorem dX1_removeArc_40 : decode cX1_removeArc 40 = .ok (.getfield 15, 3) := by decide +kernel
theorem dX1_removeArc_43 : decode cX1_removeArc 43 = .ok (.iload_n 2, 1) := by decide +kernel
theorem dX1_removeArc_44 : decode cX1_removeArc 44 = .ok (.iconst 1, 1) := by decide +kernel
theorem dX1_removeArc_45 : decode cX1_removeArc 45 = .ok (.iadd, 1) := by decide +kernel
theorem dX1_removeArc_46 : decode cX1_removeArc 46 = .ok (.iaload, 1) := by decide +kernel
theorem dX1_removeArc_47 : decode cX1_removeArc 47 = .ok (.iastore, 1) := by decide +kernel
theorem dX1_removeArc_48 : decode cX1_removeArc 48 = .ok (.iinc 2 1, 3) := by decide +kernel
theorem dX1_removeArc_51 : decode cX1_removeArc 51 = .ok (.goto (-39), 3) := by decide +kernel
theorem dX1_removeArc_54 : decode cX1_removeArc 54 = .ok (.return_, 1) := by decide +kernel
theorem dX1_hasSet_0 : decode cX1_hasSet 0 = .ok (.iload_n 1, 1) := by decide +kernel
theorem dX1_hasSet_1 : decode cX1_hasSet 1 = .ok (.ifCond .lt 15, 3) := by decide +kernel
theorem dX1_hasSet_4 : decode cX1_hasSet 4 = .ok (.iload_n 1, 1) := by decide +kernel
theorem dX1_hasSet_5 : decode cX1_hasSet 5 = .ok (.aload_n 0, 1) := by decide +kernel
theorem dX1_hasSet_6 : decode cX1_hasSet 6 = .ok (.invokevirtual 25, 3) := by decide +kernel
theorem dX1_hasSet_9 : decode cX1_hasSet 9 = .ok (.if_icmp .gt 7, 3) := by decide +kernel
theorem dX1_hasSet_12 : decode cX1_hasSet 12 = .ok (.iconst 1, 1) := by decide +kernel
theorem dX1_hasSet_13 : decode cX1_hasSet 13 = .ok (.goto 4, 3) := by decide +kernel
theorem dX1_hasSet_16 : decode cX1_hasSet 16 = .ok (.iconst 0, 1) := by decide +kernel
theorem dX1_hasSet_17 : decode cX1_hasSet 17 = .ok (.ireturn, 1) := by decide +kernel
theorem dX1_allVertices_0 : decode cX1_allVertices 0 = .ok (.iconst 1, 1) := by decide +kernel
theorem dX1_allVertices_1 : decode cX1_allVertices 1 = .ok (.aload_n 0, 1) := by decide +kernel
theorem dX1_allVertices_2 : decode cX1_allVertices 2 = .ok (.getfield 18, 3) := by decide +kernel
theorem dX1_allVertices_5 : decode cX1_allVertices 5 = .ok (.ishl, 1) := by decide +kernel
theorem dX1_allVertices_6 : decode cX1_allVertices 6 = .ok (.iconst 1, 1) := by decide +kernel
theorem dX1_allVertices_7 : decode cX1_allVertices 7 = .ok (.isub, 1) := by decide +kernel
theorem dX1_allVertices_8 : decode cX1_allVertices 8 = .ok (.ireturn, 1) := by decide +kernel
theorem dX0_add_0 : decode cX0_add 0 = .ok (.aload_n 0, 1) := by decide +kernel
theorem dX0_add_1 : decode cX0_add 1 = .ok (.getfield 9, 3) := by decide +kernel
theorem dX0_add_4 : decode cX0_add 4 = .ok (.aload_n 0, 1) := by decide +kernel
theorem dX0_add_5 : decode cX0_add 5 = .ok (.getfield 15, 3) := by decide +kernel
theorem dX0_add_8 : decode cX0_add 8 = .ok (.iload_n 1, 1) := by decide +kernel
theorem dX0_add_9 : decode cX0_add 9 = .ok (.iastore, 1) := by decide +kernel
theorem dX0_add_10 : decode cX0_add 10 = .ok (.aload_n 0, 1) := by decide +kernel
theorem dX0_add_11 : decode cX0_add 11 = .ok (.dup, 1) := by decide +kernel
theorem dX0_add_12 : decode cX0_add 12 = .ok (.getfield 15, 3) := by decide +kernel
theorem dX0_add_15 : decode cX0_add 15 = .ok (.iconst 1, 1) := by decide +kernel
theorem dX0_add_16 : decode cX0_add 16 = .ok (.iadd, 1) := by decide +kernel
theorem dX0_add_17 : decode cX0_add 17 = .ok (.putfield 15, 3) := by decide +kernel
theorem dX0_add_20 : decode cX0_add 20 = .ok (.return_, 1) := by decide +kernel
theorem dX1_entrySize_0 : decode cX1_entrySize 0 = .ok (.iconst 0, 1) := by decide +kernel
theorem dX1_entrySize_1 : decode cX1_entrySize 1 = .ok (.istore_n 2, 1) := by decide +kernel
theorem dX1_entrySize_2 : decode cX1_entrySize 2 = .ok (.iconst 0, 1) := by decide +kernel
theorem dX1_entrySize_3 : decode cX1_entrySize 3 = .ok (.istore_n 3, 1) := by decide +kernel
theorem dX1_entrySize_4 : decode cX1_entrySize 4 = .ok (.iload_n 3, 1) := by decide +kernel
theorem dX1_entrySize_5 : decode cX1_entrySize 5 = .ok (.aload_n 0, 1) := by decide +kernel
theorem dX1_entrySize_6 : decode cX1_entrySize 6 = .ok (.getfield 22, 3) := by decide +kernel
theorem dX1_entrySize_9 : decode cX1_entrySize 9 = .ok (.if_icmp .ge 21, 3) := by decide +kernel
theorem dX1_entrySize_12 : decode cX1_entrySize 12 = .ok (.aload_n 0, 1) := by decide +kernel
theorem dX1_entrySize_13 : decode cX1_entrySize 13 = .ok (.iload_n 3, 1) := by decide +kernel
theorem dX1_entrySize_14 : decode cX1_entrySize 14 = .ok (.iload_n 1, 1) := by decide +kernel
theorem dX1_entrySize_15 : decode cX1_entrySize 15 = .ok (.invokevirtual 29, 3) := by decide +kernel
theorem dX1_entrySize_18 : decode cX1_entrySize 18 = .ok (.ifCond .eq 6, 3) := by decide +kernel
theorem dX1_entrySize_21 : decode cX1_entrySize 21 = .ok (.iinc 2 1, 3) := by decide +kernel
theorem dX1_entrySize_24 : decode cX1_entrySize 24 = .ok (.iinc 3 1, 3) := by decide +kernel
theorem dX1_entrySize_27 : decode cX1_entrySize 27 = .ok (.goto (-23), 3) := by decide +kernel
theorem dX1_entrySize_30 : decode cX1_entrySize 30 = .ok (.iload_n 2, 1) := by decide +kernel
theorem dX1_entrySize_31 : decode cX1_entrySize 31 = .ok (.ireturn, 1) := by decide +kernel
theorem dX1_enters_0 : decode cX1_enters 0 = .ok (.iload_n 2, 1) := by decide +kernel
theorem dX1_enters_1 : decode cX1_enters 1 = .ok (.iconst 1, 1) := by decide +kernel
theorem dX1_enters_2 : decode cX1_enters 2 = .ok (.aload_n 0, 1) := by decide +kernel
theorem dX1_enters_3 : decode cX1_enters 3 = .ok (.getfield 15, 3) := by decide +kernel
theorem dX1_enters_6 : decode cX1_enters 6 = .ok (.iload_n 1, 1) := by decide +kernel
theorem dX1_enters_7 : decode cX1_enters 7 = .ok (.iaload, 1) := by decide +kernel
theorem dX1_enters_8 : decode cX1_enters 8 = .ok (.ishl, 1) := by decide +kernel
theorem dX1_enters_9 : decode cX1_enters 9 = .ok (.iand, 1) := by decide +kernel
theorem dX1_enters_10 : decode cX1_enters 10 = .ok (.ifCond .eq 20, 3) := by decide +kernel
theorem dX1_enters_13 : decode cX1_enters 13 = .ok (.iload_n 2, 1) := by decide +kernel
theorem dX1_enters_14 : decode cX1_enters 14 = .ok (.iconst 1, 1) := by decide +kernel
theorem dX1_enters_15 : decode cX1_enters 15 = .ok (.aload_n 0, 1) := by decide +kernel
theorem dX1_enters_16 : decode cX1_enters 16 = .ok (.getfield 9, 3) := by decide +kernel
theorem dX1_enters_19 : decode cX1_enters 19 = .ok (.iload_n 1, 1) := by decide +kernel
theorem dX1_enters_20 : decode cX1_enters 20 = .ok (.iaload, 1) := by decide +kernel
theorem dX1_enters_21 : decode cX1_enters 21 = .ok (.ishl, 1) := by decide +kernel
theorem dX1_enters_22 : decode cX1_enters 22 = .ok (.iand, 1) := by decide +kernel
theorem dX1_enters_23 : decode cX1_enters 23 = .ok (.ifCond .ne 7, 3) := by decide +kernel
theorem dX1_enters_26 : decode cX1_enters 26 = .ok (.iconst 1, 1) := by decide +kernel
theorem dX1_enters_27 : decode cX1_enters 27 = .ok (.goto 4, 3) := by decide +kernel
theorem dX1_enters_30 : decode cX1_enters 30 = .ok (.iconst 0, 1) := by decide +kernel
theorem dX1_enters_31 : decode cX1_enters 31 = .ok (.ireturn, 1) := by decide +kernel
theorem dX0_missing_0 : decode cX0_missing 0 = .ok (.iconst 0, 1) := by decide +kernel
theorem dX0_missing_1 : decode cX0_missing 1 = .ok (.istore_n 2, 1) := by decide +kernel
theorem dX0_missing_2 : decode cX0_missing 2 = .ok (.iconst 0, 1) := by decide +kernel
theorem dX0_missing_3 : decode cX0_missing 3 = .ok (.istore_n 3, 1) := by decide +kernel
theorem dX0_missing_4 : decode cX0_missing 4 = .ok (.iload_n 3, 1) := by decide +kernel
theorem dX0_missing_5 : decode cX0_missing 5 = .ok (.aload_n 0, 1) := by decide +kernel
theorem dX0_missing_6 : decode cX0_missing 6 = .ok (.getfield 15, 3) := by decide +kernel
theorem dX0_missing_9 : decode cX0_missing 9 = .ok (.if_icmp .ge 23, 3) := by decide +kernel
theorem dX0_missing_12 : decode cX0_missing 12 = .ok (.aload_n 0, 1) := by decide +kernel
theorem dX0_missing_13 : decode cX0_missing 13 = .ok (.getfield 9, 3) := by decide +kernel
theorem dX0_missing_16 : decode cX0_missing 16 = .ok (.iload_n 3, 1) := by decide +kernel
theorem dX0_missing_17 : decode cX0_missing 17 = .ok (.iaload, 1) := by decide +kernel
theorem dX0_missing_18 : decode cX0_missing 18 = .ok (.iload_n 1, 1) := by decide +kernel
theorem dX0_missing_19 : decode cX0_missing 19 = .ok (.iand, 1) := by decide +kernel
theorem dX0_missing_20 : decode cX0_missing 20 = .ok (.ifCond .ne 6, 3) := by decide +kernel
theorem dX0_missing_23 : decode cX0_missing 23 = .ok (.iinc 2 1, 3) := by decide +kernel
theorem dX0_missing_26 : decode cX0_missing 26 = .ok (.iinc 3 1, 3) := by decide +kernel
theorem dX0_missing_29 : decode cX0_missing 29 = .ok (.goto (-25), 3) := by decide +kernel
theorem dX0_missing_32 : decode cX0_missing 32 = .ok (.iload_n 2, 1) := by decide +kernel
theorem dX0_missing_33 : decode cX0_missing 33 = .ok (.ireturn, 1) := by decide +kernel
theorem dX2_refresh_0 : decode cX2_refresh 0 = .ok (.aload_n 0, 1) := by decide +kernel
theorem dX2_refresh_1 : decode cX2_refresh 1 = .ok (.getfield 18, 3) := by decide +kernel
theorem dX2_refresh_4 : decode cX2_refresh 4 = .ok (.ifCond .ne 4, 3) := by decide +kernel
theorem dX2_refresh_7 : decode cX2_refresh 7 = .ok (.return_, 1) := by decide +kernel
theorem dX2_refresh_8 : decode cX2_refresh 8 = .ok (.aload_n 0, 1) := by decide +kernel
theorem dX2_refresh_9 : decode cX2_refresh 9 = .ok (.iconst 0, 1) := by decide +kernel
theorem dX2_refresh_10 : decode cX2_refresh 10 = .ok (.putfield 18, 3) := by decide +kernel
theorem dX2_refresh_13 : decode cX2_refresh 13 = .ok (.aload_n 0, 1) := by decide +kernel
theorem dX2_refresh_14 : decode cX2_refresh 14 = .ok (.getfield 9, 3) := by decide +kernel
theorem dX2_refresh_17 : decode cX2_refresh 17 = .ok (.iconst (-1), 1) := by decide +kernel
theorem dX2_refresh_18 : decode cX2_refresh 18 = .ok (.invokestatic 22, 3) := by decide +kernel
theorem dX2_refresh_21 : decode cX2_refresh 21 = .ok (.aload_n 0, 1) := by decide +kernel
theorem dX2_refresh_22 : decode cX2_refresh 22 = .ok (.aload_n 1, 1) := by decide +kernel
theorem dX2_refresh_23 : decode cX2_refresh 23 = .ok (.aload_n 2, 1) := by decide +kernel
theorem dX2_refresh_24 : decode cX2_refresh 24 = .ok (.invokevirtual 28, 3) := by decide +kernel
theorem dX2_refresh_27 : decode cX2_refresh 27 = .ok (.ifCond .ne 4, 3) := by decide +kernel
theorem dX2_refresh_30 : decode cX2_refresh 30 = .ok (.return_, 1) := by decide +kernel
theorem dX2_refresh_31 : decode cX2_refresh 31 = .ok (.iconst 0, 1) := by decide +kernel
theorem dX2_refresh_32 : decode cX2_refresh 32 = .ok (.istore_n 3, 1) := by decide +kernel
theorem dX2_refresh_33 : decode cX2_refresh 33 = .ok (.iload_n 3, 1) := by decide +kernel
theorem dX2_refresh_34 : decode cX2_refresh 34 = .ok (.aload_n 2, 1) := by decide +kernel
theorem dX2_refresh_35 : decode cX2_refresh 35 = .ok (.getfield 32, 3) := by decide +kernel
theorem dX2_refresh_38 : decode cX2_refresh 38 = .ok (.if_icmp .ge 21, 3) := by decide +kernel
theorem dX2_refresh_41 : decode cX2_refresh 41 = .ok (.aload_n 0, 1) := by decide +kernel
theorem dX2_refresh_42 : decode cX2_refresh 42 = .ok (.aload_n 1, 1) := by decide +kernel
theorem dX2_refresh_43 : decode cX2_refresh 43 = .ok (.iload_n 3, 1) := by decide +kernel
theorem dX2_refresh_44 : decode cX2_refresh 44 = .ok (.aload_n 2, 1) := by decide +kernel
theorem dX2_refresh_45 : decode cX2_refresh 45 = .ok (.getfield 38, 3) := by decide +kernel
theorem dX2_refresh_48 : decode cX2_refresh 48 = .ok (.iload_n 3, 1) := by decide +kernel
theorem dX2_refresh_49 : decode cX2_refresh 49 = .ok (.iaload, 1) := by decide +kernel
theorem dX2_refresh_50 : decode cX2_refresh 50 = .ok (.invokevirtual 41, 3) := by decide +kernel
theorem dX2_refresh_53 : decode cX2_refresh 53 = .ok (.iinc 3 1, 3) := by decide +kernel
theorem dX2_refresh_56 : decode cX2_refresh 56 = .ok (.goto (-23), 3) := by decide +kernel
theorem dX2_refresh_59 : decode cX2_refresh 59 = .ok (.return_, 1) := by decide +kernel
theorem dX2_measureSurplus_0 : decode cX2_measureSurplus 0 = .ok (.iconst 1, 1) := by decide +kernel
theorem dX2_measureSurplus_1 : decode cX2_measureSurplus 1 = .ok (.istore_n 3, 1) := by decide +kernel
theorem dX2_measureSurplus_2 : decode cX2_measureSurplus 2 = .ok (.iload_n 3, 1) := by decide +kernel
theorem dX2_measureSurplus_3 : decode cX2_measureSurplus 3 = .ok (.aload_n 1, 1) := by decide +kernel
theorem dX2_measureSurplus_4 : decode cX2_measureSurplus 4 = .ok (.invokevirtual 45, 3) := by decide +kernel
theorem dX2_measureSurplus_7 : decode cX2_measureSurplus 7 = .ok (.if_icmp .gt 37, 3) := by decide +kernel
theorem dX2_measureSurplus_10 : decode cX2_measureSurplus 10 = .ok (.aload_n 0, 1) := by decide +kernel
theorem dX2_measureSurplus_11 : decode cX2_measureSurplus 11 = .ok (.getfield 15, 3) := by decide +kernel
theorem dX2_measureSurplus_14 : decode cX2_measureSurplus 14 = .ok (.iload_n 3, 1) := by decide +kernel
theorem dX2_measureSurplus_15 : decode cX2_measureSurplus 15 = .ok (.aload_n 1, 1) := by decide +kernel
theorem dX2_measureSurplus_16 : decode cX2_measureSurplus 16 = .ok (.iload_n 3, 1) := by decide +kernel
theorem dX2_measureSurplus_17 : decode cX2_measureSurplus 17 = .ok (.invokevirtual 51, 3) := by decide +kernel
theorem dX2_measureSurplus_20 : decode cX2_measureSurplus 20 = .ok (.aload_n 2, 1) := by decide +kernel
theorem dX2_measureSurplus_21 : decode cX2_measureSurplus 21 = .ok (.iload_n 3, 1) := by decide +kernel
theorem dX2_measureSurplus_22 : decode cX2_measureSurplus 22 = .ok (.invokevirtual 55, 3) := by decide +kernel
theorem dX2_measureSurplus_25 : decode cX2_measureSurplus 25 = .ok (.isub, 1) := by decide +kernel
theorem dX2_measureSurplus_26 : decode cX2_measureSurplus 26 = .ok (.iastore, 1) := by decide +kernel
theorem dX2_measureSurplus_27 : decode cX2_measureSurplus 27 = .ok (.aload_n 0, 1) := by decide +kernel
theorem dX2_measureSurplus_28 : decode cX2_measureSurplus 28 = .ok (.getfield 15, 3) := by decide +kernel
theorem dX2_measureSurplus_31 : decode cX2_measureSurplus 31 = .ok (.iload_n 3, 1) := by decide +kernel
theorem dX2_measureSurplus_32 : decode cX2_measureSurplus 32 = .ok (.iaload, 1) := by decide +kernel
theorem dX2_measureSurplus_33 : decode cX2_measureSurplus 33 = .ok (.ifCond .ge 5, 3) := by decide +kernel
theorem dX2_measureSurplus_36 : decode cX2_measureSurplus 36 = .ok (.iconst 0, 1) := by decide +kernel
theorem dX2_measureSurplus_37 : decode cX2_measureSurplus 37 = .ok (.ireturn, 1) := by decide +kernel
theorem dX2_measureSurplus_38 : decode cX2_measureSurplus 38 = .ok (.iinc 3 1, 3) := by decide +kernel
theorem dX2_measureSurplus_41 : decode cX2_measureSurplus 41 = .ok (.goto (-39), 3) := by decide +kernel
theorem dX2_measureSurplus_44 : decode cX2_measureSurplus 44 = .ok (.iconst 1, 1) := by decide +kernel
theorem dX2_measureSurplus_45 : decode cX2_measureSurplus 45 = .ok (.ireturn, 1) := by decide +kernel
theorem dX2_growToAll_0 : decode cX2_growToAll 0 = .ok (.iload_n 3, 1) := by decide +kernel
theorem dX2_growToAll_1 : decode cX2_growToAll 1 = .ok (.istore 4, 2) := by decide +kernel
theorem dX2_growToAll_3 : decode cX2_growToAll 3 = .ok (.iconst 1, 1) := by decide +kernel
theorem dX2_growToAll_4 : decode cX2_growToAll 4 = .ok (.istore 5, 2) := by decide +kernel
theorem dX2_growToAll_6 : decode cX2_growToAll 6 = .ok (.iload 5, 2) := by decide +kernel
theorem dX2_growToAll_8 : decode cX2_growToAll 8 = .ok (.aload_n 1, 1) := by decide +kernel
theorem dX2_growToAll_9 : decode cX2_growToAll 9 = .ok (.getfield 58, 3) := by decide +kernel
theorem dX2_growToAll_12 : decode cX2_growToAll 12 = .ok (.if_icmp .ge 49, 3) := by decide +kernel
theorem dX2_growToAll_15 : decode cX2_growToAll 15 = .ok (.aload_n 0, 1) := by decide +kernel
theorem dX2_growToAll_16 : decode cX2_growToAll 16 = .ok (.aload_n 1, 1) := by decide +kernel
theorem dX2_growToAll_17 : decode cX2_growToAll 17 = .ok (.iload 4, 2) := by decide +kernel
theorem dX2_growToAll_19 : decode cX2_growToAll 19 = .ok (.invokevirtual 61, 3) := by decide +kernel
theorem dX2_growToAll_22 : decode cX2_growToAll 22 = .ok (.istore 6, 2) := by decide +kernel
theorem dX2_growToAll_24 : decode cX2_growToAll 24 = .ok (.iload 6, 2) := by decide +kernel
theorem dX2_growToAll_26 : decode cX2_growToAll 26 = .ok (.iconst (-1), 1) := by decide +kernel
theorem dX2_growToAll_27 : decode cX2_growToAll 27 = .ok (.if_icmp .ne 4, 3) := by decide +kernel
theorem dX2_growToAll_30 : decode cX2_growToAll 30 = .ok (.return_, 1) := by decide +kernel
theorem dX2_growToAll_31 : decode cX2_growToAll 31 = .ok (.aload_n 0, 1) := by decide +kernel
theorem dX2_growToAll_32 : decode cX2_growToAll 32 = .ok (.aload_n 1, 1) := by decide +kernel
theorem dX2_growToAll_33 : decode cX2_growToAll 33 = .ok (.iload 6, 2) := by decide +kernel
theorem dX2_growToAll_35 : decode cX2_growToAll 35 = .ok (.iload_n 2, 1) := by decide +kernel
theorem dX2_growToAll_36 : decode cX2_growToAll 36 = .ok (.iload 4, 2) := by decide +kernel
theorem dX2_growToAll_38 : decode cX2_growToAll 38 = .ok (.invokevirtual 65, 3) := by decide +kernel
theorem dX2_growToAll_41 : decode cX2_growToAll 41 = .ok (.iload 4, 2) := by decide +kernel
theorem dX2_growToAll_43 : decode cX2_growToAll 43 = .ok (.iconst 1, 1) := by decide +kernel
theorem dX2_growToAll_44 : decode cX2_growToAll 44 = .ok (.aload_n 1, 1) := by decide +kernel
theorem dX2_growToAll_45 : decode cX2_growToAll 45 = .ok (.getfield 69, 3) := by decide +kernel
theorem dX2_growToAll_48 : decode cX2_growToAll 48 = .ok (.iload 6, 2) := by decide +kernel
theorem dX2_growToAll_50 : decode cX2_growToAll 50 = .ok (.iaload, 1) := by decide +kernel
theorem dX2_growToAll_51 : decode cX2_growToAll 51 = .ok (.ishl, 1) := by decide +kernel
theorem dX2_growToAll_52 : decode cX2_growToAll 52 = .ok (.ior, 1) := by decide +kernel
theorem dX2_growToAll_53 : decode cX2_growToAll 53 = .ok (.istore 4, 2) := by decide +kernel
theorem dX2_growToAll_55 : decode cX2_growToAll 55 = .ok (.iinc 5 1, 3) := by decide +kernel
theorem dX2_growToAll_58 : decode cX2_growToAll 58 = .ok (.goto (-52), 3) := by decide +kernel
theorem dX2_growToAll_61 : decode cX2_growToAll 61 = .ok (.return_, 1) := by decide +kernel
theorem dX2_leastSafeArc_0 : decode cX2_leastSafeArc 0 = .ok (.iconst 0, 1) := by decide +kernel
theorem dX2_leastSafeArc_1 : decode cX2_leastSafeArc 1 = .ok (.istore_n 3, 1) := by decide +kernel
theorem dX2_leastSafeArc_2 : decode cX2_leastSafeArc 2 = .ok (.iload_n 3, 1) := by decide +kernel
theorem dX2_leastSafeArc_3 : decode cX2_leastSafeArc 3 = .ok (.aload_n 1, 1) := by decide +kernel
theorem dX2_leastSafeArc_4 : decode cX2_leastSafeArc 4 = .ok (.getfield 72, 3) := by decide +kernel
theorem dX2_leastSafeArc_7 : decode cX2_leastSafeArc 7 = .ok (.if_icmp .ge 40, 3) := by decide +kernel
theorem dX2_leastSafeArc_10 : decode cX2_leastSafeArc 10 = .ok (.aload_n 0, 1) := by decide +kernel
theorem dX2_leastSafeArc_11 : decode cX2_leastSafeArc 11 = .ok (.getfield 9, 3) := by decide +kernel
theorem dX2_leastSafeArc_14 : decode cX2_leastSafeArc 14 = .ok (.iload_n 3, 1) := by decide +kernel
theorem dX2_leastSafeArc_15 : decode cX2_leastSafeArc 15 = .ok (.iaload, 1) := by decide +kernel
theorem dX2_leastSafeArc_16 : decode cX2_leastSafeArc 16 = .ok (.iconst (-1), 1) := by decide +kernel
theorem dX2_leastSafeArc_17 : decode cX2_leastSafeArc 17 = .ok (.if_icmp .ne 24, 3) := by decide +kernel
theorem dX2_leastSafeArc_20 : decode cX2_leastSafeArc 20 = .ok (.aload_n 1, 1) := by decide +kernel
theorem dX2_leastSafeArc_21 : decode cX2_leastSafeArc 21 = .ok (.iload_n 3, 1) := by decide +kernel
theorem dX2_leastSafeArc_22 : decode cX2_leastSafeArc 22 = .ok (.iload_n 2, 1) := by decide +kernel
theorem dX2_leastSafeArc_23 : decode cX2_leastSafeArc 23 = .ok (.invokestatic 75, 3) := by decide +kernel
theorem dX2_leastSafeArc_26 : decode cX2_leastSafeArc 26 = .ok (.ifCond .eq 15, 3) := by decide +kernel
theorem dX2_leastSafeArc_29 : decode cX2_leastSafeArc 29 = .ok (.aload_n 0, 1) := by decide +kernel
theorem dX2_leastSafeArc_30 : decode cX2_leastSafeArc 30 = .ok (.aload_n 1, 1) := by decide +kernel
theorem dX2_leastSafeArc_31 : decode cX2_leastSafeArc 31 = .ok (.iload_n 3, 1) := by decide +kernel
theorem dX2_leastSafeArc_32 : decode cX2_leastSafeArc 32 = .ok (.iload_n 2, 1) := by decide +kernel
theorem dX2_leastSafeArc_33 : decode cX2_leastSafeArc 33 = .ok (.invokevirtual 79, 3) := by decide +kernel
theorem dX2_leastSafeArc_36 : decode cX2_leastSafeArc 36 = .ok (.ifCond .eq 5, 3) := by decide +kernel
theorem dX2_leastSafeArc_39 : decode cX2_leastSafeArc 39 = .ok (.iload_n 3, 1) := by decide +kernel
theorem dX2_leastSafeArc_40 : decode cX2_leastSafeArc 40 = .ok (.ireturn, 1) := by decide +kernel
theorem dX2_leastSafeArc_41 : decode cX2_leastSafeArc 41 = .ok (.iinc 3 1, 3) := by decide +kernel
theorem dX2_leastSafeArc_44 : decode cX2_leastSafeArc 44 = .ok (.goto (-42), 3) := by decide +kernel
theorem dX2_leastSafeArc_47 : decode cX2_leastSafeArc 47 = .ok (.iconst (-1), 1) := by decide +kernel
theorem dX2_leastSafeArc_48 : decode cX2_leastSafeArc 48 = .ok (.ireturn, 1) := by decide +kernel
theorem dX2_leadsOut_0 : decode cX2_leadsOut 0 = .ok (.iload_n 2, 1) := by decide +kernel
theorem dX2_leadsOut_1 : decode cX2_leadsOut 1 = .ok (.iconst 1, 1) := by decide +kernel
theorem dX2_leadsOut_2 : decode cX2_leadsOut 2 = .ok (.aload_n 0, 1) := by decide +kernel
theorem dX2_leadsOut_3 : decode cX2_leadsOut 3 = .ok (.getfield 82, 3) := by decide +kernel
theorem dX2_leadsOut_6 : decode cX2_leadsOut 6 = .ok (.iload_n 1, 1) := by decide +kernel
theorem dX2_leadsOut_7 : decode cX2_leadsOut 7 = .ok (.iaload, 1) := by decide +kernel
theorem dX2_leadsOut_8 : decode cX2_leadsOut 8 = .ok (.ishl, 1) := by decide +kernel
theorem dX2_leadsOut_9 : decode cX2_leadsOut 9 = .ok (.iand, 1) := by decide +kernel
theorem dX2_leadsOut_10 : decode cX2_leadsOut 10 = .ok (.ifCond .eq 20, 3) := by decide +kernel
theorem dX2_leadsOut_13 : decode cX2_leadsOut 13 = .ok (.iload_n 2, 1) := by decide +kernel
theorem dX2_leadsOut_14 : decode cX2_leadsOut 14 = .ok (.iconst 1, 1) := by decide +kernel
theorem dX2_leadsOut_15 : decode cX2_leadsOut 15 = .ok (.aload_n 0, 1) := by decide +kernel
theorem dX2_leadsOut_16 : decode cX2_leadsOut 16 = .ok (.getfield 69, 3) := by decide +kernel
theorem dX2_leadsOut_19 : decode cX2_leadsOut 19 = .ok (.iload_n 1, 1) := by decide +kernel
theorem dX2_leadsOut_20 : decode cX2_leadsOut 20 = .ok (.iaload, 1) := by decide +kernel
theorem dX2_leadsOut_21 : decode cX2_leadsOut 21 = .ok (.ishl, 1) := by decide +kernel
theorem dX2_leadsOut_22 : decode cX2_leadsOut 22 = .ok (.iand, 1) := by decide +kernel
theorem dX2_leadsOut_23 : decode cX2_leadsOut 23 = .ok (.ifCond .ne 7, 3) := by decide +kernel
theorem dX2_leadsOut_26 : decode cX2_leadsOut 26 = .ok (.iconst 1, 1) := by decide +kernel
theorem dX2_leadsOut_27 : decode cX2_leadsOut 27 = .ok (.goto 4, 3) := by decide +kernel
theorem dX2_leadsOut_30 : decode cX2_leadsOut 30 = .ok (.iconst 0, 1) := by decide +kernel
theorem dX2_leadsOut_31 : decode cX2_leadsOut 31 = .ok (.ireturn, 1) := by decide +kernel
theorem dX2_isSafe_0 : decode cX2_isSafe 0 = .ok (.iconst 1, 1) := by decide +kernel
theorem dX2_isSafe_1 : decode cX2_isSafe 1 = .ok (.istore 4, 2) := by decide +kernel
theorem dX2_isSafe_3 : decode cX2_isSafe 3 = .ok (.iload 4, 2) := by decide +kernel
theorem dX2_isSafe_5 : decode cX2_isSafe 5 = .ok (.aload_n 1, 1) := by decide +kernel
theorem dX2_isSafe_6 : decode cX2_isSafe 6 = .ok (.invokevirtual 45, 3) := by decide +kernel
theorem dX2_isSafe_9 : decode cX2_isSafe 9 = .ok (.if_icmp .gt 33, 3) := by decide +kernel
theorem dX2_isSafe_12 : decode cX2_isSafe 12 = .ok (.aload_n 1, 1) := by decide +kernel
theorem dX2_isSafe_13 : decode cX2_isSafe 13 = .ok (.iload_n 2, 1) := by decide +kernel
theorem dX2_isSafe_14 : decode cX2_isSafe 14 = .ok (.iload_n 3, 1) := by decide +kernel
theorem dX2_isSafe_15 : decode cX2_isSafe 15 = .ok (.iload 4, 2) := by decide +kernel
theorem dX2_isSafe_17 : decode cX2_isSafe 17 = .ok (.invokestatic 85, 3) := by decide +kernel
theorem dX2_isSafe_20 : decode cX2_isSafe 20 = .ok (.ifCond .eq 16, 3) := by decide +kernel
theorem dX2_isSafe_23 : decode cX2_isSafe 23 = .ok (.aload_n 0, 1) := by decide +kernel
theorem dX2_isSafe_24 : decode cX2_isSafe 24 = .ok (.getfield 15, 3) := by decide +kernel
theorem dX2_isSafe_27 : decode cX2_isSafe 27 = .ok (.iload 4, 2) := by decide +kernel
theorem dX2_isSafe_29 : decode cX2_isSafe 29 = .ok (.iaload, 1) := by decide +kernel
theorem dX2_isSafe_30 : decode cX2_isSafe 30 = .ok (.iconst 1, 1) := by decide +kernel
theorem dX2_isSafe_31 : decode cX2_isSafe 31 = .ok (.if_icmp .ge 5, 3) := by decide +kernel
theorem dX2_isSafe_34 : decode cX2_isSafe 34 = .ok (.iconst 0, 1) := by decide +kernel
theorem dX2_isSafe_35 : decode cX2_isSafe 35 = .ok (.ireturn, 1) := by decide +kernel
theorem dX2_isSafe_36 : decode cX2_isSafe 36 = .ok (.iinc 4 1, 3) := by decide +kernel
theorem dX2_isSafe_39 : decode cX2_isSafe 39 = .ok (.goto (-36), 3) := by decide +kernel
theorem dX2_isSafe_42 : decode cX2_isSafe 42 = .ok (.iconst 1, 1) := by decide +kernel
theorem dX2_isSafe_43 : decode cX2_isSafe 43 = .ok (.ireturn, 1) := by decide +kernel
theorem dX2_takesFrom_0 : decode cX2_takesFrom 0 = .ok (.iload_n 3, 1) := by decide +kernel
theorem dX2_takesFrom_1 : decode cX2_takesFrom 1 = .ok (.iload_n 2, 1) := by decide +kernel
theorem dX2_takesFrom_2 : decode cX2_takesFrom 2 = .ok (.iand, 1) := by decide +kernel
theorem dX2_takesFrom_3 : decode cX2_takesFrom 3 = .ok (.ifCond .eq 16, 3) := by decide +kernel
theorem dX2_takesFrom_6 : decode cX2_takesFrom 6 = .ok (.aload_n 0, 1) := by decide +kernel
theorem dX2_takesFrom_7 : decode cX2_takesFrom 7 = .ok (.iload_n 1, 1) := by decide +kernel
theorem dX2_takesFrom_8 : decode cX2_takesFrom 8 = .ok (.iload_n 3, 1) := by decide +kernel
theorem dX2_takesFrom_9 : decode cX2_takesFrom 9 = .ok (.invokevirtual 89, 3) := by decide +kernel
theorem dX2_takesFrom_12 : decode cX2_takesFrom 12 = .ok (.ifCond .eq 7, 3) := by decide +kernel
theorem dX2_takesFrom_15 : decode cX2_takesFrom 15 = .ok (.iconst 1, 1) := by decide +kernel
theorem dX2_takesFrom_16 : decode cX2_takesFrom 16 = .ok (.goto 4, 3) := by decide +kernel
theorem dX2_takesFrom_19 : decode cX2_takesFrom 19 = .ok (.iconst 0, 1) := by decide +kernel
theorem dX2_takesFrom_20 : decode cX2_takesFrom 20 = .ok (.ireturn, 1) := by decide +kernel
theorem dX2_use_0 : decode cX2_use 0 = .ok (.aload_n 0, 1) := by decide +kernel
theorem dX2_use_1 : decode cX2_use 1 = .ok (.getfield 9, 3) := by decide +kernel
theorem dX2_use_4 : decode cX2_use 4 = .ok (.iload_n 2, 1) := by decide +kernel
theorem dX2_use_5 : decode cX2_use 5 = .ok (.iload_n 3, 1) := by decide +kernel
theorem dX2_use_6 : decode cX2_use 6 = .ok (.iastore, 1) := by decide +kernel
theorem dX2_use_7 : decode cX2_use 7 = .ok (.iconst 1, 1) := by decide +kernel
theorem dX2_use_8 : decode cX2_use 8 = .ok (.istore 5, 2) := by decide +kernel
theorem dX2_use_10 : decode cX2_use 10 = .ok (.iload 5, 2) := by decide +kernel
theorem dX2_use_12 : decode cX2_use 12 = .ok (.aload_n 1, 1) := by decide +kernel
theorem dX2_use_13 : decode cX2_use 13 = .ok (.invokevirtual 45, 3) := by decide +kernel
theorem dX2_use_16 : decode cX2_use 16 = .ok (.if_icmp .gt 32, 3) := by decide +kernel
theorem dX2_use_19 : decode cX2_use 19 = .ok (.aload_n 1, 1) := by decide +kernel
theorem dX2_use_20 : decode cX2_use 20 = .ok (.iload_n 2, 1) := by decide +kernel
theorem dX2_use_21 : decode cX2_use 21 = .ok (.iload 4, 2) := by decide +kernel
theorem dX2_use_23 : decode cX2_use 23 = .ok (.iload 5, 2) := by decide +kernel
theorem dX2_use_25 : decode cX2_use 25 = .ok (.invokestatic 85, 3) := by decide +kernel
theorem dX2_use_28 : decode cX2_use 28 = .ok (.ifCond .eq 14, 3) := by decide +kernel
theorem dX2_use_31 : decode cX2_use 31 = .ok (.aload_n 0, 1) := by decide +kernel
theorem dX2_use_32 : decode cX2_use 32 = .ok (.getfield 15, 3) := by decide +kernel
theorem dX2_use_35 : decode cX2_use 35 = .ok (.iload 5, 2) := by decide +kernel
theorem dX2_use_37 : decode cX2_use 37 = .ok (.dup2, 1) := by decide +kernel
theorem dX2_use_38 : decode cX2_use 38 = .ok (.iaload, 1) := by decide +kernel
theorem dX2_use_39 : decode cX2_use 39 = .ok (.iconst 1, 1) := by decide +kernel
theorem dX2_use_40 : decode cX2_use 40 = .ok (.isub, 1) := by decide +kernel
theorem dX2_use_41 : decode cX2_use 41 = .ok (.iastore, 1) := by decide +kernel
theorem dX2_use_42 : decode cX2_use 42 = .ok (.iinc 5 1, 3) := by decide +kernel
theorem dX2_use_45 : decode cX2_use 45 = .ok (.goto (-35), 3) := by decide +kernel
theorem dX2_use_48 : decode cX2_use 48 = .ok (.return_, 1) := by decide +kernel
theorem dJ6_bitCount_0 : decode cJ6_bitCount 0 = .ok (.iload_n 0, 1) := by decide +kernel
theorem dJ6_bitCount_1 : decode cJ6_bitCount 1 = .ok (.iload_n 0, 1) := by decide +kernel
theorem dJ6_bitCount_2 : decode cJ6_bitCount 2 = .ok (.iconst 1, 1) := by decide +kernel
theorem dJ6_bitCount_3 : decode cJ6_bitCount 3 = .ok (.iushr, 1) := by decide +kernel
theorem dJ6_bitCount_4 : decode cJ6_bitCount 4 = .ok (.ldc_w 265, 3) := by decide +kernel
theorem dJ6_bitCount_7 : decode cJ6_bitCount 7 = .ok (.iand, 1) := by decide +kernel
theorem dJ6_bitCount_8 : decode cJ6_bitCount 8 = .ok (.isub, 1) := by decide +kernel
theorem dJ6_bitCount_9 : decode cJ6_bitCount 9 = .ok (.istore_n 0, 1) := by decide +kernel
theorem dJ6_bitCount_10 : decode cJ6_bitCount 10 = .ok (.iload_n 0, 1) := by decide +kernel
theorem dJ6_bitCount_11 : decode cJ6_bitCount 11 = .ok (.ldc_w 266, 3) := by decide +kernel
theorem dJ6_bitCount_14 : decode cJ6_bitCount 14 = .ok (.iand, 1) := by decide +kernel
theorem dJ6_bitCount_15 : decode cJ6_bitCount 15 = .ok (.iload_n 0, 1) := by decide +kernel
theorem dJ6_bitCount_16 : decode cJ6_bitCount 16 = .ok (.iconst 2, 1) := by decide +kernel
theorem dJ6_bitCount_17 : decode cJ6_bitCount 17 = .ok (.iushr, 1) := by decide +kernel
theorem dJ6_bitCount_18 : decode cJ6_bitCount 18 = .ok (.ldc_w 266, 3) := by decide +kernel
theorem dJ6_bitCount_21 : decode cJ6_bitCount 21 = .ok (.iand, 1) := by decide +kernel
theorem dJ6_bitCount_22 : decode cJ6_bitCount 22 = .ok (.iadd, 1) := by decide +kernel
theorem dJ6_bitCount_23 : decode cJ6_bitCount 23 = .ok (.istore_n 0, 1) := by decide +kernel
theorem dJ6_bitCount_24 : decode cJ6_bitCount 24 = .ok (.iload_n 0, 1) := by decide +kernel
theorem dJ6_bitCount_25 : decode cJ6_bitCount 25 = .ok (.iload_n 0, 1) := by decide +kernel
theorem dJ6_bitCount_26 : decode cJ6_bitCount 26 = .ok (.iconst 4, 1) := by decide +kernel
theorem dJ6_bitCount_27 : decode cJ6_bitCount 27 = .ok (.iushr, 1) := by decide +kernel
theorem dJ6_bitCount_28 : decode cJ6_bitCount 28 = .ok (.iadd, 1) := by decide +kernel
theorem dJ6_bitCount_29 : decode cJ6_bitCount 29 = .ok (.ldc_w 267, 3) := by decide +kernel
theorem dJ6_bitCount_32 : decode cJ6_bitCount 32 = .ok (.iand, 1) := by decide +kernel
theorem dJ6_bitCount_33 : decode cJ6_bitCount 33 = .ok (.istore_n 0, 1) := by decide +kernel
theorem dJ6_bitCount_34 : decode cJ6_bitCount 34 = .ok (.iload_n 0, 1) := by decide +kernel
theorem dJ6_bitCount_35 : decode cJ6_bitCount 35 = .ok (.iload_n 0, 1) := by decide +kernel
theorem dJ6_bitCount_36 : decode cJ6_bitCount 36 = .ok (.bipush 8, 2) := by decide +kernel
theorem dJ6_bitCount_38 : decode cJ6_bitCount 38 = .ok (.iushr, 1) := by decide +kernel
theorem dJ6_bitCount_39 : decode cJ6_bitCount 39 = .ok (.iadd, 1) := by decide +kernel
theorem dJ6_bitCount_40 : decode cJ6_bitCount 40 = .ok (.istore_n 0, 1) := by decide +kernel
theorem dJ6_bitCount_41 : decode cJ6_bitCount 41 = .ok (.iload_n 0, 1) := by decide +kernel
theorem dJ6_bitCount_42 : decode cJ6_bitCount 42 = .ok (.iload_n 0, 1) := by decide +kernel
theorem dJ6_bitCount_43 : decode cJ6_bitCount 43 = .ok (.bipush 16, 2) := by decide +kernel
theorem dJ6_bitCount_45 : decode cJ6_bitCount 45 = .ok (.iushr, 1) := by decide +kernel
theorem dJ6_bitCount_46 : decode cJ6_bitCount 46 = .ok (.iadd, 1) := by decide +kernel
theorem dJ6_bitCount_47 : decode cJ6_bitCount 47 = .ok (.istore_n 0, 1) := by decide +kernel
theorem dJ6_bitCount_48 : decode cJ6_bitCount 48 = .ok (.iload_n 0, 1) := by decide +kernel
theorem dJ6_bitCount_49 : decode cJ6_bitCount 49 = .ok (.bipush 63, 2) := by decide +kernel
theorem dJ6_bitCount_51 : decode cJ6_bitCount 51 = .ok (.iand, 1) := by decide +kernel
theorem dJ6_bitCount_52 : decode cJ6_bitCount 52 = .ok (.ireturn, 1) := by decide +kernel
theorem dJ7_fill_0 : decode cJ7_fill 0 = .ok (.iconst 0, 1) := by decide +kernel
theorem dJ7_fill_1 : decode cJ7_fill 1 = .ok (.istore_n 2, 1) := by decide +kernel
theorem dJ7_fill_2 : decode cJ7_fill 2 = .ok (.aload_n 0, 1) := by decide +kernel
theorem dJ7_fill_3 : decode cJ7_fill 3 = .ok (.arraylength, 1) := by decide +kernel
theorem dJ7_fill_4 : decode cJ7_fill 4 = .ok (.istore_n 3, 1) := by decide +kernel
theorem dJ7_fill_5 : decode cJ7_fill 5 = .ok (.iload_n 2, 1) := by decide +kernel
theorem dJ7_fill_6 : decode cJ7_fill 6 = .ok (.iload_n 3, 1) := by decide +kernel
theorem dJ7_fill_7 : decode cJ7_fill 7 = .ok (.if_icmp .ge 13, 3) := by decide +kernel
theorem dJ7_fill_10 : decode cJ7_fill 10 = .ok (.aload_n 0, 1) := by decide +kernel
theorem dJ7_fill_11 : decode cJ7_fill 11 = .ok (.iload_n 2, 1) := by decide +kernel
theorem dJ7_fill_12 : decode cJ7_fill 12 = .ok (.iload_n 1, 1) := by decide +kernel
theorem dJ7_fill_13 : decode cJ7_fill 13 = .ok (.iastore, 1) := by decide +kernel
theorem dJ7_fill_14 : decode cJ7_fill 14 = .ok (.iinc 2 1, 3) := by decide +kernel
theorem dJ7_fill_17 : decode cJ7_fill 17 = .ok (.goto (-12), 3) := by decide +kernel
theorem dJ7_fill_20 : decode cJ7_fill 20 = .ok (.return_, 1) := by decide +kernel
end
section
theorem dX3_init_0 : decode cX3_init 0 = .ok (.aload_n 0, 1) := by decide +kernel
theorem dX3_init_1 : decode cX3_init 1 = .ok (.invokespecial 1, 3) := by decide +kernel
theorem dX3_init_4 : decode cX3_init 4 = .ok (.aload_n 0, 1) := by decide +kernel
theorem dX3_init_5 : decode cX3_init 5 = .ok (.new 7, 3) := by decide +kernel
theorem dX3_init_8 : decode cX3_init 8 = .ok (.dup, 1) := by decide +kernel
theorem dX3_init_9 : decode cX3_init 9 = .ok (.invokespecial 9, 3) := by decide +kernel
theorem dX3_init_12 : decode cX3_init 12 = .ok (.putfield 10, 3) := by decide +kernel
theorem dX3_init_15 : decode cX3_init 15 = .ok (.aload_n 0, 1) := by decide +kernel
theorem dX3_init_16 : decode cX3_init 16 = .ok (.new 16, 3) := by decide +kernel
theorem dX3_init_19 : decode cX3_init 19 = .ok (.dup, 1) := by decide +kernel
theorem dX3_init_20 : decode cX3_init 20 = .ok (.invokespecial 18, 3) := by decide +kernel
theorem dX3_init_23 : decode cX3_init 23 = .ok (.putfield 19, 3) := by decide +kernel
theorem dX3_init_26 : decode cX3_init 26 = .ok (.aload_n 0, 1) := by decide +kernel
theorem dX3_init_27 : decode cX3_init 27 = .ok (.new 23, 3) := by decide +kernel
theorem dX3_init_30 : decode cX3_init 30 = .ok (.dup, 1) := by decide +kernel
theorem dX3_init_31 : decode cX3_init 31 = .ok (.invokespecial 25, 3) := by decide +kernel
theorem dX3_init_34 : decode cX3_init 34 = .ok (.putfield 26, 3) := by decide +kernel
theorem dX3_init_37 : decode cX3_init 37 = .ok (.return_, 1) := by decide +kernel
theorem dX3_begin_0 : decode cX3_begin 0 = .ok (.iload_n 1, 1) := by decide +kernel
theorem dX3_begin_1 : decode cX3_begin 1 = .ok (.iconst 1, 1) := by decide +kernel
theorem dX3_begin_2 : decode cX3_begin 2 = .ok (.if_icmp .lt 9, 3) := by decide +kernel
theorem dX3_begin_5 : decode cX3_begin 5 = .ok (.iload_n 1, 1) := by decide +kernel
theorem dX3_begin_6 : decode cX3_begin 6 = .ok (.bipush 7, 2) := by decide +kernel
theorem dX3_begin_8 : decode cX3_begin 8 = .ok (.if_icmp .le 5, 3) := by decide +kernel
theorem dX3_begin_11 : decode cX3_begin 11 = .ok (.iconst 0, 1) := by decide +kernel
theorem dX3_begin_12 : decode cX3_begin 12 = .ok (.ireturn, 1) := by decide +kernel
theorem dX3_begin_13 : decode cX3_begin 13 = .ok (.aload_n 0, 1) := by decide +kernel
theorem dX3_begin_14 : decode cX3_begin 14 = .ok (.getfield 10, 3) := by decide +kernel
theorem dX3_begin_17 : decode cX3_begin 17 = .ok (.iload_n 1, 1) := by decide +kernel
theorem dX3_begin_18 : decode cX3_begin 18 = .ok (.invokevirtual 30, 3) := by decide +kernel
theorem dX3_begin_21 : decode cX3_begin 21 = .ok (.aload_n 0, 1) := by decide +kernel
theorem dX3_begin_22 : decode cX3_begin 22 = .ok (.getfield 19, 3) := by decide +kernel
theorem dX3_begin_25 : decode cX3_begin 25 = .ok (.iconst 0, 1) := by decide +kernel
theorem dX3_begin_26 : decode cX3_begin 26 = .ok (.putfield 34, 3) := by decide +kernel
theorem dX3_begin_29 : decode cX3_begin 29 = .ok (.aload_n 0, 1) := by decide +kernel
theorem dX3_begin_30 : decode cX3_begin 30 = .ok (.getfield 26, 3) := by decide +kernel
theorem dX3_begin_33 : decode cX3_begin 33 = .ok (.iconst 1, 1) := by decide +kernel
theorem dX3_begin_34 : decode cX3_begin 34 = .ok (.putfield 38, 3) := by decide +kernel
theorem dX3_begin_37 : decode cX3_begin 37 = .ok (.iconst 1, 1) := by decide +kernel
theorem dX3_begin_38 : decode cX3_begin 38 = .ok (.ireturn, 1) := by decide +kernel
theorem dX3_arc_0 : decode cX3_arc 0 = .ok (.aload_n 0, 1) := by decide +kernel
theorem dX3_arc_1 : decode cX3_arc 1 = .ok (.getfield 10, 3) := by decide +kernel
theorem dX3_arc_4 : decode cX3_arc 4 = .ok (.getfield 42, 3) := by decide +kernel
theorem dX3_arc_7 : decode cX3_arc 7 = .ok (.bipush 14, 2) := by decide +kernel
theorem dX3_arc_9 : decode cX3_arc 9 = .ok (.if_icmp .ge 30, 3) := by decide +kernel
theorem dX3_arc_12 : decode cX3_arc 12 = .ok (.aload_n 0, 1) := by decide +kernel
theorem dX3_arc_13 : decode cX3_arc 13 = .ok (.getfield 10, 3) := by decide +kernel
theorem dX3_arc_16 : decode cX3_arc 16 = .ok (.iload_n 1, 1) := by decide +kernel
theorem dX3_arc_17 : decode cX3_arc 17 = .ok (.invokevirtual 45, 3) := by decide +kernel
theorem dX3_arc_20 : decode cX3_arc 20 = .ok (.ifCond .eq 19, 3) := by decide +kernel
theorem dX3_arc_23 : decode cX3_arc 23 = .ok (.aload_n 0, 1) := by decide +kernel
theorem dX3_arc_24 : decode cX3_arc 24 = .ok (.getfield 10, 3) := by decide +kernel
theorem dX3_arc_27 : decode cX3_arc 27 = .ok (.iload_n 2, 1) := by decide +kernel
theorem dX3_arc_28 : decode cX3_arc 28 = .ok (.invokevirtual 45, 3) := by decide +kernel
theorem dX3_arc_31 : decode cX3_arc 31 = .ok (.ifCond .eq 8, 3) := by decide +kernel
theorem dX3_arc_34 : decode cX3_arc 34 = .ok (.iload_n 1, 1) := by decide +kernel
theorem dX3_arc_35 : decode cX3_arc 35 = .ok (.iload_n 2, 1) := by decide +kernel
theorem dX3_arc_36 : decode cX3_arc 36 = .ok (.if_icmp .ne 5, 3) := by decide +kernel
theorem dX3_arc_39 : decode cX3_arc 39 = .ok (.iconst (-1), 1) := by decide +kernel
theorem dX3_arc_40 : decode cX3_arc 40 = .ok (.ireturn, 1) := by decide +kernel
theorem dX3_arc_41 : decode cX3_arc 41 = .ok (.aload_n 0, 1) := by decide +kernel
theorem dX3_arc_42 : decode cX3_arc 42 = .ok (.getfield 10, 3) := by decide +kernel
theorem dX3_arc_45 : decode cX3_arc 45 = .ok (.iload_n 1, 1) := by decide +kernel
theorem dX3_arc_46 : decode cX3_arc 46 = .ok (.iload_n 2, 1) := by decide +kernel
theorem dX3_arc_47 : decode cX3_arc 47 = .ok (.invokevirtual 49, 3) := by decide +kernel
theorem dX3_arc_50 : decode cX3_arc 50 = .ok (.aload_n 0, 1) := by decide +kernel
theorem dX3_arc_51 : decode cX3_arc 51 = .ok (.getfield 26, 3) := by decide +kernel
theorem dX3_arc_54 : decode cX3_arc 54 = .ok (.iconst 1, 1) := by decide +kernel
theorem dX3_arc_55 : decode cX3_arc 55 = .ok (.putfield 38, 3) := by decide +kernel
theorem dX3_arc_58 : decode cX3_arc 58 = .ok (.aload_n 0, 1) := by decide +kernel
theorem dX3_arc_59 : decode cX3_arc 59 = .ok (.getfield 10, 3) := by decide +kernel
theorem dX3_arc_62 : decode cX3_arc 62 = .ok (.getfield 42, 3) := by decide +kernel
theorem dX3_arc_65 : decode cX3_arc 65 = .ok (.iconst 1, 1) := by decide +kernel
theorem dX3_arc_66 : decode cX3_arc 66 = .ok (.isub, 1) := by decide +kernel
theorem dX3_arc_67 : decode cX3_arc 67 = .ok (.ireturn, 1) := by decide +kernel
theorem dX3_drop_0 : decode cX3_drop 0 = .ok (.aload_n 0, 1) := by decide +kernel
theorem dX3_drop_1 : decode cX3_drop 1 = .ok (.getfield 10, 3) := by decide +kernel
theorem dX3_drop_4 : decode cX3_drop 4 = .ok (.iload_n 1, 1) := by decide +kernel
theorem dX3_drop_5 : decode cX3_drop 5 = .ok (.invokevirtual 53, 3) := by decide +kernel
theorem dX3_drop_8 : decode cX3_drop 8 = .ok (.ifCond .ne 5, 3) := by decide +kernel
theorem dX3_drop_11 : decode cX3_drop 11 = .ok (.iconst 0, 1) := by decide +kernel
theorem dX3_drop_12 : decode cX3_drop 12 = .ok (.ireturn, 1) := by decide +kernel
theorem dX3_drop_13 : decode cX3_drop 13 = .ok (.aload_n 0, 1) := by decide +kernel
theorem dX3_drop_14 : decode cX3_drop 14 = .ok (.getfield 10, 3) := by decide +kernel
theorem dX3_drop_17 : decode cX3_drop 17 = .ok (.iload_n 1, 1) := by decide +kernel
theorem dX3_drop_18 : decode cX3_drop 18 = .ok (.invokevirtual 56, 3) := by decide +kernel
theorem dX3_drop_21 : decode cX3_drop 21 = .ok (.aload_n 0, 1) := by decide +kernel
theorem dX3_drop_22 : decode cX3_drop 22 = .ok (.getfield 26, 3) := by decide +kernel
theorem dX3_drop_25 : decode cX3_drop 25 = .ok (.iconst 1, 1) := by decide +kernel
theorem dX3_drop_26 : decode cX3_drop 26 = .ok (.putfield 38, 3) := by decide +kernel
theorem dX3_drop_29 : decode cX3_drop 29 = .ok (.iconst 1, 1) := by decide +kernel
theorem dX3_drop_30 : decode cX3_drop 30 = .ok (.ireturn, 1) := by decide +kernel
theorem dX3_plant_0 : decode cX3_plant 0 = .ok (.aload_n 0, 1) := by decide +kernel
theorem dX3_plant_1 : decode cX3_plant 1 = .ok (.getfield 19, 3) := by decide +kernel
theorem dX3_plant_4 : decode cX3_plant 4 = .ok (.getfield 34, 3) := by decide +kernel
theorem dX3_plant_7 : decode cX3_plant 7 = .ok (.iconst 3, 1) := by decide +kernel
theorem dX3_plant_8 : decode cX3_plant 8 = .ok (.if_icmp .ge 18, 3) := by decide +kernel
theorem dX3_plant_11 : decode cX3_plant 11 = .ok (.iload_n 1, 1) := by decide +kernel
theorem dX3_plant_12 : decode cX3_plant 12 = .ok (.ifCond .eq 14, 3) := by decide +kernel
theorem dX3_plant_15 : decode cX3_plant 15 = .ok (.aload_n 0, 1) := by decide +kernel
theorem dX3_plant_16 : decode cX3_plant 16 = .ok (.getfield 10, 3) := by decide +kernel
theorem dX3_plant_19 : decode cX3_plant 19 = .ok (.iload_n 1, 1) := by decide +kernel
theorem dX3_plant_20 : decode cX3_plant 20 = .ok (.invokevirtual 59, 3) := by decide +kernel
theorem dX3_plant_23 : decode cX3_plant 23 = .ok (.ifCond .ne 5, 3) := by decide +kernel
theorem dX3_plant_26 : decode cX3_plant 26 = .ok (.iconst (-1), 1) := by decide +kernel
theorem dX3_plant_27 : decode cX3_plant 27 = .ok (.ireturn, 1) := by decide +kernel
theorem dX3_plant_28 : decode cX3_plant 28 = .ok (.aload_n 0, 1) := by decide +kernel
theorem dX3_plant_29 : decode cX3_plant 29 = .ok (.getfield 19, 3) := by decide +kernel
theorem dX3_plant_32 : decode cX3_plant 32 = .ok (.iload_n 1, 1) := by decide +kernel
theorem dX3_plant_33 : decode cX3_plant 33 = .ok (.invokevirtual 62, 3) := by decide +kernel
theorem dX3_plant_36 : decode cX3_plant 36 = .ok (.aload_n 0, 1) := by decide +kernel
theorem dX3_plant_37 : decode cX3_plant 37 = .ok (.getfield 26, 3) := by decide +kernel
theorem dX3_plant_40 : decode cX3_plant 40 = .ok (.iconst 1, 1) := by decide +kernel
theorem dX3_plant_41 : decode cX3_plant 41 = .ok (.putfield 38, 3) := by decide +kernel
theorem dX3_plant_44 : decode cX3_plant 44 = .ok (.aload_n 0, 1) := by decide +kernel
theorem dX3_plant_45 : decode cX3_plant 45 = .ok (.getfield 19, 3) := by decide +kernel
theorem dX3_plant_48 : decode cX3_plant 48 = .ok (.getfield 34, 3) := by decide +kernel
theorem dX3_plant_51 : decode cX3_plant 51 = .ok (.iconst 1, 1) := by decide +kernel
theorem dX3_plant_52 : decode cX3_plant 52 = .ok (.isub, 1) := by decide +kernel
theorem dX3_plant_53 : decode cX3_plant 53 = .ok (.ireturn, 1) := by decide +kernel
theorem dX3_fell_0 : decode cX3_fell 0 = .ok (.aload_n 0, 1) := by decide +kernel
theorem dX3_fell_1 : decode cX3_fell 1 = .ok (.getfield 19, 3) := by decide +kernel
theorem dX3_fell_4 : decode cX3_fell 4 = .ok (.getfield 34, 3) := by decide +kernel
theorem dX3_fell_7 : decode cX3_fell 7 = .ok (.ifCond .ne 5, 3) := by decide +kernel
theorem dX3_fell_10 : decode cX3_fell 10 = .ok (.iconst (-1), 1) := by decide +kernel
theorem dX3_fell_11 : decode cX3_fell 11 = .ok (.ireturn, 1) := by decide +kernel
theorem dX3_fell_12 : decode cX3_fell 12 = .ok (.aload_n 0, 1) := by decide +kernel
theorem dX3_fell_13 : decode cX3_fell 13 = .ok (.getfield 19, 3) := by decide +kernel
theorem dX3_fell_16 : decode cX3_fell 16 = .ok (.dup, 1) := by decide +kernel
theorem dX3_fell_17 : decode cX3_fell 17 = .ok (.getfield 34, 3) := by decide +kernel
theorem dX3_fell_20 : decode cX3_fell 20 = .ok (.iconst 1, 1) := by decide +kernel
theorem dX3_fell_21 : decode cX3_fell 21 = .ok (.isub, 1) := by decide +kernel
theorem dX3_fell_22 : decode cX3_fell 22 = .ok (.putfield 34, 3) := by decide +kernel
theorem dX3_fell_25 : decode cX3_fell 25 = .ok (.aload_n 0, 1) := by decide +kernel
theorem dX3_fell_26 : decode cX3_fell 26 = .ok (.getfield 26, 3) := by decide +kernel
theorem dX3_fell_29 : decode cX3_fell 29 = .ok (.iconst 1, 1) := by decide +kernel
theorem dX3_fell_30 : decode cX3_fell 30 = .ok (.putfield 38, 3) := by decide +kernel
theorem dX3_fell_33 : decode cX3_fell 33 = .ok (.aload_n 0, 1) := by decide +kernel
theorem dX3_fell_34 : decode cX3_fell 34 = .ok (.getfield 19, 3) := by decide +kernel
theorem dX3_fell_37 : decode cX3_fell 37 = .ok (.getfield 34, 3) := by decide +kernel
theorem dX3_fell_40 : decode cX3_fell 40 = .ok (.ireturn, 1) := by decide +kernel
theorem dX3_count_0 : decode cX3_count 0 = .ok (.iload_n 1, 1) := by decide +kernel
theorem dX3_count_1 : decode cX3_count 1 = .ok (.tableswitch 51 0 2 #[27, 35, 43], 27) := by decide +kernel
theorem dX3_count_28 : decode cX3_count 28 = .ok (.aload_n 0, 1) := by decide +kernel
theorem dX3_count_29 : decode cX3_count 29 = .ok (.getfield 10, 3) := by decide +kernel
theorem dX3_count_32 : decode cX3_count 32 = .ok (.getfield 65, 3) := by decide +kernel
theorem dX3_count_35 : decode cX3_count 35 = .ok (.ireturn, 1) := by decide +kernel
theorem dX3_count_36 : decode cX3_count 36 = .ok (.aload_n 0, 1) := by decide +kernel
theorem dX3_count_37 : decode cX3_count 37 = .ok (.getfield 10, 3) := by decide +kernel
theorem dX3_count_40 : decode cX3_count 40 = .ok (.getfield 42, 3) := by decide +kernel
theorem dX3_count_43 : decode cX3_count 43 = .ok (.ireturn, 1) := by decide +kernel
theorem dX3_count_44 : decode cX3_count 44 = .ok (.aload_n 0, 1) := by decide +kernel
theorem dX3_count_45 : decode cX3_count 45 = .ok (.getfield 19, 3) := by decide +kernel
theorem dX3_count_48 : decode cX3_count 48 = .ok (.getfield 34, 3) := by decide +kernel
theorem dX3_count_51 : decode cX3_count 51 = .ok (.ireturn, 1) := by decide +kernel
theorem dX3_count_52 : decode cX3_count 52 = .ok (.iconst (-1), 1) := by decide +kernel
theorem dX3_count_53 : decode cX3_count 53 = .ok (.ireturn, 1) := by decide +kernel
theorem dX3_end_0 : decode cX3_end 0 = .ok (.aload_n 0, 1) := by decide +kernel
theorem dX3_end_1 : decode cX3_end 1 = .ok (.getfield 10, 3) := by decide +kernel
theorem dX3_end_4 : decode cX3_end 4 = .ok (.iload_n 1, 1) := by decide +kernel
theorem dX3_end_5 : decode cX3_end 5 = .ok (.invokevirtual 53, 3) := by decide +kernel
theorem dX3_end_8 : decode cX3_end 8 = .ok (.ifCond .eq 12, 3) := by decide +kernel
theorem dX3_end_11 : decode cX3_end 11 = .ok (.iload_n 2, 1) := by decide +kernel
theorem dX3_end_12 : decode cX3_end 12 = .ok (.ifCond .lt 8, 3) := by decide +kernel
theorem dX3_end_15 : decode cX3_end 15 = .ok (.iload_n 2, 1) := by decide +kernel
theorem dX3_end_16 : decode cX3_end 16 = .ok (.iconst 1, 1) := by decide +kernel
theorem dX3_end_17 : decode cX3_end 17 = .ok (.if_icmp .le 5, 3) := by decide +kernel
theorem dX3_end_20 : decode cX3_end 20 = .ok (.iconst (-1), 1) := by decide +kernel
theorem dX3_end_21 : decode cX3_end 21 = .ok (.ireturn, 1) := by decide +kernel
theorem dX3_end_22 : decode cX3_end 22 = .ok (.iload_n 2, 1) := by decide +kernel
theorem dX3_end_23 : decode cX3_end 23 = .ok (.ifCond .ne 15, 3) := by decide +kernel
theorem dX3_end_26 : decode cX3_end 26 = .ok (.aload_n 0, 1) := by decide +kernel
theorem dX3_end_27 : decode cX3_end 27 = .ok (.getfield 10, 3) := by decide +kernel
theorem dX3_end_30 : decode cX3_end 30 = .ok (.getfield 68, 3) := by decide +kernel
theorem dX3_end_33 : decode cX3_end 33 = .ok (.iload_n 1, 1) := by decide +kernel
theorem dX3_end_34 : decode cX3_end 34 = .ok (.iaload, 1) := by decide +kernel
theorem dX3_end_35 : decode cX3_end 35 = .ok (.goto 12, 3) := by decide +kernel
theorem dX3_end_38 : decode cX3_end 38 = .ok (.aload_n 0, 1) := by decide +kernel
theorem dX3_end_39 : decode cX3_end 39 = .ok (.getfield 10, 3) := by decide +kernel
theorem dX3_end_42 : decode cX3_end 42 = .ok (.getfield 72, 3) := by decide +kernel
theorem dX3_end_45 : decode cX3_end 45 = .ok (.iload_n 1, 1) := by decide +kernel
theorem dX3_end_46 : decode cX3_end 46 = .ok (.iaload, 1) := by decide +kernel
theorem dX3_end_47 : decode cX3_end 47 = .ok (.ireturn, 1) := by decide +kernel
theorem dX3_entry_0 : decode cX3_entry 0 = .ok (.aload_n 0, 1) := by decide +kernel
theorem dX3_entry_1 : decode cX3_entry 1 = .ok (.getfield 10, 3) := by decide +kernel
theorem dX3_entry_4 : decode cX3_entry 4 = .ok (.iload_n 1, 1) := by decide +kernel
theorem dX3_entry_5 : decode cX3_entry 5 = .ok (.invokevirtual 59, 3) := by decide +kernel
theorem dX3_entry_8 : decode cX3_entry 8 = .ok (.ifCond .eq 14, 3) := by decide +kernel
theorem dX3_entry_11 : decode cX3_entry 11 = .ok (.aload_n 0, 1) := by decide +kernel
theorem dX3_entry_12 : decode cX3_entry 12 = .ok (.getfield 10, 3) := by decide +kernel
theorem dX3_entry_15 : decode cX3_entry 15 = .ok (.iload_n 1, 1) := by decide +kernel
theorem dX3_entry_16 : decode cX3_entry 16 = .ok (.invokevirtual 75, 3) := by decide +kernel
theorem dX3_entry_19 : decode cX3_entry 19 = .ok (.goto 4, 3) := by decide +kernel
theorem dX3_entry_22 : decode cX3_entry 22 = .ok (.iconst (-1), 1) := by decide +kernel
theorem dX3_entry_23 : decode cX3_entry 23 = .ok (.ireturn, 1) := by decide +kernel
theorem dX3_missed_0 : decode cX3_missed 0 = .ok (.aload_n 0, 1) := by decide +kernel
theorem dX3_missed_1 : decode cX3_missed 1 = .ok (.getfield 10, 3) := by decide +kernel
theorem dX3_missed_4 : decode cX3_missed 4 = .ok (.iload_n 1, 1) := by decide +kernel
theorem dX3_missed_5 : decode cX3_missed 5 = .ok (.invokevirtual 59, 3) := by decide +kernel
theorem dX3_missed_8 : decode cX3_missed 8 = .ok (.ifCond .eq 14, 3) := by decide +kernel
theorem dX3_missed_11 : decode cX3_missed 11 = .ok (.aload_n 0, 1) := by decide +kernel
theorem dX3_missed_12 : decode cX3_missed 12 = .ok (.getfield 19, 3) := by decide +kernel
theorem dX3_missed_15 : decode cX3_missed 15 = .ok (.iload_n 1, 1) := by decide +kernel
theorem dX3_missed_16 : decode cX3_missed 16 = .ok (.invokevirtual 79, 3) := by decide +kernel
theorem dX3_missed_19 : decode cX3_missed 19 = .ok (.goto 4, 3) := by decide +kernel
theorem dX3_missed_22 : decode cX3_missed 22 = .ok (.iconst (-1), 1) := by decide +kernel
theorem dX3_missed_23 : decode cX3_missed 23 = .ok (.ireturn, 1) := by decide +kernel
theorem dX3_packs_0 : decode cX3_packs 0 = .ok (.aload_n 0, 1) := by decide +kernel
theorem dX3_packs_1 : decode cX3_packs 1 = .ok (.iconst (-1), 1) := by decide +kernel
theorem dX3_packs_2 : decode cX3_packs 2 = .ok (.invokevirtual 82, 3) := by decide +kernel
theorem dX3_packs_5 : decode cX3_packs 5 = .ok (.ifCond .ne 7, 3) := by decide +kernel
theorem dX3_packs_8 : decode cX3_packs 8 = .ok (.iconst 1, 1) := by decide +kernel
theorem dX3_packs_9 : decode cX3_packs 9 = .ok (.goto 4, 3) := by decide +kernel
theorem dX3_packs_12 : decode cX3_packs 12 = .ok (.iconst 0, 1) := by decide +kernel
theorem dX3_packs_13 : decode cX3_packs 13 = .ok (.ireturn, 1) := by decide +kernel
theorem dX3_firstStopper_0 : decode cX3_firstStopper 0 = .ok (.iconst 0, 1) := by decide +kernel
theorem dX3_firstStopper_1 : decode cX3_firstStopper 1 = .ok (.istore_n 2, 1) := by decide +kernel
theorem dX3_firstStopper_2 : decode cX3_firstStopper 2 = .ok (.iconst 1, 1) := by decide +kernel
theorem dX3_firstStopper_3 : decode cX3_firstStopper 3 = .ok (.istore_n 3, 1) := by decide +kernel
theorem dX3_firstStopper_4 : decode cX3_firstStopper 4 = .ok (.iload_n 3, 1) := by decide +kernel
theorem dX3_firstStopper_5 : decode cX3_firstStopper 5 = .ok (.aload_n 0, 1) := by decide +kernel
theorem dX3_firstStopper_6 : decode cX3_firstStopper 6 = .ok (.getfield 10, 3) := by decide +kernel
theorem dX3_firstStopper_9 : decode cX3_firstStopper 9 = .ok (.invokevirtual 92, 3) := by decide +kernel
theorem dX3_firstStopper_12 : decode cX3_firstStopper 12 = .ok (.if_icmp .gt 32, 3) := by decide +kernel
theorem dX3_firstStopper_15 : decode cX3_firstStopper 15 = .ok (.iload_n 2, 1) := by decide +kernel
theorem dX3_firstStopper_16 : decode cX3_firstStopper 16 = .ok (.ifCond .eq 11, 3) := by decide +kernel
theorem dX3_firstStopper_19 : decode cX3_firstStopper 19 = .ok (.iload_n 3, 1) := by decide +kernel
theorem dX3_firstStopper_20 : decode cX3_firstStopper 20 = .ok (.iload_n 2, 1) := by decide +kernel
theorem dX3_firstStopper_21 : decode cX3_firstStopper 21 = .ok (.invokestatic 102, 3) := by decide +kernel
theorem dX3_firstStopper_24 : decode cX3_firstStopper 24 = .ok (.ifCond .eq 14, 3) := by decide +kernel
theorem dX3_firstStopper_27 : decode cX3_firstStopper 27 = .ok (.aload_n 0, 1) := by decide +kernel
theorem dX3_firstStopper_28 : decode cX3_firstStopper 28 = .ok (.iload_n 3, 1) := by decide +kernel
theorem dX3_firstStopper_29 : decode cX3_firstStopper 29 = .ok (.iload_n 1, 1) := by decide +kernel
theorem dX3_firstStopper_30 : decode cX3_firstStopper 30 = .ok (.invokevirtual 106, 3) := by decide +kernel
theorem dX3_firstStopper_33 : decode cX3_firstStopper 33 = .ok (.ifCond .eq 5, 3) := by decide +kernel
theorem dX3_firstStopper_36 : decode cX3_firstStopper 36 = .ok (.iload_n 3, 1) := by decide +kernel
theorem dX3_firstStopper_37 : decode cX3_firstStopper 37 = .ok (.istore_n 2, 1) := by decide +kernel
theorem dX3_firstStopper_38 : decode cX3_firstStopper 38 = .ok (.iinc 3 1, 3) := by decide +kernel
theorem dX3_firstStopper_41 : decode cX3_firstStopper 41 = .ok (.goto (-37), 3) := by decide +kernel
theorem dX3_firstStopper_44 : decode cX3_firstStopper 44 = .ok (.iload_n 2, 1) := by decide +kernel
theorem dX3_firstStopper_45 : decode cX3_firstStopper 45 = .ok (.ireturn, 1) := by decide +kernel
theorem dX3_comesBefore_0 : decode cX3_comesBefore 0 = .ok (.iload_n 0, 1) := by decide +kernel
theorem dX3_comesBefore_1 : decode cX3_comesBefore 1 = .ok (.invokestatic 112, 3) := by decide +kernel
theorem dX3_comesBefore_4 : decode cX3_comesBefore 4 = .ok (.istore_n 2, 1) := by decide +kernel
theorem dX3_comesBefore_5 : decode cX3_comesBefore 5 = .ok (.iload_n 1, 1) := by decide +kernel
theorem dX3_comesBefore_6 : decode cX3_comesBefore 6 = .ok (.invokestatic 112, 3) := by decide +kernel
theorem dX3_comesBefore_9 : decode cX3_comesBefore 9 = .ok (.istore_n 3, 1) := by decide +kernel
theorem dX3_comesBefore_10 : decode cX3_comesBefore 10 = .ok (.iload_n 2, 1) := by decide +kernel
theorem dX3_comesBefore_11 : decode cX3_comesBefore 11 = .ok (.iload_n 3, 1) := by decide +kernel
theorem dX3_comesBefore_12 : decode cX3_comesBefore 12 = .ok (.if_icmp .eq 14, 3) := by decide +kernel
theorem dX3_comesBefore_15 : decode cX3_comesBefore 15 = .ok (.iload_n 2, 1) := by decide +kernel
theorem dX3_comesBefore_16 : decode cX3_comesBefore 16 = .ok (.iload_n 3, 1) := by decide +kernel
theorem dX3_comesBefore_17 : decode cX3_comesBefore 17 = .ok (.if_icmp .ge 7, 3) := by decide +kernel
theorem dX3_comesBefore_20 : decode cX3_comesBefore 20 = .ok (.iconst 1, 1) := by decide +kernel
theorem dX3_comesBefore_21 : decode cX3_comesBefore 21 = .ok (.goto 4, 3) := by decide +kernel
theorem dX3_comesBefore_24 : decode cX3_comesBefore 24 = .ok (.iconst 0, 1) := by decide +kernel
theorem dX3_comesBefore_25 : decode cX3_comesBefore 25 = .ok (.ireturn, 1) := by decide +kernel
theorem dX3_comesBefore_26 : decode cX3_comesBefore 26 = .ok (.iload_n 0, 1) := by decide +kernel
theorem dX3_comesBefore_27 : decode cX3_comesBefore 27 = .ok (.iload_n 1, 1) := by decide +kernel
theorem dX3_comesBefore_28 : decode cX3_comesBefore 28 = .ok (.ixor, 1) := by decide +kernel
theorem dX3_comesBefore_29 : decode cX3_comesBefore 29 = .ok (.istore 4, 2) := by decide +kernel
theorem dX3_comesBefore_31 : decode cX3_comesBefore 31 = .ok (.iload 4, 2) := by decide +kernel
theorem dX3_comesBefore_33 : decode cX3_comesBefore 33 = .ok (.iload 4, 2) := by decide +kernel
theorem dX3_comesBefore_35 : decode cX3_comesBefore 35 = .ok (.ineg, 1) := by decide +kernel
theorem dX3_comesBefore_36 : decode cX3_comesBefore 36 = .ok (.iand, 1) := by decide +kernel
theorem dX3_comesBefore_37 : decode cX3_comesBefore 37 = .ok (.istore 5, 2) := by decide +kernel
theorem dX3_comesBefore_39 : decode cX3_comesBefore 39 = .ok (.iload_n 0, 1) := by decide +kernel
theorem dX3_comesBefore_40 : decode cX3_comesBefore 40 = .ok (.iload 5, 2) := by decide +kernel
theorem dX3_comesBefore_42 : decode cX3_comesBefore 42 = .ok (.iand, 1) := by decide +kernel
theorem dX3_comesBefore_43 : decode cX3_comesBefore 43 = .ok (.ifCond .eq 7, 3) := by decide +kernel
theorem dX3_comesBefore_46 : decode cX3_comesBefore 46 = .ok (.iconst 1, 1) := by decide +kernel
theorem dX3_comesBefore_47 : decode cX3_comesBefore 47 = .ok (.goto 4, 3) := by decide +kernel
theorem dX3_comesBefore_50 : decode cX3_comesBefore 50 = .ok (.iconst 0, 1) := by decide +kernel
theorem dX3_comesBefore_51 : decode cX3_comesBefore 51 = .ok (.ireturn, 1) := by decide +kernel
theorem dX3_stops_0 : decode cX3_stops 0 = .ok (.aload_n 0, 1) := by decide +kernel
theorem dX3_stops_1 : decode cX3_stops 1 = .ok (.getfield 10, 3) := by decide +kernel
theorem dX3_stops_4 : decode cX3_stops 4 = .ok (.iload_n 1, 1) := by decide +kernel
theorem dX3_stops_5 : decode cX3_stops 5 = .ok (.invokevirtual 75, 3) := by decide +kernel
theorem dX3_stops_8 : decode cX3_stops 8 = .ok (.istore_n 3, 1) := by decide +kernel
theorem dX3_stops_9 : decode cX3_stops 9 = .ok (.iload_n 2, 1) := by decide +kernel
theorem dX3_stops_10 : decode cX3_stops 10 = .ok (.iconst (-1), 1) := by decide +kernel
theorem dX3_stops_11 : decode cX3_stops 11 = .ok (.if_icmp .eq 18, 3) := by decide +kernel
theorem dX3_stops_14 : decode cX3_stops 14 = .ok (.aload_n 0, 1) := by decide +kernel
theorem dX3_stops_15 : decode cX3_stops 15 = .ok (.getfield 10, 3) := by decide +kernel
theorem dX3_stops_18 : decode cX3_stops 18 = .ok (.iload_n 2, 1) := by decide +kernel
theorem dX3_stops_19 : decode cX3_stops 19 = .ok (.iload_n 1, 1) := by decide +kernel
theorem dX3_stops_20 : decode cX3_stops 20 = .ok (.invokevirtual 109, 3) := by decide +kernel
theorem dX3_stops_23 : decode cX3_stops 23 = .ok (.ifCond .eq 6, 3) := by decide +kernel
theorem dX3_stops_26 : decode cX3_stops 26 = .ok (.iinc 3 (-1), 3) := by decide +kernel
theorem dX3_stops_29 : decode cX3_stops 29 = .ok (.iload_n 3, 1) := by decide +kernel
theorem dX3_stops_30 : decode cX3_stops 30 = .ok (.aload_n 0, 1) := by decide +kernel
theorem dX3_stops_31 : decode cX3_stops 31 = .ok (.getfield 19, 3) := by decide +kernel
theorem dX3_stops_34 : decode cX3_stops 34 = .ok (.iload_n 1, 1) := by decide +kernel
theorem dX3_stops_35 : decode cX3_stops 35 = .ok (.invokevirtual 79, 3) := by decide +kernel
theorem dX3_stops_38 : decode cX3_stops 38 = .ok (.if_icmp .ge 7, 3) := by decide +kernel
theorem dX3_stops_41 : decode cX3_stops 41 = .ok (.iconst 1, 1) := by decide +kernel
theorem dX3_stops_42 : decode cX3_stops 42 = .ok (.goto 4, 3) := by decide +kernel
theorem dX3_stops_45 : decode cX3_stops 45 = .ok (.iconst 0, 1) := by decide +kernel
theorem dX3_stops_46 : decode cX3_stops 46 = .ok (.ireturn, 1) := by decide +kernel
theorem dX3_stopper_0 : decode cX3_stopper 0 = .ok (.aload_n 0, 1) := by decide +kernel
theorem dX3_stopper_1 : decode cX3_stopper 1 = .ok (.iconst (-1), 1) := by decide +kernel
theorem dX3_stopper_2 : decode cX3_stopper 2 = .ok (.invokevirtual 82, 3) := by decide +kernel
theorem dX3_stopper_5 : decode cX3_stopper 5 = .ok (.ireturn, 1) := by decide +kernel
theorem dX3_owner_0 : decode cX3_owner 0 = .ok (.aload_n 0, 1) := by decide +kernel
theorem dX3_owner_1 : decode cX3_owner 1 = .ok (.getfield 10, 3) := by decide +kernel
theorem dX3_owner_4 : decode cX3_owner 4 = .ok (.iload_n 1, 1) := by decide +kernel
theorem dX3_owner_5 : decode cX3_owner 5 = .ok (.invokevirtual 53, 3) := by decide +kernel
theorem dX3_owner_8 : decode cX3_owner 8 = .ok (.ifCond .ne 5, 3) := by decide +kernel
theorem dX3_owner_11 : decode cX3_owner 11 = .ok (.iconst (-1), 1) := by decide +kernel
theorem dX3_owner_12 : decode cX3_owner 12 = .ok (.ireturn, 1) := by decide +kernel
theorem dX3_owner_13 : decode cX3_owner 13 = .ok (.aload_n 0, 1) := by decide +kernel
theorem dX3_owner_14 : decode cX3_owner 14 = .ok (.getfield 26, 3) := by decide +kernel
theorem dX3_owner_17 : decode cX3_owner 17 = .ok (.aload_n 0, 1) := by decide +kernel
theorem dX3_owner_18 : decode cX3_owner 18 = .ok (.getfield 10, 3) := by decide +kernel
theorem dX3_owner_21 : decode cX3_owner 21 = .ok (.aload_n 0, 1) := by decide +kernel
theorem dX3_owner_22 : decode cX3_owner 22 = .ok (.getfield 19, 3) := by decide +kernel
theorem dX3_owner_25 : decode cX3_owner 25 = .ok (.invokevirtual 85, 3) := by decide +kernel
theorem dX3_owner_28 : decode cX3_owner 28 = .ok (.aload_n 0, 1) := by decide +kernel
theorem dX3_owner_29 : decode cX3_owner 29 = .ok (.getfield 26, 3) := by decide +kernel
theorem dX3_owner_32 : decode cX3_owner 32 = .ok (.getfield 89, 3) := by decide +kernel
theorem dX3_owner_35 : decode cX3_owner 35 = .ok (.iload_n 1, 1) := by decide +kernel
theorem dX3_owner_36 : decode cX3_owner 36 = .ok (.iaload, 1) := by decide +kernel
theorem dX3_owner_37 : decode cX3_owner 37 = .ok (.ireturn, 1) := by decide +kernel
theorem dX3_way_0 : decode cX3_way 0 = .ok (.iload_n 1, 1) := by decide +kernel
theorem dX3_way_1 : decode cX3_way 1 = .ok (.ifCond .lt 25, 3) := by decide +kernel
theorem dX3_way_4 : decode cX3_way 4 = .ok (.iload_n 1, 1) := by decide +kernel
theorem dX3_way_5 : decode cX3_way 5 = .ok (.aload_n 0, 1) := by decide +kernel
theorem dX3_way_6 : decode cX3_way 6 = .ok (.getfield 19, 3) := by decide +kernel
theorem dX3_way_9 : decode cX3_way 9 = .ok (.getfield 34, 3) := by decide +kernel
theorem dX3_way_12 : decode cX3_way 12 = .ok (.if_icmp .ge 14, 3) := by decide +kernel
theorem dX3_way_15 : decode cX3_way 15 = .ok (.aload_n 0, 1) := by decide +kernel
theorem dX3_way_16 : decode cX3_way 16 = .ok (.getfield 10, 3) := by decide +kernel
theorem dX3_way_19 : decode cX3_way 19 = .ok (.iload_n 2, 1) := by decide +kernel
theorem dX3_way_20 : decode cX3_way 20 = .ok (.invokevirtual 45, 3) := by decide +kernel
theorem dX3_way_23 : decode cX3_way 23 = .ok (.ifCond .ne 5, 3) := by decide +kernel
theorem dX3_way_26 : decode cX3_way 26 = .ok (.iconst (-1), 1) := by decide +kernel
theorem dX3_way_27 : decode cX3_way 27 = .ok (.ireturn, 1) := by decide +kernel
theorem dX3_way_28 : decode cX3_way 28 = .ok (.aload_n 0, 1) := by decide +kernel
theorem dX3_way_29 : decode cX3_way 29 = .ok (.getfield 26, 3) := by decide +kernel
theorem dX3_way_32 : decode cX3_way 32 = .ok (.aload_n 0, 1) := by decide +kernel
theorem dX3_way_33 : decode cX3_way 33 = .ok (.getfield 10, 3) := by decide +kernel
theorem dX3_way_36 : decode cX3_way 36 = .ok (.aload_n 0, 1) := by decide +kernel
theorem dX3_way_37 : decode cX3_way 37 = .ok (.getfield 19, 3) := by decide +kernel
theorem dX3_way_40 : decode cX3_way 40 = .ok (.invokevirtual 85, 3) := by decide +kernel
theorem dX3_way_43 : decode cX3_way 43 = .ok (.iconst 0, 1) := by decide +kernel
theorem dX3_way_44 : decode cX3_way 44 = .ok (.istore_n 3, 1) := by decide +kernel
theorem dX3_way_45 : decode cX3_way 45 = .ok (.iload_n 3, 1) := by decide +kernel
theorem dX3_way_46 : decode cX3_way 46 = .ok (.aload_n 0, 1) := by decide +kernel
theorem dX3_way_47 : decode cX3_way 47 = .ok (.getfield 10, 3) := by decide +kernel
theorem dX3_way_50 : decode cX3_way 50 = .ok (.getfield 42, 3) := by decide +kernel
theorem dX3_way_53 : decode cX3_way 53 = .ok (.if_icmp .ge 37, 3) := by decide +kernel
theorem dX3_way_56 : decode cX3_way 56 = .ok (.aload_n 0, 1) := by decide +kernel
theorem dX3_way_57 : decode cX3_way 57 = .ok (.getfield 26, 3) := by decide +kernel
theorem dX3_way_60 : decode cX3_way 60 = .ok (.getfield 89, 3) := by decide +kernel
theorem dX3_way_63 : decode cX3_way 63 = .ok (.iload_n 3, 1) := by decide +kernel
theorem dX3_way_64 : decode cX3_way 64 = .ok (.iaload, 1) := by decide +kernel
theorem dX3_way_65 : decode cX3_way 65 = .ok (.iload_n 1, 1) := by decide +kernel
theorem dX3_way_66 : decode cX3_way 66 = .ok (.if_icmp .ne 18, 3) := by decide +kernel
theorem dX3_way_69 : decode cX3_way 69 = .ok (.aload_n 0, 1) := by decide +kernel
theorem dX3_way_70 : decode cX3_way 70 = .ok (.getfield 10, 3) := by decide +kernel
theorem dX3_way_73 : decode cX3_way 73 = .ok (.getfield 72, 3) := by decide +kernel
theorem dX3_way_76 : decode cX3_way 76 = .ok (.iload_n 3, 1) := by decide +kernel
theorem dX3_way_77 : decode cX3_way 77 = .ok (.iaload, 1) := by decide +kernel
theorem dX3_way_78 : decode cX3_way 78 = .ok (.iload_n 2, 1) := by decide +kernel
theorem dX3_way_79 : decode cX3_way 79 = .ok (.if_icmp .ne 5, 3) := by decide +kernel
theorem dX3_way_82 : decode cX3_way 82 = .ok (.iload_n 3, 1) := by decide +kernel
theorem dX3_way_83 : decode cX3_way 83 = .ok (.ireturn, 1) := by decide +kernel
theorem dX3_way_84 : decode cX3_way 84 = .ok (.iinc 3 1, 3) := by decide +kernel
theorem dX3_way_87 : decode cX3_way 87 = .ok (.goto (-42), 3) := by decide +kernel
theorem dX3_way_90 : decode cX3_way 90 = .ok (.iconst (-1), 1) := by decide +kernel
theorem dX3_way_91 : decode cX3_way 91 = .ok (.ireturn, 1) := by decide +kernel
theorem dX3_spare_0 : decode cX3_spare 0 = .ok (.aload_n 0, 1) := by decide +kernel
theorem dX3_spare_1 : decode cX3_spare 1 = .ok (.getfield 10, 3) := by decide +kernel
theorem dX3_spare_4 : decode cX3_spare 4 = .ok (.iload_n 1, 1) := by decide +kernel
theorem dX3_spare_5 : decode cX3_spare 5 = .ok (.invokevirtual 53, 3) := by decide +kernel
theorem dX3_spare_8 : decode cX3_spare 8 = .ok (.ifCond .eq 15, 3) := by decide +kernel
theorem dX3_spare_11 : decode cX3_spare 11 = .ok (.aload_n 0, 1) := by decide +kernel
theorem dX3_spare_12 : decode cX3_spare 12 = .ok (.iload_n 1, 1) := by decide +kernel
theorem dX3_spare_13 : decode cX3_spare 13 = .ok (.invokevirtual 82, 3) := by decide +kernel
theorem dX3_spare_16 : decode cX3_spare 16 = .ok (.ifCond .ne 7, 3) := by decide +kernel
theorem dX3_spare_19 : decode cX3_spare 19 = .ok (.iconst 1, 1) := by decide +kernel
theorem dX3_spare_20 : decode cX3_spare 20 = .ok (.goto 4, 3) := by decide +kernel
theorem dX3_spare_23 : decode cX3_spare 23 = .ok (.iconst 0, 1) := by decide +kernel
theorem dX3_spare_24 : decode cX3_spare 24 = .ok (.ireturn, 1) := by decide +kernel
theorem dX3_most_0 : decode cX3_most 0 = .ok (.iload_n 1, 1) := by decide +kernel
theorem dX3_most_1 : decode cX3_most 1 = .ok (.ifCond .eq 14, 3) := by decide +kernel
theorem dX3_most_4 : decode cX3_most 4 = .ok (.aload_n 0, 1) := by decide +kernel
theorem dX3_most_5 : decode cX3_most 5 = .ok (.getfield 10, 3) := by decide +kernel
theorem dX3_most_8 : decode cX3_most 8 = .ok (.iload_n 1, 1) := by decide +kernel
theorem dX3_most_9 : decode cX3_most 9 = .ok (.invokevirtual 59, 3) := by decide +kernel
theorem dX3_most_12 : decode cX3_most 12 = .ok (.ifCond .ne 5, 3) := by decide +kernel
theorem dX3_most_15 : decode cX3_most 15 = .ok (.iconst (-1), 1) := by decide +kernel
theorem dX3_most_16 : decode cX3_most 16 = .ok (.ireturn, 1) := by decide +kernel
theorem dX3_most_17 : decode cX3_most 17 = .ok (.bipush 99, 2) := by decide +kernel
theorem dX3_most_19 : decode cX3_most 19 = .ok (.istore_n 2, 1) := by decide +kernel
theorem dX3_most_20 : decode cX3_most 20 = .ok (.iconst 1, 1) := by decide +kernel
theorem dX3_most_21 : decode cX3_most 21 = .ok (.istore_n 3, 1) := by decide +kernel
theorem dX3_most_22 : decode cX3_most 22 = .ok (.iload_n 3, 1) := by decide +kernel
theorem dX3_most_23 : decode cX3_most 23 = .ok (.aload_n 0, 1) := by decide +kernel
theorem dX3_most_24 : decode cX3_most 24 = .ok (.getfield 10, 3) := by decide +kernel
theorem dX3_most_27 : decode cX3_most 27 = .ok (.invokevirtual 92, 3) := by decide +kernel
theorem dX3_most_30 : decode cX3_most 30 = .ok (.if_icmp .gt 28, 3) := by decide +kernel
theorem dX3_most_33 : decode cX3_most 33 = .ok (.iload_n 3, 1) := by decide +kernel
theorem dX3_most_34 : decode cX3_most 34 = .ok (.iload_n 1, 1) := by decide +kernel
theorem dX3_most_35 : decode cX3_most 35 = .ok (.iand, 1) := by decide +kernel
theorem dX3_most_36 : decode cX3_most 36 = .ok (.ifCond .ne 16, 3) := by decide +kernel
theorem dX3_most_39 : decode cX3_most 39 = .ok (.iload_n 2, 1) := by decide +kernel
theorem dX3_most_40 : decode cX3_most 40 = .ok (.aload_n 0, 1) := by decide +kernel
theorem dX3_most_41 : decode cX3_most 41 = .ok (.getfield 10, 3) := by decide +kernel
theorem dX3_most_44 : decode cX3_most 44 = .ok (.iload_n 3, 1) := by decide +kernel
theorem dX3_most_45 : decode cX3_most 45 = .ok (.invokevirtual 75, 3) := by decide +kernel
theorem dX3_most_48 : decode cX3_most 48 = .ok (.invokestatic 96, 3) := by decide +kernel
theorem dX3_most_51 : decode cX3_most 51 = .ok (.istore_n 2, 1) := by decide +kernel
theorem dX3_most_52 : decode cX3_most 52 = .ok (.iinc 3 1, 3) := by decide +kernel
theorem dX3_most_55 : decode cX3_most 55 = .ok (.goto (-33), 3) := by decide +kernel
theorem dX3_most_58 : decode cX3_most 58 = .ok (.iload_n 2, 1) := by decide +kernel
theorem dX3_most_59 : decode cX3_most 59 = .ok (.ireturn, 1) := by decide +kernel
end
section
theorem dX4_init_0 : decode cX4_init 0 = .ok (.aload_n 0, 1) := by decide +kernel
theorem dX4_init_1 : decode cX4_init 1 = .ok (.invokespecial 1, 3) := by decide +kernel
theorem dX4_init_4 : decode cX4_init 4 = .ok (.aload_n 0, 1) := by decide +kernel
theorem dX4_init_5 : decode cX4_init 5 = .ok (.iconst 1, 1) := by decide +kernel
theorem dX4_init_6 : decode cX4_init 6 = .ok (.putfield 7, 3) := by decide +kernel
theorem dX4_init_9 : decode cX4_init 9 = .ok (.aload_n 0, 1) := by decide +kernel
theorem dX4_init_10 : decode cX4_init 10 = .ok (.bipush 14, 2) := by decide +kernel
theorem dX4_init_12 : decode cX4_init 12 = .ok (.newarray .int, 2) := by decide +kernel
theorem dX4_init_14 : decode cX4_init 14 = .ok (.putfield 13, 3) := by decide +kernel
theorem dX4_init_17 : decode cX4_init 17 = .ok (.aload_n 0, 1) := by decide +kernel
theorem dX4_init_18 : decode cX4_init 18 = .ok (.bipush 14, 2) := by decide +kernel
theorem dX4_init_20 : decode cX4_init 20 = .ok (.newarray .int, 2) := by decide +kernel
theorem dX4_init_22 : decode cX4_init 22 = .ok (.putfield 17, 3) := by decide +kernel
theorem dX4_init_25 : decode cX4_init 25 = .ok (.aload_n 0, 1) := by decide +kernel
theorem dX4_init_26 : decode cX4_init 26 = .ok (.iconst 3, 1) := by decide +kernel
theorem dX4_init_27 : decode cX4_init 27 = .ok (.newarray .int, 2) := by decide +kernel
theorem dX4_init_29 : decode cX4_init 29 = .ok (.putfield 20, 3) := by decide +kernel
theorem dX4_init_32 : decode cX4_init 32 = .ok (.aload_n 0, 1) := by decide +kernel
theorem dX4_init_33 : decode cX4_init 33 = .ok (.bipush 14, 2) := by decide +kernel
theorem dX4_init_35 : decode cX4_init 35 = .ok (.newarray .int, 2) := by decide +kernel
theorem dX4_init_37 : decode cX4_init 37 = .ok (.putfield 23, 3) := by decide +kernel
theorem dX4_init_40 : decode cX4_init 40 = .ok (.aload_n 0, 1) := by decide +kernel
theorem dX4_init_41 : decode cX4_init 41 = .ok (.bipush 21, 2) := by decide +kernel
theorem dX4_init_43 : decode cX4_init 43 = .ok (.newarray .int, 2) := by decide +kernel
theorem dX4_init_45 : decode cX4_init 45 = .ok (.putfield 26, 3) := by decide +kernel
theorem dX4_init_48 : decode cX4_init 48 = .ok (.aload_n 0, 1) := by decide +kernel
theorem dX4_init_49 : decode cX4_init 49 = .ok (.bipush 16, 2) := by decide +kernel
theorem dX4_init_51 : decode cX4_init 51 = .ok (.newarray .int, 2) := by decide +kernel
theorem dX4_init_53 : decode cX4_init 53 = .ok (.putfield 29, 3) := by decide +kernel
theorem dX4_init_56 : decode cX4_init 56 = .ok (.aload_n 0, 1) := by decide +kernel
theorem dX4_init_57 : decode cX4_init 57 = .ok (.bipush 16, 2) := by decide +kernel
theorem dX4_init_59 : decode cX4_init 59 = .ok (.newarray .int, 2) := by decide +kernel
theorem dX4_init_61 : decode cX4_init 61 = .ok (.putfield 32, 3) := by decide +kernel
theorem dX4_init_64 : decode cX4_init 64 = .ok (.aload_n 0, 1) := by decide +kernel
theorem dX4_init_65 : decode cX4_init 65 = .ok (.bipush 16, 2) := by decide +kernel
theorem dX4_init_67 : decode cX4_init 67 = .ok (.newarray .int, 2) := by decide +kernel
theorem dX4_init_69 : decode cX4_init 69 = .ok (.putfield 35, 3) := by decide +kernel
theorem dX4_init_72 : decode cX4_init 72 = .ok (.aload_n 0, 1) := by decide +kernel
theorem dX4_init_73 : decode cX4_init 73 = .ok (.bipush 16, 2) := by decide +kernel
theorem dX4_init_75 : decode cX4_init 75 = .ok (.newarray .int, 2) := by decide +kernel
theorem dX4_init_77 : decode cX4_init 77 = .ok (.putfield 38, 3) := by decide +kernel
theorem dX4_init_80 : decode cX4_init 80 = .ok (.return_, 1) := by decide +kernel
theorem dX4_begin_0 : decode cX4_begin 0 = .ok (.iload_n 1, 1) := by decide +kernel
theorem dX4_begin_1 : decode cX4_begin 1 = .ok (.iconst 1, 1) := by decide +kernel
theorem dX4_begin_2 : decode cX4_begin 2 = .ok (.if_icmp .lt 9, 3) := by decide +kernel
theorem dX4_begin_5 : decode cX4_begin 5 = .ok (.iload_n 1, 1) := by decide +kernel
theorem dX4_begin_6 : decode cX4_begin 6 = .ok (.bipush 7, 2) := by decide +kernel
theorem dX4_begin_8 : decode cX4_begin 8 = .ok (.if_icmp .le 5, 3) := by decide +kernel
theorem dX4_begin_11 : decode cX4_begin 11 = .ok (.iconst 0, 1) := by decide +kernel
theorem dX4_begin_12 : decode cX4_begin 12 = .ok (.ireturn, 1) := by decide +kernel
theorem dX4_begin_13 : decode cX4_begin 13 = .ok (.aload_n 0, 1) := by decide +kernel
theorem dX4_begin_14 : decode cX4_begin 14 = .ok (.iload_n 1, 1) := by decide +kernel
theorem dX4_begin_15 : decode cX4_begin 15 = .ok (.putfield 7, 3) := by decide +kernel
theorem dX4_begin_18 : decode cX4_begin 18 = .ok (.aload_n 0, 1) := by decide +kernel
theorem dX4_begin_19 : decode cX4_begin 19 = .ok (.iconst 0, 1) := by decide +kernel
theorem dX4_begin_20 : decode cX4_begin 20 = .ok (.putfield 45, 3) := by decide +kernel
theorem dX4_begin_23 : decode cX4_begin 23 = .ok (.aload_n 0, 1) := by decide +kernel
theorem dX4_begin_24 : decode cX4_begin 24 = .ok (.iconst 0, 1) := by decide +kernel
theorem dX4_begin_25 : decode cX4_begin 25 = .ok (.putfield 56, 3) := by decide +kernel
theorem dX4_begin_28 : decode cX4_begin 28 = .ok (.iconst 1, 1) := by decide +kernel
theorem dX4_begin_29 : decode cX4_begin 29 = .ok (.ireturn, 1) := by decide +kernel
theorem dX4_arc_0 : decode cX4_arc 0 = .ok (.aload_n 0, 1) := by decide +kernel
theorem dX4_arc_1 : decode cX4_arc 1 = .ok (.getfield 45, 3) := by decide +kernel
theorem dX4_arc_4 : decode cX4_arc 4 = .ok (.bipush 14, 2) := by decide +kernel
theorem dX4_arc_6 : decode cX4_arc 6 = .ok (.if_icmp .eq 32, 3) := by decide +kernel
theorem dX4_arc_9 : decode cX4_arc 9 = .ok (.iload_n 1, 1) := by decide +kernel
theorem dX4_arc_10 : decode cX4_arc 10 = .ok (.ifCond .lt 28, 3) := by decide +kernel
theorem dX4_arc_13 : decode cX4_arc 13 = .ok (.iload_n 2, 1) := by decide +kernel
theorem dX4_arc_14 : decode cX4_arc 14 = .ok (.ifCond .lt 24, 3) := by decide +kernel
theorem dX4_arc_17 : decode cX4_arc 17 = .ok (.iload_n 1, 1) := by decide +kernel
theorem dX4_arc_18 : decode cX4_arc 18 = .ok (.aload_n 0, 1) := by decide +kernel
theorem dX4_arc_19 : decode cX4_arc 19 = .ok (.getfield 7, 3) := by decide +kernel
theorem dX4_arc_22 : decode cX4_arc 22 = .ok (.if_icmp .ge 16, 3) := by decide +kernel
theorem dX4_arc_25 : decode cX4_arc 25 = .ok (.iload_n 2, 1) := by decide +kernel
theorem dX4_arc_26 : decode cX4_arc 26 = .ok (.aload_n 0, 1) := by decide +kernel
theorem dX4_arc_27 : decode cX4_arc 27 = .ok (.getfield 7, 3) := by decide +kernel
theorem dX4_arc_30 : decode cX4_arc 30 = .ok (.if_icmp .ge 8, 3) := by decide +kernel
theorem dX4_arc_33 : decode cX4_arc 33 = .ok (.iload_n 1, 1) := by decide +kernel
theorem dX4_arc_34 : decode cX4_arc 34 = .ok (.iload_n 2, 1) := by decide +kernel
theorem dX4_arc_35 : decode cX4_arc 35 = .ok (.if_icmp .ne 5, 3) := by decide +kernel
theorem dX4_arc_38 : decode cX4_arc 38 = .ok (.iconst (-1), 1) := by decide +kernel
theorem dX4_arc_39 : decode cX4_arc 39 = .ok (.ireturn, 1) := by decide +kernel
theorem dX4_arc_40 : decode cX4_arc 40 = .ok (.aload_n 0, 1) := by decide +kernel
theorem dX4_arc_41 : decode cX4_arc 41 = .ok (.getfield 13, 3) := by decide +kernel
theorem dX4_arc_44 : decode cX4_arc 44 = .ok (.aload_n 0, 1) := by decide +kernel
theorem dX4_arc_45 : decode cX4_arc 45 = .ok (.getfield 45, 3) := by decide +kernel
theorem dX4_arc_48 : decode cX4_arc 48 = .ok (.iload_n 1, 1) := by decide +kernel
theorem dX4_arc_49 : decode cX4_arc 49 = .ok (.iastore, 1) := by decide +kernel
theorem dX4_arc_50 : decode cX4_arc 50 = .ok (.aload_n 0, 1) := by decide +kernel
theorem dX4_arc_51 : decode cX4_arc 51 = .ok (.getfield 17, 3) := by decide +kernel
theorem dX4_arc_54 : decode cX4_arc 54 = .ok (.aload_n 0, 1) := by decide +kernel
theorem dX4_arc_55 : decode cX4_arc 55 = .ok (.getfield 45, 3) := by decide +kernel
theorem dX4_arc_58 : decode cX4_arc 58 = .ok (.iload_n 2, 1) := by decide +kernel
theorem dX4_arc_59 : decode cX4_arc 59 = .ok (.iastore, 1) := by decide +kernel
theorem dX4_arc_60 : decode cX4_arc 60 = .ok (.aload_n 0, 1) := by decide +kernel
theorem dX4_arc_61 : decode cX4_arc 61 = .ok (.dup, 1) := by decide +kernel
theorem dX4_arc_62 : decode cX4_arc 62 = .ok (.getfield 45, 3) := by decide +kernel
theorem dX4_arc_65 : decode cX4_arc 65 = .ok (.iconst 1, 1) := by decide +kernel
theorem dX4_arc_66 : decode cX4_arc 66 = .ok (.iadd, 1) := by decide +kernel
theorem dX4_arc_67 : decode cX4_arc 67 = .ok (.putfield 45, 3) := by decide +kernel
theorem dX4_arc_70 : decode cX4_arc 70 = .ok (.aload_n 0, 1) := by decide +kernel
theorem dX4_arc_71 : decode cX4_arc 71 = .ok (.getfield 45, 3) := by decide +kernel
theorem dX4_arc_74 : decode cX4_arc 74 = .ok (.iconst 1, 1) := by decide +kernel
theorem dX4_arc_75 : decode cX4_arc 75 = .ok (.isub, 1) := by decide +kernel
theorem dX4_arc_76 : decode cX4_arc 76 = .ok (.ireturn, 1) := by decide +kernel
theorem dX4_drop_0 : decode cX4_drop 0 = .ok (.aload_n 0, 1) := by decide +kernel
theorem dX4_drop_1 : decode cX4_drop 1 = .ok (.iload_n 1, 1) := by decide +kernel
theorem dX4_drop_2 : decode cX4_drop 2 = .ok (.invokevirtual 59, 3) := by decide +kernel
theorem dX4_drop_5 : decode cX4_drop 5 = .ok (.ifCond .ne 5, 3) := by decide +kernel
theorem dX4_drop_8 : decode cX4_drop 8 = .ok (.iconst 0, 1) := by decide +kernel
theorem dX4_drop_9 : decode cX4_drop 9 = .ok (.ireturn, 1) := by decide +kernel
theorem dX4_drop_10 : decode cX4_drop 10 = .ok (.aload_n 0, 1) := by decide +kernel
theorem dX4_drop_11 : decode cX4_drop 11 = .ok (.iload_n 1, 1) := by decide +kernel
theorem dX4_drop_12 : decode cX4_drop 12 = .ok (.invokevirtual 63, 3) := by decide +kernel
theorem dX4_drop_15 : decode cX4_drop 15 = .ok (.iconst 1, 1) := by decide +kernel
theorem dX4_drop_16 : decode cX4_drop 16 = .ok (.ireturn, 1) := by decide +kernel
theorem dX4_isArc_0 : decode cX4_isArc 0 = .ok (.iload_n 1, 1) := by decide +kernel
theorem dX4_isArc_1 : decode cX4_isArc 1 = .ok (.ifCond .lt 15, 3) := by decide +kernel
theorem dX4_isArc_4 : decode cX4_isArc 4 = .ok (.iload_n 1, 1) := by decide +kernel
theorem dX4_isArc_5 : decode cX4_isArc 5 = .ok (.aload_n 0, 1) := by decide +kernel
theorem dX4_isArc_6 : decode cX4_isArc 6 = .ok (.getfield 45, 3) := by decide +kernel
theorem dX4_isArc_9 : decode cX4_isArc 9 = .ok (.if_icmp .ge 7, 3) := by decide +kernel
theorem dX4_isArc_12 : decode cX4_isArc 12 = .ok (.iconst 1, 1) := by decide +kernel
theorem dX4_isArc_13 : decode cX4_isArc 13 = .ok (.goto 4, 3) := by decide +kernel
theorem dX4_isArc_16 : decode cX4_isArc 16 = .ok (.iconst 0, 1) := by decide +kernel
theorem dX4_isArc_17 : decode cX4_isArc 17 = .ok (.ireturn, 1) := by decide +kernel
theorem dX4_remove_0 : decode cX4_remove 0 = .ok (.aload_n 0, 1) := by decide +kernel
theorem dX4_remove_1 : decode cX4_remove 1 = .ok (.dup, 1) := by decide +kernel
theorem dX4_remove_2 : decode cX4_remove 2 = .ok (.getfield 45, 3) := by decide +kernel
theorem dX4_remove_5 : decode cX4_remove 5 = .ok (.iconst 1, 1) := by decide +kernel
theorem dX4_remove_6 : decode cX4_remove 6 = .ok (.isub, 1) := by decide +kernel
theorem dX4_remove_7 : decode cX4_remove 7 = .ok (.putfield 45, 3) := by decide +kernel
theorem dX4_remove_10 : decode cX4_remove 10 = .ok (.iload_n 1, 1) := by decide +kernel
theorem dX4_remove_11 : decode cX4_remove 11 = .ok (.istore_n 2, 1) := by decide +kernel
theorem dX4_remove_12 : decode cX4_remove 12 = .ok (.iload_n 2, 1) := by decide +kernel
theorem dX4_remove_13 : decode cX4_remove 13 = .ok (.aload_n 0, 1) := by decide +kernel
theorem dX4_remove_14 : decode cX4_remove 14 = .ok (.getfield 45, 3) := by decide +kernel
theorem dX4_remove_17 : decode cX4_remove 17 = .ok (.if_icmp .ge 37, 3) := by decide +kernel
theorem dX4_remove_20 : decode cX4_remove 20 = .ok (.aload_n 0, 1) := by decide +kernel
theorem dX4_remove_21 : decode cX4_remove 21 = .ok (.getfield 13, 3) := by decide +kernel
theorem dX4_remove_24 : decode cX4_remove 24 = .ok (.iload_n 2, 1) := by decide +kernel
theorem dX4_remove_25 : decode cX4_remove 25 = .ok (.aload_n 0, 1) := by decide +kernel
theorem dX4_remove_26 : decode cX4_remove 26 = .ok (.getfield 13, 3) := by decide +kernel
theorem dX4_remove_29 : decode cX4_remove 29 = .ok (.iload_n 2, 1) := by decide +kernel
theorem dX4_remove_30 : decode cX4_remove 30 = .ok (.iconst 1, 1) := by decide +kernel
theorem dX4_remove_31 : decode cX4_remove 31 = .ok (.iadd, 1) := by decide +kernel
theorem dX4_remove_32 : decode cX4_remove 32 = .ok (.iaload, 1) := by decide +kernel
theorem dX4_remove_33 : decode cX4_remove 33 = .ok (.iastore, 1) := by decide +kernel
theorem dX4_remove_34 : decode cX4_remove 34 = .ok (.aload_n 0, 1) := by decide +kernel
theorem dX4_remove_35 : decode cX4_remove 35 = .ok (.getfield 17, 3) := by decide +kernel
theorem dX4_remove_38 : decode cX4_remove 38 = .ok (.iload_n 2, 1) := by decide +kernel
theorem dX4_remove_39 : decode cX4_remove 39 = .ok (.aload_n 0, 1) := by decide +kernel
theorem dX4_remove_40 : decode cX4_remove 40 = .ok (.getfield 17, 3) := by decide +kernel
theorem dX4_remove_43 : decode cX4_remove 43 = .ok (.iload_n 2, 1) := by decide +kernel
theorem dX4_remove_44 : decode cX4_remove 44 = .ok (.iconst 1, 1) := by decide +kernel
theorem dX4_remove_45 : decode cX4_remove 45 = .ok (.iadd, 1) := by decide +kernel
theorem dX4_remove_46 : decode cX4_remove 46 = .ok (.iaload, 1) := by decide +kernel
theorem dX4_remove_47 : decode cX4_remove 47 = .ok (.iastore, 1) := by decide +kernel
theorem dX4_remove_48 : decode cX4_remove 48 = .ok (.iinc 2 1, 3) := by decide +kernel
theorem dX4_remove_51 : decode cX4_remove 51 = .ok (.goto (-39), 3) := by decide +kernel
theorem dX4_remove_54 : decode cX4_remove 54 = .ok (.return_, 1) := by decide +kernel
theorem dX4_plant_0 : decode cX4_plant 0 = .ok (.aload_n 0, 1) := by decide +kernel
theorem dX4_plant_1 : decode cX4_plant 1 = .ok (.getfield 56, 3) := by decide +kernel
theorem dX4_plant_4 : decode cX4_plant 4 = .ok (.iconst 3, 1) := by decide +kernel
theorem dX4_plant_5 : decode cX4_plant 5 = .ok (.if_icmp .eq 15, 3) := by decide +kernel
theorem dX4_plant_8 : decode cX4_plant 8 = .ok (.iload_n 1, 1) := by decide +kernel
theorem dX4_plant_9 : decode cX4_plant 9 = .ok (.ifCond .eq 11, 3) := by decide +kernel
theorem dX4_plant_12 : decode cX4_plant 12 = .ok (.aload_n 0, 1) := by decide +kernel
theorem dX4_plant_13 : decode cX4_plant 13 = .ok (.iload_n 1, 1) := by decide +kernel
theorem dX4_plant_14 : decode cX4_plant 14 = .ok (.invokevirtual 67, 3) := by decide +kernel
theorem dX4_plant_17 : decode cX4_plant 17 = .ok (.ifCond .ne 5, 3) := by decide +kernel
theorem dX4_plant_20 : decode cX4_plant 20 = .ok (.iconst (-1), 1) := by decide +kernel
theorem dX4_plant_21 : decode cX4_plant 21 = .ok (.ireturn, 1) := by decide +kernel
theorem dX4_plant_22 : decode cX4_plant 22 = .ok (.aload_n 0, 1) := by decide +kernel
theorem dX4_plant_23 : decode cX4_plant 23 = .ok (.getfield 20, 3) := by decide +kernel
theorem dX4_plant_26 : decode cX4_plant 26 = .ok (.aload_n 0, 1) := by decide +kernel
theorem dX4_plant_27 : decode cX4_plant 27 = .ok (.getfield 56, 3) := by decide +kernel
theorem dX4_plant_30 : decode cX4_plant 30 = .ok (.iload_n 1, 1) := by decide +kernel
theorem dX4_plant_31 : decode cX4_plant 31 = .ok (.iastore, 1) := by decide +kernel
theorem dX4_plant_32 : decode cX4_plant 32 = .ok (.aload_n 0, 1) := by decide +kernel
theorem dX4_plant_33 : decode cX4_plant 33 = .ok (.dup, 1) := by decide +kernel
theorem dX4_plant_34 : decode cX4_plant 34 = .ok (.getfield 56, 3) := by decide +kernel
theorem dX4_plant_37 : decode cX4_plant 37 = .ok (.iconst 1, 1) := by decide +kernel
theorem dX4_plant_38 : decode cX4_plant 38 = .ok (.iadd, 1) := by decide +kernel
theorem dX4_plant_39 : decode cX4_plant 39 = .ok (.putfield 56, 3) := by decide +kernel
theorem dX4_plant_42 : decode cX4_plant 42 = .ok (.aload_n 0, 1) := by decide +kernel
theorem dX4_plant_43 : decode cX4_plant 43 = .ok (.getfield 56, 3) := by decide +kernel
theorem dX4_plant_46 : decode cX4_plant 46 = .ok (.iconst 1, 1) := by decide +kernel
theorem dX4_plant_47 : decode cX4_plant 47 = .ok (.isub, 1) := by decide +kernel
theorem dX4_plant_48 : decode cX4_plant 48 = .ok (.ireturn, 1) := by decide +kernel
theorem dX4_isSet_0 : decode cX4_isSet 0 = .ok (.iload_n 1, 1) := by decide +kernel
theorem dX4_isSet_1 : decode cX4_isSet 1 = .ok (.ifCond .lt 15, 3) := by decide +kernel
theorem dX4_isSet_4 : decode cX4_isSet 4 = .ok (.iload_n 1, 1) := by decide +kernel
theorem dX4_isSet_5 : decode cX4_isSet 5 = .ok (.aload_n 0, 1) := by decide +kernel
theorem dX4_isSet_6 : decode cX4_isSet 6 = .ok (.invokevirtual 41, 3) := by decide +kernel
theorem dX4_isSet_9 : decode cX4_isSet 9 = .ok (.if_icmp .gt 7, 3) := by decide +kernel
theorem dX4_isSet_12 : decode cX4_isSet 12 = .ok (.iconst 1, 1) := by decide +kernel
theorem dX4_isSet_13 : decode cX4_isSet 13 = .ok (.goto 4, 3) := by decide +kernel
theorem dX4_isSet_16 : decode cX4_isSet 16 = .ok (.iconst 0, 1) := by decide +kernel
theorem dX4_isSet_17 : decode cX4_isSet 17 = .ok (.ireturn, 1) := by decide +kernel
theorem dX4_all_0 : decode cX4_all 0 = .ok (.iconst 1, 1) := by decide +kernel
theorem dX4_all_1 : decode cX4_all 1 = .ok (.aload_n 0, 1) := by decide +kernel
theorem dX4_all_2 : decode cX4_all 2 = .ok (.getfield 7, 3) := by decide +kernel
theorem dX4_all_5 : decode cX4_all 5 = .ok (.ishl, 1) := by decide +kernel
theorem dX4_all_6 : decode cX4_all 6 = .ok (.iconst 1, 1) := by decide +kernel
theorem dX4_all_7 : decode cX4_all 7 = .ok (.isub, 1) := by decide +kernel
theorem dX4_all_8 : decode cX4_all 8 = .ok (.ireturn, 1) := by decide +kernel
theorem dX4_fell_0 : decode cX4_fell 0 = .ok (.aload_n 0, 1) := by decide +kernel
theorem dX4_fell_1 : decode cX4_fell 1 = .ok (.getfield 56, 3) := by decide +kernel
theorem dX4_fell_4 : decode cX4_fell 4 = .ok (.ifCond .ne 5, 3) := by decide +kernel
theorem dX4_fell_7 : decode cX4_fell 7 = .ok (.iconst (-1), 1) := by decide +kernel
theorem dX4_fell_8 : decode cX4_fell 8 = .ok (.ireturn, 1) := by decide +kernel
theorem dX4_fell_9 : decode cX4_fell 9 = .ok (.aload_n 0, 1) := by decide +kernel
theorem dX4_fell_10 : decode cX4_fell 10 = .ok (.dup, 1) := by decide +kernel
theorem dX4_fell_11 : decode cX4_fell 11 = .ok (.getfield 56, 3) := by decide +kernel
theorem dX4_fell_14 : decode cX4_fell 14 = .ok (.iconst 1, 1) := by decide +kernel
theorem dX4_fell_15 : decode cX4_fell 15 = .ok (.isub, 1) := by decide +kernel
theorem dX4_fell_16 : decode cX4_fell 16 = .ok (.putfield 56, 3) := by decide +kernel
theorem dX4_fell_19 : decode cX4_fell 19 = .ok (.aload_n 0, 1) := by decide +kernel
theorem dX4_fell_20 : decode cX4_fell 20 = .ok (.getfield 56, 3) := by decide +kernel
theorem dX4_fell_23 : decode cX4_fell 23 = .ok (.ireturn, 1) := by decide +kernel
theorem dX4_count_0 : decode cX4_count 0 = .ok (.iload_n 1, 1) := by decide +kernel
theorem dX4_count_1 : decode cX4_count 1 = .ok (.ifCond .ne 10, 3) := by decide +kernel
theorem dX4_count_4 : decode cX4_count 4 = .ok (.aload_n 0, 1) := by decide +kernel
theorem dX4_count_5 : decode cX4_count 5 = .ok (.getfield 7, 3) := by decide +kernel
theorem dX4_count_8 : decode cX4_count 8 = .ok (.goto 28, 3) := by decide +kernel
theorem dX4_count_11 : decode cX4_count 11 = .ok (.iload_n 1, 1) := by decide +kernel
theorem dX4_count_12 : decode cX4_count 12 = .ok (.iconst 1, 1) := by decide +kernel
theorem dX4_count_13 : decode cX4_count 13 = .ok (.if_icmp .ne 10, 3) := by decide +kernel
theorem dX4_count_16 : decode cX4_count 16 = .ok (.aload_n 0, 1) := by decide +kernel
theorem dX4_count_17 : decode cX4_count 17 = .ok (.getfield 45, 3) := by decide +kernel
theorem dX4_count_20 : decode cX4_count 20 = .ok (.goto 16, 3) := by decide +kernel
theorem dX4_count_23 : decode cX4_count 23 = .ok (.iload_n 1, 1) := by decide +kernel
theorem dX4_count_24 : decode cX4_count 24 = .ok (.iconst 2, 1) := by decide +kernel
theorem dX4_count_25 : decode cX4_count 25 = .ok (.if_icmp .ne 10, 3) := by decide +kernel
theorem dX4_count_28 : decode cX4_count 28 = .ok (.aload_n 0, 1) := by decide +kernel
theorem dX4_count_29 : decode cX4_count 29 = .ok (.getfield 56, 3) := by decide +kernel
theorem dX4_count_32 : decode cX4_count 32 = .ok (.goto 4, 3) := by decide +kernel
theorem dX4_count_35 : decode cX4_count 35 = .ok (.iconst (-1), 1) := by decide +kernel
theorem dX4_count_36 : decode cX4_count 36 = .ok (.ireturn, 1) := by decide +kernel
theorem dX4_end_0 : decode cX4_end 0 = .ok (.aload_n 0, 1) := by decide +kernel
theorem dX4_end_1 : decode cX4_end 1 = .ok (.iload_n 1, 1) := by decide +kernel
theorem dX4_end_2 : decode cX4_end 2 = .ok (.invokevirtual 59, 3) := by decide +kernel
theorem dX4_end_5 : decode cX4_end 5 = .ok (.ifCond .eq 12, 3) := by decide +kernel
theorem dX4_end_8 : decode cX4_end 8 = .ok (.iload_n 2, 1) := by decide +kernel
theorem dX4_end_9 : decode cX4_end 9 = .ok (.ifCond .lt 8, 3) := by decide +kernel
theorem dX4_end_12 : decode cX4_end 12 = .ok (.iload_n 2, 1) := by decide +kernel
theorem dX4_end_13 : decode cX4_end 13 = .ok (.iconst 1, 1) := by decide +kernel
theorem dX4_end_14 : decode cX4_end 14 = .ok (.if_icmp .le 7, 3) := by decide +kernel
theorem dX4_end_17 : decode cX4_end 17 = .ok (.iconst (-1), 1) := by decide +kernel
theorem dX4_end_18 : decode cX4_end 18 = .ok (.goto 22, 3) := by decide +kernel
theorem dX4_end_21 : decode cX4_end 21 = .ok (.iload_n 2, 1) := by decide +kernel
theorem dX4_end_22 : decode cX4_end 22 = .ok (.ifCond .ne 12, 3) := by decide +kernel
theorem dX4_end_25 : decode cX4_end 25 = .ok (.aload_n 0, 1) := by decide +kernel
theorem dX4_end_26 : decode cX4_end 26 = .ok (.getfield 13, 3) := by decide +kernel
theorem dX4_end_29 : decode cX4_end 29 = .ok (.iload_n 1, 1) := by decide +kernel
theorem dX4_end_30 : decode cX4_end 30 = .ok (.iaload, 1) := by decide +kernel
theorem dX4_end_31 : decode cX4_end 31 = .ok (.goto 9, 3) := by decide +kernel
theorem dX4_end_34 : decode cX4_end 34 = .ok (.aload_n 0, 1) := by decide +kernel
theorem dX4_end_35 : decode cX4_end 35 = .ok (.getfield 17, 3) := by decide +kernel
theorem dX4_end_38 : decode cX4_end 38 = .ok (.iload_n 1, 1) := by decide +kernel
theorem dX4_end_39 : decode cX4_end 39 = .ok (.iaload, 1) := by decide +kernel
theorem dX4_end_40 : decode cX4_end 40 = .ok (.ireturn, 1) := by decide +kernel
theorem dX4_entry_0 : decode cX4_entry 0 = .ok (.aload_n 0, 1) := by decide +kernel
theorem dX4_entry_1 : decode cX4_entry 1 = .ok (.iload_n 1, 1) := by decide +kernel
theorem dX4_entry_2 : decode cX4_entry 2 = .ok (.invokevirtual 67, 3) := by decide +kernel
theorem dX4_entry_5 : decode cX4_entry 5 = .ok (.ifCond .eq 12, 3) := by decide +kernel
theorem dX4_entry_8 : decode cX4_entry 8 = .ok (.aload_n 0, 1) := by decide +kernel
theorem dX4_entry_9 : decode cX4_entry 9 = .ok (.iload_n 1, 1) := by decide +kernel
theorem dX4_entry_10 : decode cX4_entry 10 = .ok (.iconst 0, 1) := by decide +kernel
theorem dX4_entry_11 : decode cX4_entry 11 = .ok (.invokevirtual 70, 3) := by decide +kernel
theorem dX4_entry_14 : decode cX4_entry 14 = .ok (.goto 4, 3) := by decide +kernel
theorem dX4_entry_17 : decode cX4_entry 17 = .ok (.iconst (-1), 1) := by decide +kernel
theorem dX4_entry_18 : decode cX4_entry 18 = .ok (.ireturn, 1) := by decide +kernel
theorem dX4_entryOf_0 : decode cX4_entryOf 0 = .ok (.iconst 0, 1) := by decide +kernel
theorem dX4_entryOf_1 : decode cX4_entryOf 1 = .ok (.istore_n 3, 1) := by decide +kernel
theorem dX4_entryOf_2 : decode cX4_entryOf 2 = .ok (.iconst 0, 1) := by decide +kernel
theorem dX4_entryOf_3 : decode cX4_entryOf 3 = .ok (.istore 4, 2) := by decide +kernel
theorem dX4_entryOf_5 : decode cX4_entryOf 5 = .ok (.iload 4, 2) := by decide +kernel
theorem dX4_entryOf_7 : decode cX4_entryOf 7 = .ok (.aload_n 0, 1) := by decide +kernel
theorem dX4_entryOf_8 : decode cX4_entryOf 8 = .ok (.getfield 45, 3) := by decide +kernel
theorem dX4_entryOf_11 : decode cX4_entryOf 11 = .ok (.if_icmp .ge 54, 3) := by decide +kernel
theorem dX4_entryOf_14 : decode cX4_entryOf 14 = .ok (.iload_n 2, 1) := by decide +kernel
theorem dX4_entryOf_15 : decode cX4_entryOf 15 = .ok (.iload 4, 2) := by decide +kernel
theorem dX4_entryOf_17 : decode cX4_entryOf 17 = .ok (.invokestatic 48, 3) := by decide +kernel
theorem dX4_entryOf_20 : decode cX4_entryOf 20 = .ok (.ifCond .ne 37, 3) := by decide +kernel
theorem dX4_entryOf_23 : decode cX4_entryOf 23 = .ok (.iload_n 1, 1) := by decide +kernel
theorem dX4_entryOf_24 : decode cX4_entryOf 24 = .ok (.aload_n 0, 1) := by decide +kernel
theorem dX4_entryOf_25 : decode cX4_entryOf 25 = .ok (.getfield 17, 3) := by decide +kernel
theorem dX4_entryOf_28 : decode cX4_entryOf 28 = .ok (.iload 4, 2) := by decide +kernel
theorem dX4_entryOf_30 : decode cX4_entryOf 30 = .ok (.iaload, 1) := by decide +kernel
theorem dX4_entryOf_31 : decode cX4_entryOf 31 = .ok (.invokestatic 48, 3) := by decide +kernel
theorem dX4_entryOf_34 : decode cX4_entryOf 34 = .ok (.ifCond .eq 23, 3) := by decide +kernel
theorem dX4_entryOf_37 : decode cX4_entryOf 37 = .ok (.iload_n 1, 1) := by decide +kernel
theorem dX4_entryOf_38 : decode cX4_entryOf 38 = .ok (.aload_n 0, 1) := by decide +kernel
theorem dX4_entryOf_39 : decode cX4_entryOf 39 = .ok (.getfield 13, 3) := by decide +kernel
theorem dX4_entryOf_42 : decode cX4_entryOf 42 = .ok (.iload 4, 2) := by decide +kernel
theorem dX4_entryOf_44 : decode cX4_entryOf 44 = .ok (.iaload, 1) := by decide +kernel
theorem dX4_entryOf_45 : decode cX4_entryOf 45 = .ok (.invokestatic 48, 3) := by decide +kernel
theorem dX4_entryOf_48 : decode cX4_entryOf 48 = .ok (.ifCond .ne 9, 3) := by decide +kernel
theorem dX4_entryOf_51 : decode cX4_entryOf 51 = .ok (.iload_n 3, 1) := by decide +kernel
theorem dX4_entryOf_52 : decode cX4_entryOf 52 = .ok (.iconst 1, 1) := by decide +kernel
theorem dX4_entryOf_53 : decode cX4_entryOf 53 = .ok (.iadd, 1) := by decide +kernel
theorem dX4_entryOf_54 : decode cX4_entryOf 54 = .ok (.goto 4, 3) := by decide +kernel
theorem dX4_entryOf_57 : decode cX4_entryOf 57 = .ok (.iload_n 3, 1) := by decide +kernel
theorem dX4_entryOf_58 : decode cX4_entryOf 58 = .ok (.istore_n 3, 1) := by decide +kernel
theorem dX4_entryOf_59 : decode cX4_entryOf 59 = .ok (.iinc 4 1, 3) := by decide +kernel
theorem dX4_entryOf_62 : decode cX4_entryOf 62 = .ok (.goto (-57), 3) := by decide +kernel
theorem dX4_entryOf_65 : decode cX4_entryOf 65 = .ok (.iload_n 3, 1) := by decide +kernel
theorem dX4_entryOf_66 : decode cX4_entryOf 66 = .ok (.ireturn, 1) := by decide +kernel
theorem dX4_has_0 : decode cX4_has 0 = .ok (.iload_n 0, 1) := by decide +kernel
theorem dX4_has_1 : decode cX4_has 1 = .ok (.iload_n 1, 1) := by decide +kernel
theorem dX4_has_2 : decode cX4_has 2 = .ok (.ishr, 1) := by decide +kernel
theorem dX4_has_3 : decode cX4_has 3 = .ok (.iconst 1, 1) := by decide +kernel
theorem dX4_has_4 : decode cX4_has 4 = .ok (.iand, 1) := by decide +kernel
theorem dX4_has_5 : decode cX4_has 5 = .ok (.iconst 1, 1) := by decide +kernel
theorem dX4_has_6 : decode cX4_has 6 = .ok (.if_icmp .ne 7, 3) := by decide +kernel
theorem dX4_has_9 : decode cX4_has 9 = .ok (.iconst 1, 1) := by decide +kernel
theorem dX4_has_10 : decode cX4_has 10 = .ok (.goto 4, 3) := by decide +kernel
theorem dX4_has_13 : decode cX4_has 13 = .ok (.iconst 0, 1) := by decide +kernel
theorem dX4_has_14 : decode cX4_has 14 = .ok (.ireturn, 1) := by decide +kernel
theorem dX4_missed_0 : decode cX4_missed 0 = .ok (.aload_n 0, 1) := by decide +kernel
theorem dX4_missed_1 : decode cX4_missed 1 = .ok (.iload_n 1, 1) := by decide +kernel
theorem dX4_missed_2 : decode cX4_missed 2 = .ok (.invokevirtual 67, 3) := by decide +kernel
theorem dX4_missed_5 : decode cX4_missed 5 = .ok (.ifCond .ne 5, 3) := by decide +kernel
theorem dX4_missed_8 : decode cX4_missed 8 = .ok (.iconst (-1), 1) := by decide +kernel
theorem dX4_missed_9 : decode cX4_missed 9 = .ok (.ireturn, 1) := by decide +kernel
theorem dX4_missed_10 : decode cX4_missed 10 = .ok (.iconst 0, 1) := by decide +kernel
theorem dX4_missed_11 : decode cX4_missed 11 = .ok (.istore_n 2, 1) := by decide +kernel
theorem dX4_missed_12 : decode cX4_missed 12 = .ok (.iconst 0, 1) := by decide +kernel
theorem dX4_missed_13 : decode cX4_missed 13 = .ok (.istore_n 3, 1) := by decide +kernel
theorem dX4_missed_14 : decode cX4_missed 14 = .ok (.iload_n 3, 1) := by decide +kernel
theorem dX4_missed_15 : decode cX4_missed 15 = .ok (.aload_n 0, 1) := by decide +kernel
theorem dX4_missed_16 : decode cX4_missed 16 = .ok (.getfield 56, 3) := by decide +kernel
theorem dX4_missed_19 : decode cX4_missed 19 = .ok (.if_icmp .ge 28, 3) := by decide +kernel
theorem dX4_missed_22 : decode cX4_missed 22 = .ok (.aload_n 0, 1) := by decide +kernel
theorem dX4_missed_23 : decode cX4_missed 23 = .ok (.getfield 20, 3) := by decide +kernel
theorem dX4_missed_26 : decode cX4_missed 26 = .ok (.iload_n 3, 1) := by decide +kernel
theorem dX4_missed_27 : decode cX4_missed 27 = .ok (.iaload, 1) := by decide +kernel
theorem dX4_missed_28 : decode cX4_missed 28 = .ok (.iload_n 1, 1) := by decide +kernel
theorem dX4_missed_29 : decode cX4_missed 29 = .ok (.iand, 1) := by decide +kernel
theorem dX4_missed_30 : decode cX4_missed 30 = .ok (.ifCond .ne 9, 3) := by decide +kernel
theorem dX4_missed_33 : decode cX4_missed 33 = .ok (.iload_n 2, 1) := by decide +kernel
theorem dX4_missed_34 : decode cX4_missed 34 = .ok (.iconst 1, 1) := by decide +kernel
theorem dX4_missed_35 : decode cX4_missed 35 = .ok (.iadd, 1) := by decide +kernel
theorem dX4_missed_36 : decode cX4_missed 36 = .ok (.goto 4, 3) := by decide +kernel
theorem dX4_missed_39 : decode cX4_missed 39 = .ok (.iload_n 2, 1) := by decide +kernel
theorem dX4_missed_40 : decode cX4_missed 40 = .ok (.istore_n 2, 1) := by decide +kernel
theorem dX4_missed_41 : decode cX4_missed 41 = .ok (.iinc 3 1, 3) := by decide +kernel
theorem dX4_missed_44 : decode cX4_missed 44 = .ok (.goto (-30), 3) := by decide +kernel
theorem dX4_missed_47 : decode cX4_missed 47 = .ok (.iload_n 2, 1) := by decide +kernel
theorem dX4_missed_48 : decode cX4_missed 48 = .ok (.ireturn, 1) := by decide +kernel
theorem dX4_stopper_0 : decode cX4_stopper 0 = .ok (.iconst 0, 1) := by decide +kernel
theorem dX4_stopper_1 : decode cX4_stopper 1 = .ok (.istore_n 1, 1) := by decide +kernel
theorem dX4_stopper_2 : decode cX4_stopper 2 = .ok (.iconst 1, 1) := by decide +kernel
theorem dX4_stopper_3 : decode cX4_stopper 3 = .ok (.istore_n 2, 1) := by decide +kernel
theorem dX4_stopper_4 : decode cX4_stopper 4 = .ok (.iload_n 2, 1) := by decide +kernel
theorem dX4_stopper_5 : decode cX4_stopper 5 = .ok (.aload_n 0, 1) := by decide +kernel
theorem dX4_stopper_6 : decode cX4_stopper 6 = .ok (.invokevirtual 41, 3) := by decide +kernel
theorem dX4_stopper_9 : decode cX4_stopper 9 = .ok (.if_icmp .gt 36, 3) := by decide +kernel
theorem dX4_stopper_12 : decode cX4_stopper 12 = .ok (.aload_n 0, 1) := by decide +kernel
theorem dX4_stopper_13 : decode cX4_stopper 13 = .ok (.iload_n 2, 1) := by decide +kernel
theorem dX4_stopper_14 : decode cX4_stopper 14 = .ok (.invokevirtual 74, 3) := by decide +kernel
theorem dX4_stopper_17 : decode cX4_stopper 17 = .ok (.aload_n 0, 1) := by decide +kernel
theorem dX4_stopper_18 : decode cX4_stopper 18 = .ok (.iload_n 2, 1) := by decide +kernel
theorem dX4_stopper_19 : decode cX4_stopper 19 = .ok (.invokevirtual 77, 3) := by decide +kernel
theorem dX4_stopper_22 : decode cX4_stopper 22 = .ok (.if_icmp .ge 17, 3) := by decide +kernel
theorem dX4_stopper_25 : decode cX4_stopper 25 = .ok (.iload_n 1, 1) := by decide +kernel
theorem dX4_stopper_26 : decode cX4_stopper 26 = .ok (.ifCond .eq 11, 3) := by decide +kernel
theorem dX4_stopper_29 : decode cX4_stopper 29 = .ok (.iload_n 2, 1) := by decide +kernel
theorem dX4_stopper_30 : decode cX4_stopper 30 = .ok (.iload_n 1, 1) := by decide +kernel
theorem dX4_stopper_31 : decode cX4_stopper 31 = .ok (.invokestatic 80, 3) := by decide +kernel
theorem dX4_stopper_34 : decode cX4_stopper 34 = .ok (.ifCond .eq 5, 3) := by decide +kernel
theorem dX4_stopper_37 : decode cX4_stopper 37 = .ok (.iload_n 2, 1) := by decide +kernel
theorem dX4_stopper_38 : decode cX4_stopper 38 = .ok (.istore_n 1, 1) := by decide +kernel
theorem dX4_stopper_39 : decode cX4_stopper 39 = .ok (.iinc 2 1, 3) := by decide +kernel
theorem dX4_stopper_42 : decode cX4_stopper 42 = .ok (.goto (-38), 3) := by decide +kernel
theorem dX4_stopper_45 : decode cX4_stopper 45 = .ok (.iload_n 1, 1) := by decide +kernel
theorem dX4_stopper_46 : decode cX4_stopper 46 = .ok (.ireturn, 1) := by decide +kernel
theorem dX4_isBefore_0 : decode cX4_isBefore 0 = .ok (.iload_n 0, 1) := by decide +kernel
theorem dX4_isBefore_1 : decode cX4_isBefore 1 = .ok (.invokestatic 52, 3) := by decide +kernel
theorem dX4_isBefore_4 : decode cX4_isBefore 4 = .ok (.iload_n 1, 1) := by decide +kernel
theorem dX4_isBefore_5 : decode cX4_isBefore 5 = .ok (.invokestatic 52, 3) := by decide +kernel
theorem dX4_isBefore_8 : decode cX4_isBefore 8 = .ok (.if_icmp .eq 20, 3) := by decide +kernel
theorem dX4_isBefore_11 : decode cX4_isBefore 11 = .ok (.iload_n 0, 1) := by decide +kernel
theorem dX4_isBefore_12 : decode cX4_isBefore 12 = .ok (.invokestatic 52, 3) := by decide +kernel
theorem dX4_isBefore_15 : decode cX4_isBefore 15 = .ok (.iload_n 1, 1) := by decide +kernel
theorem dX4_isBefore_16 : decode cX4_isBefore 16 = .ok (.invokestatic 52, 3) := by decide +kernel
theorem dX4_isBefore_19 : decode cX4_isBefore 19 = .ok (.if_icmp .ge 7, 3) := by decide +kernel
theorem dX4_isBefore_22 : decode cX4_isBefore 22 = .ok (.iconst 1, 1) := by decide +kernel
theorem dX4_isBefore_23 : decode cX4_isBefore 23 = .ok (.goto 4, 3) := by decide +kernel
theorem dX4_isBefore_26 : decode cX4_isBefore 26 = .ok (.iconst 0, 1) := by decide +kernel
theorem dX4_isBefore_27 : decode cX4_isBefore 27 = .ok (.ireturn, 1) := by decide +kernel
theorem dX4_isBefore_28 : decode cX4_isBefore 28 = .ok (.iconst 0, 1) := by decide +kernel
theorem dX4_isBefore_29 : decode cX4_isBefore 29 = .ok (.istore_n 2, 1) := by decide +kernel
theorem dX4_isBefore_30 : decode cX4_isBefore 30 = .ok (.iload_n 2, 1) := by decide +kernel
theorem dX4_isBefore_31 : decode cX4_isBefore 31 = .ok (.bipush 7, 2) := by decide +kernel
theorem dX4_isBefore_33 : decode cX4_isBefore 33 = .ok (.if_icmp .ge 22, 3) := by decide +kernel
theorem dX4_isBefore_36 : decode cX4_isBefore 36 = .ok (.iload_n 0, 1) := by decide +kernel
theorem dX4_isBefore_37 : decode cX4_isBefore 37 = .ok (.iload_n 2, 1) := by decide +kernel
theorem dX4_isBefore_38 : decode cX4_isBefore 38 = .ok (.invokestatic 48, 3) := by decide +kernel
theorem dX4_isBefore_41 : decode cX4_isBefore 41 = .ok (.iload_n 1, 1) := by decide +kernel
theorem dX4_isBefore_42 : decode cX4_isBefore 42 = .ok (.iload_n 2, 1) := by decide +kernel
theorem dX4_isBefore_43 : decode cX4_isBefore 43 = .ok (.invokestatic 48, 3) := by decide +kernel
theorem dX4_isBefore_46 : decode cX4_isBefore 46 = .ok (.if_icmp .ne 9, 3) := by decide +kernel
theorem dX4_isBefore_49 : decode cX4_isBefore 49 = .ok (.iinc 2 1, 3) := by decide +kernel
theorem dX4_isBefore_52 : decode cX4_isBefore 52 = .ok (.goto (-22), 3) := by decide +kernel
theorem dX4_isBefore_55 : decode cX4_isBefore 55 = .ok (.iload_n 2, 1) := by decide +kernel
theorem dX4_isBefore_56 : decode cX4_isBefore 56 = .ok (.bipush 7, 2) := by decide +kernel
theorem dX4_isBefore_58 : decode cX4_isBefore 58 = .ok (.if_icmp .ge 15, 3) := by decide +kernel
theorem dX4_isBefore_61 : decode cX4_isBefore 61 = .ok (.iload_n 0, 1) := by decide +kernel
theorem dX4_isBefore_62 : decode cX4_isBefore 62 = .ok (.iload_n 2, 1) := by decide +kernel
theorem dX4_isBefore_63 : decode cX4_isBefore 63 = .ok (.invokestatic 48, 3) := by decide +kernel
theorem dX4_isBefore_66 : decode cX4_isBefore 66 = .ok (.ifCond .eq 7, 3) := by decide +kernel
theorem dX4_isBefore_69 : decode cX4_isBefore 69 = .ok (.iconst 1, 1) := by decide +kernel
theorem dX4_isBefore_70 : decode cX4_isBefore 70 = .ok (.goto 4, 3) := by decide +kernel
theorem dX4_isBefore_73 : decode cX4_isBefore 73 = .ok (.iconst 0, 1) := by decide +kernel
theorem dX4_isBefore_74 : decode cX4_isBefore 74 = .ok (.ireturn, 1) := by decide +kernel
theorem dX4_size_0 : decode cX4_size 0 = .ok (.iconst 0, 1) := by decide +kernel
theorem dX4_size_1 : decode cX4_size 1 = .ok (.istore_n 1, 1) := by decide +kernel
theorem dX4_size_2 : decode cX4_size 2 = .ok (.iconst 0, 1) := by decide +kernel
theorem dX4_size_3 : decode cX4_size 3 = .ok (.istore_n 2, 1) := by decide +kernel
theorem dX4_size_4 : decode cX4_size 4 = .ok (.iload_n 2, 1) := by decide +kernel
theorem dX4_size_5 : decode cX4_size 5 = .ok (.bipush 7, 2) := by decide +kernel
theorem dX4_size_7 : decode cX4_size 7 = .ok (.if_icmp .ge 25, 3) := by decide +kernel
theorem dX4_size_10 : decode cX4_size 10 = .ok (.iload_n 0, 1) := by decide +kernel
theorem dX4_size_11 : decode cX4_size 11 = .ok (.iload_n 2, 1) := by decide +kernel
theorem dX4_size_12 : decode cX4_size 12 = .ok (.invokestatic 48, 3) := by decide +kernel
theorem dX4_size_15 : decode cX4_size 15 = .ok (.ifCond .eq 9, 3) := by decide +kernel
theorem dX4_size_18 : decode cX4_size 18 = .ok (.iload_n 1, 1) := by decide +kernel
theorem dX4_size_19 : decode cX4_size 19 = .ok (.iconst 1, 1) := by decide +kernel
theorem dX4_size_20 : decode cX4_size 20 = .ok (.iadd, 1) := by decide +kernel
theorem dX4_size_21 : decode cX4_size 21 = .ok (.goto 4, 3) := by decide +kernel
theorem dX4_size_24 : decode cX4_size 24 = .ok (.iload_n 1, 1) := by decide +kernel
theorem dX4_size_25 : decode cX4_size 25 = .ok (.istore_n 1, 1) := by decide +kernel
theorem dX4_size_26 : decode cX4_size 26 = .ok (.iinc 2 1, 3) := by decide +kernel
theorem dX4_size_29 : decode cX4_size 29 = .ok (.goto (-25), 3) := by decide +kernel
theorem dX4_size_32 : decode cX4_size 32 = .ok (.iload_n 1, 1) := by decide +kernel
theorem dX4_size_33 : decode cX4_size 33 = .ok (.ireturn, 1) := by decide +kernel
theorem dX4_packs_0 : decode cX4_packs 0 = .ok (.aload_n 0, 1) := by decide +kernel
theorem dX4_packs_1 : decode cX4_packs 1 = .ok (.iconst 0, 1) := by decide +kernel
theorem dX4_packs_2 : decode cX4_packs 2 = .ok (.aload_n 0, 1) := by decide +kernel
theorem dX4_packs_3 : decode cX4_packs 3 = .ok (.getfield 56, 3) := by decide +kernel
theorem dX4_packs_6 : decode cX4_packs 6 = .ok (.ifCond .le 12, 3) := by decide +kernel
theorem dX4_packs_9 : decode cX4_packs 9 = .ok (.aload_n 0, 1) := by decide +kernel
theorem dX4_packs_10 : decode cX4_packs 10 = .ok (.getfield 20, 3) := by decide +kernel
theorem dX4_packs_13 : decode cX4_packs 13 = .ok (.iconst 0, 1) := by decide +kernel
theorem dX4_packs_14 : decode cX4_packs 14 = .ok (.iaload, 1) := by decide +kernel
theorem dX4_packs_15 : decode cX4_packs 15 = .ok (.goto 4, 3) := by decide +kernel
theorem dX4_packs_18 : decode cX4_packs 18 = .ok (.iconst 0, 1) := by decide +kernel
theorem dX4_packs_19 : decode cX4_packs 19 = .ok (.iconst 0, 1) := by decide +kernel
theorem dX4_packs_20 : decode cX4_packs 20 = .ok (.invokevirtual 94, 3) := by decide +kernel
theorem dX4_packs_23 : decode cX4_packs 23 = .ok (.ireturn, 1) := by decide +kernel
theorem dX4_canGoOn_0 : decode cX4_canGoOn 0 = .ok (.iconst 0, 1) := by decide +kernel
theorem dX4_canGoOn_1 : decode cX4_canGoOn 1 = .ok (.istore 4, 2) := by decide +kernel
theorem dX4_canGoOn_3 : decode cX4_canGoOn 3 = .ok (.aload_n 0, 1) := by decide +kernel
theorem dX4_canGoOn_4 : decode cX4_canGoOn 4 = .ok (.iconst 0, 1) := by decide +kernel
theorem dX4_canGoOn_5 : decode cX4_canGoOn 5 = .ok (.iload_n 1, 1) := by decide +kernel
theorem dX4_canGoOn_6 : decode cX4_canGoOn 6 = .ok (.iload_n 2, 1) := by decide +kernel
theorem dX4_canGoOn_7 : decode cX4_canGoOn 7 = .ok (.iload_n 3, 1) := by decide +kernel
theorem dX4_canGoOn_8 : decode cX4_canGoOn 8 = .ok (.invokevirtual 87, 3) := by decide +kernel
theorem dX4_canGoOn_11 : decode cX4_canGoOn 11 = .ok (.istore 5, 2) := by decide +kernel
theorem dX4_canGoOn_13 : decode cX4_canGoOn 13 = .ok (.iload 5, 2) := by decide +kernel
theorem dX4_canGoOn_15 : decode cX4_canGoOn 15 = .ok (.ifCond .ne 118, 3) := by decide +kernel
theorem dX4_canGoOn_18 : decode cX4_canGoOn 18 = .ok (.iload 4, 2) := by decide +kernel
theorem dX4_canGoOn_20 : decode cX4_canGoOn 20 = .ok (.ifCond .lt 113, 3) := by decide +kernel
theorem dX4_canGoOn_23 : decode cX4_canGoOn 23 = .ok (.aload_n 0, 1) := by decide +kernel
theorem dX4_canGoOn_24 : decode cX4_canGoOn 24 = .ok (.getfield 38, 3) := by decide +kernel
theorem dX4_canGoOn_27 : decode cX4_canGoOn 27 = .ok (.iload 4, 2) := by decide +kernel
theorem dX4_canGoOn_29 : decode cX4_canGoOn 29 = .ok (.iaload, 1) := by decide +kernel
theorem dX4_canGoOn_30 : decode cX4_canGoOn 30 = .ok (.istore 6, 2) := by decide +kernel
theorem dX4_canGoOn_32 : decode cX4_canGoOn 32 = .ok (.iload 6, 2) := by decide +kernel
theorem dX4_canGoOn_34 : decode cX4_canGoOn 34 = .ok (.aload_n 0, 1) := by decide +kernel
theorem dX4_canGoOn_35 : decode cX4_canGoOn 35 = .ok (.getfield 45, 3) := by decide +kernel
theorem dX4_canGoOn_38 : decode cX4_canGoOn 38 = .ok (.if_icmp .ne 9, 3) := by decide +kernel
theorem dX4_canGoOn_41 : decode cX4_canGoOn 41 = .ok (.iinc 4 (-1), 3) := by decide +kernel
theorem dX4_canGoOn_44 : decode cX4_canGoOn 44 = .ok (.goto 86, 3) := by decide +kernel
theorem dX4_canGoOn_47 : decode cX4_canGoOn 47 = .ok (.aload_n 0, 1) := by decide +kernel
theorem dX4_canGoOn_48 : decode cX4_canGoOn 48 = .ok (.getfield 38, 3) := by decide +kernel
theorem dX4_canGoOn_51 : decode cX4_canGoOn 51 = .ok (.iload 4, 2) := by decide +kernel
theorem dX4_canGoOn_53 : decode cX4_canGoOn 53 = .ok (.iload 6, 2) := by decide +kernel
theorem dX4_canGoOn_55 : decode cX4_canGoOn 55 = .ok (.iconst 1, 1) := by decide +kernel
theorem dX4_canGoOn_56 : decode cX4_canGoOn 56 = .ok (.iadd, 1) := by decide +kernel
theorem dX4_canGoOn_57 : decode cX4_canGoOn 57 = .ok (.iastore, 1) := by decide +kernel
theorem dX4_canGoOn_58 : decode cX4_canGoOn 58 = .ok (.aload_n 0, 1) := by decide +kernel
theorem dX4_canGoOn_59 : decode cX4_canGoOn 59 = .ok (.aload_n 0, 1) := by decide +kernel
theorem dX4_canGoOn_60 : decode cX4_canGoOn 60 = .ok (.getfield 32, 3) := by decide +kernel
theorem dX4_canGoOn_63 : decode cX4_canGoOn 63 = .ok (.iload 4, 2) := by decide +kernel
theorem dX4_canGoOn_65 : decode cX4_canGoOn 65 = .ok (.iaload, 1) := by decide +kernel
theorem dX4_canGoOn_66 : decode cX4_canGoOn 66 = .ok (.aload_n 0, 1) := by decide +kernel
theorem dX4_canGoOn_67 : decode cX4_canGoOn 67 = .ok (.getfield 35, 3) := by decide +kernel
theorem dX4_canGoOn_70 : decode cX4_canGoOn 70 = .ok (.iload 4, 2) := by decide +kernel
theorem dX4_canGoOn_72 : decode cX4_canGoOn 72 = .ok (.iaload, 1) := by decide +kernel
theorem dX4_canGoOn_73 : decode cX4_canGoOn 73 = .ok (.iload 6, 2) := by decide +kernel
theorem dX4_canGoOn_75 : decode cX4_canGoOn 75 = .ok (.invokevirtual 91, 3) := by decide +kernel
theorem dX4_canGoOn_78 : decode cX4_canGoOn 78 = .ok (.ifCond .eq 52, 3) := by decide +kernel
theorem dX4_canGoOn_81 : decode cX4_canGoOn 81 = .ok (.aload_n 0, 1) := by decide +kernel
theorem dX4_canGoOn_82 : decode cX4_canGoOn 82 = .ok (.iload 4, 2) := by decide +kernel
theorem dX4_canGoOn_84 : decode cX4_canGoOn 84 = .ok (.iconst 1, 1) := by decide +kernel
theorem dX4_canGoOn_85 : decode cX4_canGoOn 85 = .ok (.iadd, 1) := by decide +kernel
theorem dX4_canGoOn_86 : decode cX4_canGoOn 86 = .ok (.aload_n 0, 1) := by decide +kernel
theorem dX4_canGoOn_87 : decode cX4_canGoOn 87 = .ok (.getfield 29, 3) := by decide +kernel
theorem dX4_canGoOn_90 : decode cX4_canGoOn 90 = .ok (.iload 4, 2) := by decide +kernel
theorem dX4_canGoOn_92 : decode cX4_canGoOn 92 = .ok (.iaload, 1) := by decide +kernel
theorem dX4_canGoOn_93 : decode cX4_canGoOn 93 = .ok (.aload_n 0, 1) := by decide +kernel
theorem dX4_canGoOn_94 : decode cX4_canGoOn 94 = .ok (.getfield 32, 3) := by decide +kernel
theorem dX4_canGoOn_97 : decode cX4_canGoOn 97 = .ok (.iload 4, 2) := by decide +kernel
theorem dX4_canGoOn_99 : decode cX4_canGoOn 99 = .ok (.iaload, 1) := by decide +kernel
theorem dX4_canGoOn_100 : decode cX4_canGoOn 100 = .ok (.iconst 1, 1) := by decide +kernel
theorem dX4_canGoOn_101 : decode cX4_canGoOn 101 = .ok (.aload_n 0, 1) := by decide +kernel
theorem dX4_canGoOn_102 : decode cX4_canGoOn 102 = .ok (.getfield 17, 3) := by decide +kernel
theorem dX4_canGoOn_105 : decode cX4_canGoOn 105 = .ok (.iload 6, 2) := by decide +kernel
theorem dX4_canGoOn_107 : decode cX4_canGoOn 107 = .ok (.iaload, 1) := by decide +kernel
theorem dX4_canGoOn_108 : decode cX4_canGoOn 108 = .ok (.ishl, 1) := by decide +kernel
theorem dX4_canGoOn_109 : decode cX4_canGoOn 109 = .ok (.ior, 1) := by decide +kernel
theorem dX4_canGoOn_110 : decode cX4_canGoOn 110 = .ok (.aload_n 0, 1) := by decide +kernel
theorem dX4_canGoOn_111 : decode cX4_canGoOn 111 = .ok (.getfield 35, 3) := by decide +kernel
theorem dX4_canGoOn_114 : decode cX4_canGoOn 114 = .ok (.iload 4, 2) := by decide +kernel
theorem dX4_canGoOn_116 : decode cX4_canGoOn 116 = .ok (.iaload, 1) := by decide +kernel
theorem dX4_canGoOn_117 : decode cX4_canGoOn 117 = .ok (.iconst 1, 1) := by decide +kernel
theorem dX4_canGoOn_118 : decode cX4_canGoOn 118 = .ok (.iload 6, 2) := by decide +kernel
theorem dX4_canGoOn_120 : decode cX4_canGoOn 120 = .ok (.ishl, 1) := by decide +kernel
theorem dX4_canGoOn_121 : decode cX4_canGoOn 121 = .ok (.ior, 1) := by decide +kernel
theorem dX4_canGoOn_122 : decode cX4_canGoOn 122 = .ok (.invokevirtual 87, 3) := by decide +kernel
theorem dX4_canGoOn_125 : decode cX4_canGoOn 125 = .ok (.istore 5, 2) := by decide +kernel
theorem dX4_canGoOn_127 : decode cX4_canGoOn 127 = .ok (.iinc 4 1, 3) := by decide +kernel
theorem dX4_canGoOn_130 : decode cX4_canGoOn 130 = .ok (.goto (-117), 3) := by decide +kernel
theorem dX4_canGoOn_133 : decode cX4_canGoOn 133 = .ok (.iload 5, 2) := by decide +kernel
theorem dX4_canGoOn_135 : decode cX4_canGoOn 135 = .ok (.ireturn, 1) := by decide +kernel
theorem dX4_isDone_0 : decode cX4_isDone 0 = .ok (.iload_n 2, 1) := by decide +kernel
theorem dX4_isDone_1 : decode cX4_isDone 1 = .ok (.istore 5, 2) := by decide +kernel
theorem dX4_isDone_3 : decode cX4_isDone 3 = .ok (.iload_n 3, 1) := by decide +kernel
theorem dX4_isDone_4 : decode cX4_isDone 4 = .ok (.istore 6, 2) := by decide +kernel
theorem dX4_isDone_6 : decode cX4_isDone 6 = .ok (.iload 5, 2) := by decide +kernel
theorem dX4_isDone_8 : decode cX4_isDone 8 = .ok (.aload_n 0, 1) := by decide +kernel
theorem dX4_isDone_9 : decode cX4_isDone 9 = .ok (.getfield 56, 3) := by decide +kernel
theorem dX4_isDone_12 : decode cX4_isDone 12 = .ok (.if_icmp .ge 40, 3) := by decide +kernel
theorem dX4_isDone_15 : decode cX4_isDone 15 = .ok (.iload 6, 2) := by decide +kernel
theorem dX4_isDone_17 : decode cX4_isDone 17 = .ok (.aload_n 0, 1) := by decide +kernel
theorem dX4_isDone_18 : decode cX4_isDone 18 = .ok (.invokevirtual 41, 3) := by decide +kernel
theorem dX4_isDone_21 : decode cX4_isDone 21 = .ok (.if_icmp .ne 31, 3) := by decide +kernel
theorem dX4_isDone_24 : decode cX4_isDone 24 = .ok (.iinc 5 1, 3) := by decide +kernel
theorem dX4_isDone_27 : decode cX4_isDone 27 = .ok (.iload 5, 2) := by decide +kernel
theorem dX4_isDone_29 : decode cX4_isDone 29 = .ok (.aload_n 0, 1) := by decide +kernel
theorem dX4_isDone_30 : decode cX4_isDone 30 = .ok (.getfield 56, 3) := by decide +kernel
theorem dX4_isDone_33 : decode cX4_isDone 33 = .ok (.if_icmp .ge 13, 3) := by decide +kernel
theorem dX4_isDone_36 : decode cX4_isDone 36 = .ok (.aload_n 0, 1) := by decide +kernel
theorem dX4_isDone_37 : decode cX4_isDone 37 = .ok (.getfield 20, 3) := by decide +kernel
theorem dX4_isDone_40 : decode cX4_isDone 40 = .ok (.iload 5, 2) := by decide +kernel
theorem dX4_isDone_42 : decode cX4_isDone 42 = .ok (.iaload, 1) := by decide +kernel
theorem dX4_isDone_43 : decode cX4_isDone 43 = .ok (.goto 4, 3) := by decide +kernel
theorem dX4_isDone_46 : decode cX4_isDone 46 = .ok (.iconst 0, 1) := by decide +kernel
theorem dX4_isDone_47 : decode cX4_isDone 47 = .ok (.istore 6, 2) := by decide +kernel
theorem dX4_isDone_49 : decode cX4_isDone 49 = .ok (.goto (-43), 3) := by decide +kernel
theorem dX4_isDone_52 : decode cX4_isDone 52 = .ok (.aload_n 0, 1) := by decide +kernel
theorem dX4_isDone_53 : decode cX4_isDone 53 = .ok (.getfield 29, 3) := by decide +kernel
theorem dX4_isDone_56 : decode cX4_isDone 56 = .ok (.iload_n 1, 1) := by decide +kernel
theorem dX4_isDone_57 : decode cX4_isDone 57 = .ok (.iload 5, 2) := by decide +kernel
theorem dX4_isDone_59 : decode cX4_isDone 59 = .ok (.iastore, 1) := by decide +kernel
theorem dX4_isDone_60 : decode cX4_isDone 60 = .ok (.aload_n 0, 1) := by decide +kernel
theorem dX4_isDone_61 : decode cX4_isDone 61 = .ok (.getfield 32, 3) := by decide +kernel
theorem dX4_isDone_64 : decode cX4_isDone 64 = .ok (.iload_n 1, 1) := by decide +kernel
theorem dX4_isDone_65 : decode cX4_isDone 65 = .ok (.iload 6, 2) := by decide +kernel
theorem dX4_isDone_67 : decode cX4_isDone 67 = .ok (.iastore, 1) := by decide +kernel
theorem dX4_isDone_68 : decode cX4_isDone 68 = .ok (.aload_n 0, 1) := by decide +kernel
theorem dX4_isDone_69 : decode cX4_isDone 69 = .ok (.getfield 35, 3) := by decide +kernel
theorem dX4_isDone_72 : decode cX4_isDone 72 = .ok (.iload_n 1, 1) := by decide +kernel
theorem dX4_isDone_73 : decode cX4_isDone 73 = .ok (.iload 4, 2) := by decide +kernel
theorem dX4_isDone_75 : decode cX4_isDone 75 = .ok (.iastore, 1) := by decide +kernel
theorem dX4_isDone_76 : decode cX4_isDone 76 = .ok (.aload_n 0, 1) := by decide +kernel
theorem dX4_isDone_77 : decode cX4_isDone 77 = .ok (.getfield 38, 3) := by decide +kernel
theorem dX4_isDone_80 : decode cX4_isDone 80 = .ok (.iload_n 1, 1) := by decide +kernel
theorem dX4_isDone_81 : decode cX4_isDone 81 = .ok (.iload 5, 2) := by decide +kernel
theorem dX4_isDone_83 : decode cX4_isDone 83 = .ok (.aload_n 0, 1) := by decide +kernel
theorem dX4_isDone_84 : decode cX4_isDone 84 = .ok (.getfield 56, 3) := by decide +kernel
theorem dX4_isDone_87 : decode cX4_isDone 87 = .ok (.if_icmp .ge 23, 3) := by decide +kernel
theorem dX4_isDone_90 : decode cX4_isDone 90 = .ok (.aload_n 0, 1) := by decide +kernel
theorem dX4_isDone_91 : decode cX4_isDone 91 = .ok (.iload 5, 2) := by decide +kernel
theorem dX4_isDone_93 : decode cX4_isDone 93 = .ok (.iload 6, 2) := by decide +kernel
theorem dX4_isDone_95 : decode cX4_isDone 95 = .ok (.iload 4, 2) := by decide +kernel
theorem dX4_isDone_97 : decode cX4_isDone 97 = .ok (.invokevirtual 83, 3) := by decide +kernel
theorem dX4_isDone_100 : decode cX4_isDone 100 = .ok (.ifCond .eq 10, 3) := by decide +kernel
theorem dX4_isDone_103 : decode cX4_isDone 103 = .ok (.aload_n 0, 1) := by decide +kernel
theorem dX4_isDone_104 : decode cX4_isDone 104 = .ok (.getfield 45, 3) := by decide +kernel
theorem dX4_isDone_107 : decode cX4_isDone 107 = .ok (.goto 4, 3) := by decide +kernel
theorem dX4_isDone_110 : decode cX4_isDone 110 = .ok (.iconst 0, 1) := by decide +kernel
theorem dX4_isDone_111 : decode cX4_isDone 111 = .ok (.iastore, 1) := by decide +kernel
theorem dX4_isDone_112 : decode cX4_isDone 112 = .ok (.iload 5, 2) := by decide +kernel
theorem dX4_isDone_114 : decode cX4_isDone 114 = .ok (.aload_n 0, 1) := by decide +kernel
theorem dX4_isDone_115 : decode cX4_isDone 115 = .ok (.getfield 56, 3) := by decide +kernel
theorem dX4_isDone_118 : decode cX4_isDone 118 = .ok (.if_icmp .ne 7, 3) := by decide +kernel
theorem dX4_isDone_121 : decode cX4_isDone 121 = .ok (.iconst 1, 1) := by decide +kernel
theorem dX4_isDone_122 : decode cX4_isDone 122 = .ok (.goto 4, 3) := by decide +kernel
theorem dX4_isDone_125 : decode cX4_isDone 125 = .ok (.iconst 0, 1) := by decide +kernel
theorem dX4_isDone_126 : decode cX4_isDone 126 = .ok (.ireturn, 1) := by decide +kernel
theorem dX4_isStopped_0 : decode cX4_isStopped 0 = .ok (.iconst 1, 1) := by decide +kernel
theorem dX4_isStopped_1 : decode cX4_isStopped 1 = .ok (.istore 4, 2) := by decide +kernel
theorem dX4_isStopped_3 : decode cX4_isStopped 3 = .ok (.iload 4, 2) := by decide +kernel
theorem dX4_isStopped_5 : decode cX4_isStopped 5 = .ok (.aload_n 0, 1) := by decide +kernel
theorem dX4_isStopped_6 : decode cX4_isStopped 6 = .ok (.invokevirtual 41, 3) := by decide +kernel
theorem dX4_isStopped_9 : decode cX4_isStopped 9 = .ok (.if_icmp .gt 81, 3) := by decide +kernel
theorem dX4_isStopped_12 : decode cX4_isStopped 12 = .ok (.iload_n 2, 1) := by decide +kernel
theorem dX4_isStopped_13 : decode cX4_isStopped 13 = .ok (.iload 4, 2) := by decide +kernel
theorem dX4_isStopped_15 : decode cX4_isStopped 15 = .ok (.iand, 1) := by decide +kernel
theorem dX4_isStopped_16 : decode cX4_isStopped 16 = .ok (.ifCond .ne 7, 3) := by decide +kernel
theorem dX4_isStopped_19 : decode cX4_isStopped 19 = .ok (.iconst 1, 1) := by decide +kernel
theorem dX4_isStopped_20 : decode cX4_isStopped 20 = .ok (.goto 4, 3) := by decide +kernel
theorem dX4_isStopped_23 : decode cX4_isStopped 23 = .ok (.iconst 0, 1) := by decide +kernel
theorem dX4_isStopped_24 : decode cX4_isStopped 24 = .ok (.istore 5, 2) := by decide +kernel
theorem dX4_isStopped_26 : decode cX4_isStopped 26 = .ok (.iload_n 1, 1) := by decide +kernel
theorem dX4_isStopped_27 : decode cX4_isStopped 27 = .ok (.iconst 1, 1) := by decide +kernel
theorem dX4_isStopped_28 : decode cX4_isStopped 28 = .ok (.iadd, 1) := by decide +kernel
theorem dX4_isStopped_29 : decode cX4_isStopped 29 = .ok (.istore 6, 2) := by decide +kernel
theorem dX4_isStopped_31 : decode cX4_isStopped 31 = .ok (.iload 6, 2) := by decide +kernel
theorem dX4_isStopped_33 : decode cX4_isStopped 33 = .ok (.aload_n 0, 1) := by decide +kernel
theorem dX4_isStopped_34 : decode cX4_isStopped 34 = .ok (.getfield 56, 3) := by decide +kernel
theorem dX4_isStopped_37 : decode cX4_isStopped 37 = .ok (.if_icmp .ge 33, 3) := by decide +kernel
theorem dX4_isStopped_40 : decode cX4_isStopped 40 = .ok (.aload_n 0, 1) := by decide +kernel
theorem dX4_isStopped_41 : decode cX4_isStopped 41 = .ok (.getfield 20, 3) := by decide +kernel
theorem dX4_isStopped_44 : decode cX4_isStopped 44 = .ok (.iload 6, 2) := by decide +kernel
theorem dX4_isStopped_46 : decode cX4_isStopped 46 = .ok (.iaload, 1) := by decide +kernel
theorem dX4_isStopped_47 : decode cX4_isStopped 47 = .ok (.iload 4, 2) := by decide +kernel
theorem dX4_isStopped_49 : decode cX4_isStopped 49 = .ok (.iand, 1) := by decide +kernel
theorem dX4_isStopped_50 : decode cX4_isStopped 50 = .ok (.ifCond .ne 10, 3) := by decide +kernel
theorem dX4_isStopped_53 : decode cX4_isStopped 53 = .ok (.iload 5, 2) := by decide +kernel
theorem dX4_isStopped_55 : decode cX4_isStopped 55 = .ok (.iconst 1, 1) := by decide +kernel
theorem dX4_isStopped_56 : decode cX4_isStopped 56 = .ok (.iadd, 1) := by decide +kernel
theorem dX4_isStopped_57 : decode cX4_isStopped 57 = .ok (.goto 5, 3) := by decide +kernel
theorem dX4_isStopped_60 : decode cX4_isStopped 60 = .ok (.iload 5, 2) := by decide +kernel
theorem dX4_isStopped_62 : decode cX4_isStopped 62 = .ok (.istore 5, 2) := by decide +kernel
theorem dX4_isStopped_64 : decode cX4_isStopped 64 = .ok (.iinc 6 1, 3) := by decide +kernel
theorem dX4_isStopped_67 : decode cX4_isStopped 67 = .ok (.goto (-36), 3) := by decide +kernel
theorem dX4_isStopped_70 : decode cX4_isStopped 70 = .ok (.aload_n 0, 1) := by decide +kernel
theorem dX4_isStopped_71 : decode cX4_isStopped 71 = .ok (.iload 4, 2) := by decide +kernel
theorem dX4_isStopped_73 : decode cX4_isStopped 73 = .ok (.iload_n 3, 1) := by decide +kernel
theorem dX4_isStopped_74 : decode cX4_isStopped 74 = .ok (.invokevirtual 70, 3) := by decide +kernel
theorem dX4_isStopped_77 : decode cX4_isStopped 77 = .ok (.iload 5, 2) := by decide +kernel
theorem dX4_isStopped_79 : decode cX4_isStopped 79 = .ok (.if_icmp .ge 5, 3) := by decide +kernel
theorem dX4_isStopped_82 : decode cX4_isStopped 82 = .ok (.iconst 1, 1) := by decide +kernel
theorem dX4_isStopped_83 : decode cX4_isStopped 83 = .ok (.ireturn, 1) := by decide +kernel
theorem dX4_isStopped_84 : decode cX4_isStopped 84 = .ok (.iinc 4 1, 3) := by decide +kernel
theorem dX4_isStopped_87 : decode cX4_isStopped 87 = .ok (.goto (-84), 3) := by decide +kernel
theorem dX4_isStopped_90 : decode cX4_isStopped 90 = .ok (.iconst 0, 1) := by decide +kernel
theorem dX4_isStopped_91 : decode cX4_isStopped 91 = .ok (.ireturn, 1) := by decide +kernel
theorem dX4_grows_0 : decode cX4_grows 0 = .ok (.iload_n 2, 1) := by decide +kernel
theorem dX4_grows_1 : decode cX4_grows 1 = .ok (.iload_n 3, 1) := by decide +kernel
theorem dX4_grows_2 : decode cX4_grows 2 = .ok (.invokestatic 48, 3) := by decide +kernel
theorem dX4_grows_5 : decode cX4_grows 5 = .ok (.ifCond .ne 33, 3) := by decide +kernel
theorem dX4_grows_8 : decode cX4_grows 8 = .ok (.iload_n 1, 1) := by decide +kernel
theorem dX4_grows_9 : decode cX4_grows 9 = .ok (.aload_n 0, 1) := by decide +kernel
theorem dX4_grows_10 : decode cX4_grows 10 = .ok (.getfield 13, 3) := by decide +kernel
theorem dX4_grows_13 : decode cX4_grows 13 = .ok (.iload_n 3, 1) := by decide +kernel
theorem dX4_grows_14 : decode cX4_grows 14 = .ok (.iaload, 1) := by decide +kernel
theorem dX4_grows_15 : decode cX4_grows 15 = .ok (.invokestatic 48, 3) := by decide +kernel
theorem dX4_grows_18 : decode cX4_grows 18 = .ok (.ifCond .eq 20, 3) := by decide +kernel
theorem dX4_grows_21 : decode cX4_grows 21 = .ok (.iload_n 1, 1) := by decide +kernel
theorem dX4_grows_22 : decode cX4_grows 22 = .ok (.aload_n 0, 1) := by decide +kernel
theorem dX4_grows_23 : decode cX4_grows 23 = .ok (.getfield 17, 3) := by decide +kernel
theorem dX4_grows_26 : decode cX4_grows 26 = .ok (.iload_n 3, 1) := by decide +kernel
theorem dX4_grows_27 : decode cX4_grows 27 = .ok (.iaload, 1) := by decide +kernel
theorem dX4_grows_28 : decode cX4_grows 28 = .ok (.invokestatic 48, 3) := by decide +kernel
theorem dX4_grows_31 : decode cX4_grows 31 = .ok (.ifCond .ne 7, 3) := by decide +kernel
theorem dX4_grows_34 : decode cX4_grows 34 = .ok (.iconst 1, 1) := by decide +kernel
theorem dX4_grows_35 : decode cX4_grows 35 = .ok (.goto 4, 3) := by decide +kernel
theorem dX4_grows_38 : decode cX4_grows 38 = .ok (.iconst 0, 1) := by decide +kernel
theorem dX4_grows_39 : decode cX4_grows 39 = .ok (.ireturn, 1) := by decide +kernel
theorem dX4_owner_0 : decode cX4_owner 0 = .ok (.aload_n 0, 1) := by decide +kernel
theorem dX4_owner_1 : decode cX4_owner 1 = .ok (.iload_n 1, 1) := by decide +kernel
theorem dX4_owner_2 : decode cX4_owner 2 = .ok (.invokevirtual 59, 3) := by decide +kernel
theorem dX4_owner_5 : decode cX4_owner 5 = .ok (.ifCond .eq 19, 3) := by decide +kernel
theorem dX4_owner_8 : decode cX4_owner 8 = .ok (.aload_n 0, 1) := by decide +kernel
theorem dX4_owner_9 : decode cX4_owner 9 = .ok (.invokevirtual 101, 3) := by decide +kernel
theorem dX4_owner_12 : decode cX4_owner 12 = .ok (.ifCond .eq 12, 3) := by decide +kernel
theorem dX4_owner_15 : decode cX4_owner 15 = .ok (.aload_n 0, 1) := by decide +kernel
theorem dX4_owner_16 : decode cX4_owner 16 = .ok (.getfield 23, 3) := by decide +kernel
theorem dX4_owner_19 : decode cX4_owner 19 = .ok (.iload_n 1, 1) := by decide +kernel
theorem dX4_owner_20 : decode cX4_owner 20 = .ok (.iaload, 1) := by decide +kernel
theorem dX4_owner_21 : decode cX4_owner 21 = .ok (.goto 4, 3) := by decide +kernel
theorem dX4_owner_24 : decode cX4_owner 24 = .ok (.iconst (-1), 1) := by decide +kernel
theorem dX4_owner_25 : decode cX4_owner 25 = .ok (.ireturn, 1) := by decide +kernel
theorem dX4_pack_0 : decode cX4_pack 0 = .ok (.iconst 0, 1) := by decide +kernel
theorem dX4_pack_1 : decode cX4_pack 1 = .ok (.istore_n 1, 1) := by decide +kernel
theorem dX4_pack_2 : decode cX4_pack 2 = .ok (.iload_n 1, 1) := by decide +kernel
theorem dX4_pack_3 : decode cX4_pack 3 = .ok (.bipush 14, 2) := by decide +kernel
theorem dX4_pack_5 : decode cX4_pack 5 = .ok (.if_icmp .ge 16, 3) := by decide +kernel
theorem dX4_pack_8 : decode cX4_pack 8 = .ok (.aload_n 0, 1) := by decide +kernel
theorem dX4_pack_9 : decode cX4_pack 9 = .ok (.getfield 23, 3) := by decide +kernel
theorem dX4_pack_12 : decode cX4_pack 12 = .ok (.iload_n 1, 1) := by decide +kernel
theorem dX4_pack_13 : decode cX4_pack 13 = .ok (.iconst (-1), 1) := by decide +kernel
theorem dX4_pack_14 : decode cX4_pack 14 = .ok (.iastore, 1) := by decide +kernel
theorem dX4_pack_15 : decode cX4_pack 15 = .ok (.iinc 1 1, 3) := by decide +kernel
theorem dX4_pack_18 : decode cX4_pack 18 = .ok (.goto (-16), 3) := by decide +kernel
theorem dX4_pack_21 : decode cX4_pack 21 = .ok (.iconst 0, 1) := by decide +kernel
theorem dX4_pack_22 : decode cX4_pack 22 = .ok (.istore_n 1, 1) := by decide +kernel
theorem dX4_pack_23 : decode cX4_pack 23 = .ok (.iload_n 1, 1) := by decide +kernel
theorem dX4_pack_24 : decode cX4_pack 24 = .ok (.bipush 21, 2) := by decide +kernel
theorem dX4_pack_26 : decode cX4_pack 26 = .ok (.if_icmp .ge 16, 3) := by decide +kernel
theorem dX4_pack_29 : decode cX4_pack 29 = .ok (.aload_n 0, 1) := by decide +kernel
theorem dX4_pack_30 : decode cX4_pack 30 = .ok (.getfield 26, 3) := by decide +kernel
theorem dX4_pack_33 : decode cX4_pack 33 = .ok (.iload_n 1, 1) := by decide +kernel
theorem dX4_pack_34 : decode cX4_pack 34 = .ok (.iconst (-1), 1) := by decide +kernel
theorem dX4_pack_35 : decode cX4_pack 35 = .ok (.iastore, 1) := by decide +kernel
theorem dX4_pack_36 : decode cX4_pack 36 = .ok (.iinc 1 1, 3) := by decide +kernel
theorem dX4_pack_39 : decode cX4_pack 39 = .ok (.goto (-16), 3) := by decide +kernel
theorem dX4_pack_42 : decode cX4_pack 42 = .ok (.aload_n 0, 1) := by decide +kernel
theorem dX4_pack_43 : decode cX4_pack 43 = .ok (.invokevirtual 97, 3) := by decide +kernel
theorem dX4_pack_46 : decode cX4_pack 46 = .ok (.ifCond .ne 5, 3) := by decide +kernel
theorem dX4_pack_49 : decode cX4_pack 49 = .ok (.iconst 0, 1) := by decide +kernel
theorem dX4_pack_50 : decode cX4_pack 50 = .ok (.ireturn, 1) := by decide +kernel
theorem dX4_pack_51 : decode cX4_pack 51 = .ok (.iconst 0, 1) := by decide +kernel
theorem dX4_pack_52 : decode cX4_pack 52 = .ok (.istore_n 1, 1) := by decide +kernel
theorem dX4_pack_53 : decode cX4_pack 53 = .ok (.iconst 0, 1) := by decide +kernel
theorem dX4_pack_54 : decode cX4_pack 54 = .ok (.istore_n 2, 1) := by decide +kernel
theorem dX4_pack_55 : decode cX4_pack 55 = .ok (.iload_n 2, 1) := by decide +kernel
theorem dX4_pack_56 : decode cX4_pack 56 = .ok (.aload_n 0, 1) := by decide +kernel
theorem dX4_pack_57 : decode cX4_pack 57 = .ok (.getfield 56, 3) := by decide +kernel
theorem dX4_pack_60 : decode cX4_pack 60 = .ok (.if_icmp .ge 118, 3) := by decide +kernel
theorem dX4_pack_63 : decode cX4_pack 63 = .ok (.aload_n 0, 1) := by decide +kernel
theorem dX4_pack_64 : decode cX4_pack 64 = .ok (.getfield 20, 3) := by decide +kernel
theorem dX4_pack_67 : decode cX4_pack 67 = .ok (.iload_n 2, 1) := by decide +kernel
theorem dX4_pack_68 : decode cX4_pack 68 = .ok (.iaload, 1) := by decide +kernel
theorem dX4_pack_69 : decode cX4_pack 69 = .ok (.istore_n 3, 1) := by decide +kernel
theorem dX4_pack_70 : decode cX4_pack 70 = .ok (.iload_n 3, 1) := by decide +kernel
theorem dX4_pack_71 : decode cX4_pack 71 = .ok (.aload_n 0, 1) := by decide +kernel
theorem dX4_pack_72 : decode cX4_pack 72 = .ok (.invokevirtual 41, 3) := by decide +kernel
theorem dX4_pack_75 : decode cX4_pack 75 = .ok (.if_icmp .eq 97, 3) := by decide +kernel
theorem dX4_pack_78 : decode cX4_pack 78 = .ok (.iconst 0, 1) := by decide +kernel
theorem dX4_pack_79 : decode cX4_pack 79 = .ok (.istore 4, 2) := by decide +kernel
theorem dX4_pack_81 : decode cX4_pack 81 = .ok (.aload_n 0, 1) := by decide +kernel
theorem dX4_pack_82 : decode cX4_pack 82 = .ok (.iload_n 3, 1) := by decide +kernel
theorem dX4_pack_83 : decode cX4_pack 83 = .ok (.iload_n 1, 1) := by decide +kernel
theorem dX4_pack_84 : decode cX4_pack 84 = .ok (.iload 4, 2) := by decide +kernel
theorem dX4_pack_86 : decode cX4_pack 86 = .ok (.invokevirtual 91, 3) := by decide +kernel
theorem dX4_pack_89 : decode cX4_pack 89 = .ok (.ifCond .eq 28, 3) := by decide +kernel
theorem dX4_pack_92 : decode cX4_pack 92 = .ok (.aload_n 0, 1) := by decide +kernel
theorem dX4_pack_93 : decode cX4_pack 93 = .ok (.iload_n 2, 1) := by decide +kernel
theorem dX4_pack_94 : decode cX4_pack 94 = .ok (.iload_n 3, 1) := by decide +kernel
theorem dX4_pack_95 : decode cX4_pack 95 = .ok (.iconst 1, 1) := by decide +kernel
theorem dX4_pack_96 : decode cX4_pack 96 = .ok (.aload_n 0, 1) := by decide +kernel
theorem dX4_pack_97 : decode cX4_pack 97 = .ok (.getfield 17, 3) := by decide +kernel
theorem dX4_pack_100 : decode cX4_pack 100 = .ok (.iload 4, 2) := by decide +kernel
theorem dX4_pack_102 : decode cX4_pack 102 = .ok (.iaload, 1) := by decide +kernel
theorem dX4_pack_103 : decode cX4_pack 103 = .ok (.ishl, 1) := by decide +kernel
theorem dX4_pack_104 : decode cX4_pack 104 = .ok (.ior, 1) := by decide +kernel
theorem dX4_pack_105 : decode cX4_pack 105 = .ok (.iload_n 1, 1) := by decide +kernel
theorem dX4_pack_106 : decode cX4_pack 106 = .ok (.iconst 1, 1) := by decide +kernel
theorem dX4_pack_107 : decode cX4_pack 107 = .ok (.iload 4, 2) := by decide +kernel
theorem dX4_pack_109 : decode cX4_pack 109 = .ok (.ishl, 1) := by decide +kernel
theorem dX4_pack_110 : decode cX4_pack 110 = .ok (.ior, 1) := by decide +kernel
theorem dX4_pack_111 : decode cX4_pack 111 = .ok (.invokevirtual 94, 3) := by decide +kernel
theorem dX4_pack_114 : decode cX4_pack 114 = .ok (.ifCond .ne 9, 3) := by decide +kernel
theorem dX4_pack_117 : decode cX4_pack 117 = .ok (.iinc 4 1, 3) := by decide +kernel
theorem dX4_pack_120 : decode cX4_pack 120 = .ok (.goto (-39), 3) := by decide +kernel
theorem dX4_pack_123 : decode cX4_pack 123 = .ok (.aload_n 0, 1) := by decide +kernel
theorem dX4_pack_124 : decode cX4_pack 124 = .ok (.getfield 23, 3) := by decide +kernel
theorem dX4_pack_127 : decode cX4_pack 127 = .ok (.iload 4, 2) := by decide +kernel
theorem dX4_pack_129 : decode cX4_pack 129 = .ok (.iload_n 2, 1) := by decide +kernel
theorem dX4_pack_130 : decode cX4_pack 130 = .ok (.iastore, 1) := by decide +kernel
theorem dX4_pack_131 : decode cX4_pack 131 = .ok (.aload_n 0, 1) := by decide +kernel
theorem dX4_pack_132 : decode cX4_pack 132 = .ok (.getfield 26, 3) := by decide +kernel
theorem dX4_pack_135 : decode cX4_pack 135 = .ok (.bipush 7, 2) := by decide +kernel
theorem dX4_pack_137 : decode cX4_pack 137 = .ok (.iload_n 2, 1) := by decide +kernel
theorem dX4_pack_138 : decode cX4_pack 138 = .ok (.imul, 1) := by decide +kernel
theorem dX4_pack_139 : decode cX4_pack 139 = .ok (.aload_n 0, 1) := by decide +kernel
theorem dX4_pack_140 : decode cX4_pack 140 = .ok (.getfield 17, 3) := by decide +kernel
theorem dX4_pack_143 : decode cX4_pack 143 = .ok (.iload 4, 2) := by decide +kernel
theorem dX4_pack_145 : decode cX4_pack 145 = .ok (.iaload, 1) := by decide +kernel
theorem dX4_pack_146 : decode cX4_pack 146 = .ok (.iadd, 1) := by decide +kernel
theorem dX4_pack_147 : decode cX4_pack 147 = .ok (.iload 4, 2) := by decide +kernel
theorem dX4_pack_149 : decode cX4_pack 149 = .ok (.iastore, 1) := by decide +kernel
theorem dX4_pack_150 : decode cX4_pack 150 = .ok (.iload_n 3, 1) := by decide +kernel
theorem dX4_pack_151 : decode cX4_pack 151 = .ok (.iconst 1, 1) := by decide +kernel
theorem dX4_pack_152 : decode cX4_pack 152 = .ok (.aload_n 0, 1) := by decide +kernel
theorem dX4_pack_153 : decode cX4_pack 153 = .ok (.getfield 17, 3) := by decide +kernel
theorem dX4_pack_156 : decode cX4_pack 156 = .ok (.iload 4, 2) := by decide +kernel
theorem dX4_pack_158 : decode cX4_pack 158 = .ok (.iaload, 1) := by decide +kernel
theorem dX4_pack_159 : decode cX4_pack 159 = .ok (.ishl, 1) := by decide +kernel
theorem dX4_pack_160 : decode cX4_pack 160 = .ok (.ior, 1) := by decide +kernel
theorem dX4_pack_161 : decode cX4_pack 161 = .ok (.istore_n 3, 1) := by decide +kernel
theorem dX4_pack_162 : decode cX4_pack 162 = .ok (.iload_n 1, 1) := by decide +kernel
theorem dX4_pack_163 : decode cX4_pack 163 = .ok (.iconst 1, 1) := by decide +kernel
theorem dX4_pack_164 : decode cX4_pack 164 = .ok (.iload 4, 2) := by decide +kernel
theorem dX4_pack_166 : decode cX4_pack 166 = .ok (.ishl, 1) := by decide +kernel
theorem dX4_pack_167 : decode cX4_pack 167 = .ok (.ior, 1) := by decide +kernel
theorem dX4_pack_168 : decode cX4_pack 168 = .ok (.istore_n 1, 1) := by decide +kernel
theorem dX4_pack_169 : decode cX4_pack 169 = .ok (.goto (-99), 3) := by decide +kernel
theorem dX4_pack_172 : decode cX4_pack 172 = .ok (.iinc 2 1, 3) := by decide +kernel
theorem dX4_pack_175 : decode cX4_pack 175 = .ok (.goto (-120), 3) := by decide +kernel
theorem dX4_pack_178 : decode cX4_pack 178 = .ok (.iconst 1, 1) := by decide +kernel
theorem dX4_pack_179 : decode cX4_pack 179 = .ok (.ireturn, 1) := by decide +kernel
theorem dX4_way_0 : decode cX4_way 0 = .ok (.iload_n 1, 1) := by decide +kernel
theorem dX4_way_1 : decode cX4_way 1 = .ok (.ifCond .lt 27, 3) := by decide +kernel
theorem dX4_way_4 : decode cX4_way 4 = .ok (.iload_n 1, 1) := by decide +kernel
theorem dX4_way_5 : decode cX4_way 5 = .ok (.aload_n 0, 1) := by decide +kernel
theorem dX4_way_6 : decode cX4_way 6 = .ok (.getfield 56, 3) := by decide +kernel
theorem dX4_way_9 : decode cX4_way 9 = .ok (.if_icmp .ge 19, 3) := by decide +kernel
theorem dX4_way_12 : decode cX4_way 12 = .ok (.iload_n 2, 1) := by decide +kernel
theorem dX4_way_13 : decode cX4_way 13 = .ok (.ifCond .lt 15, 3) := by decide +kernel
theorem dX4_way_16 : decode cX4_way 16 = .ok (.iload_n 2, 1) := by decide +kernel
theorem dX4_way_17 : decode cX4_way 17 = .ok (.aload_n 0, 1) := by decide +kernel
theorem dX4_way_18 : decode cX4_way 18 = .ok (.getfield 7, 3) := by decide +kernel
theorem dX4_way_21 : decode cX4_way 21 = .ok (.if_icmp .ge 7, 3) := by decide +kernel
theorem dX4_way_24 : decode cX4_way 24 = .ok (.iconst 1, 1) := by decide +kernel
theorem dX4_way_25 : decode cX4_way 25 = .ok (.goto 4, 3) := by decide +kernel
theorem dX4_way_28 : decode cX4_way 28 = .ok (.iconst 0, 1) := by decide +kernel
theorem dX4_way_29 : decode cX4_way 29 = .ok (.istore_n 3, 1) := by decide +kernel
theorem dX4_way_30 : decode cX4_way 30 = .ok (.iload_n 3, 1) := by decide +kernel
theorem dX4_way_31 : decode cX4_way 31 = .ok (.ifCond .eq 24, 3) := by decide +kernel
theorem dX4_way_34 : decode cX4_way 34 = .ok (.aload_n 0, 1) := by decide +kernel
theorem dX4_way_35 : decode cX4_way 35 = .ok (.invokevirtual 101, 3) := by decide +kernel
theorem dX4_way_38 : decode cX4_way 38 = .ok (.ifCond .eq 17, 3) := by decide +kernel
theorem dX4_way_41 : decode cX4_way 41 = .ok (.aload_n 0, 1) := by decide +kernel
theorem dX4_way_42 : decode cX4_way 42 = .ok (.getfield 26, 3) := by decide +kernel
theorem dX4_way_45 : decode cX4_way 45 = .ok (.bipush 7, 2) := by decide +kernel
theorem dX4_way_47 : decode cX4_way 47 = .ok (.iload_n 1, 1) := by decide +kernel
theorem dX4_way_48 : decode cX4_way 48 = .ok (.imul, 1) := by decide +kernel
theorem dX4_way_49 : decode cX4_way 49 = .ok (.iload_n 2, 1) := by decide +kernel
theorem dX4_way_50 : decode cX4_way 50 = .ok (.iadd, 1) := by decide +kernel
theorem dX4_way_51 : decode cX4_way 51 = .ok (.iaload, 1) := by decide +kernel
theorem dX4_way_52 : decode cX4_way 52 = .ok (.goto 4, 3) := by decide +kernel
theorem dX4_way_55 : decode cX4_way 55 = .ok (.iconst (-1), 1) := by decide +kernel
theorem dX4_way_56 : decode cX4_way 56 = .ok (.ireturn, 1) := by decide +kernel
theorem dX4_spare_0 : decode cX4_spare 0 = .ok (.aload_n 0, 1) := by decide +kernel
theorem dX4_spare_1 : decode cX4_spare 1 = .ok (.iload_n 1, 1) := by decide +kernel
theorem dX4_spare_2 : decode cX4_spare 2 = .ok (.invokevirtual 59, 3) := by decide +kernel
theorem dX4_spare_5 : decode cX4_spare 5 = .ok (.ifCond .ne 5, 3) := by decide +kernel
theorem dX4_spare_8 : decode cX4_spare 8 = .ok (.iconst 0, 1) := by decide +kernel
theorem dX4_spare_9 : decode cX4_spare 9 = .ok (.ireturn, 1) := by decide +kernel
theorem dX4_spare_10 : decode cX4_spare 10 = .ok (.aload_n 0, 1) := by decide +kernel
theorem dX4_spare_11 : decode cX4_spare 11 = .ok (.getfield 13, 3) := by decide +kernel
theorem dX4_spare_14 : decode cX4_spare 14 = .ok (.iload_n 1, 1) := by decide +kernel
theorem dX4_spare_15 : decode cX4_spare 15 = .ok (.iaload, 1) := by decide +kernel
theorem dX4_spare_16 : decode cX4_spare 16 = .ok (.istore_n 2, 1) := by decide +kernel
theorem dX4_spare_17 : decode cX4_spare 17 = .ok (.aload_n 0, 1) := by decide +kernel
theorem dX4_spare_18 : decode cX4_spare 18 = .ok (.getfield 17, 3) := by decide +kernel
theorem dX4_spare_21 : decode cX4_spare 21 = .ok (.iload_n 1, 1) := by decide +kernel
theorem dX4_spare_22 : decode cX4_spare 22 = .ok (.iaload, 1) := by decide +kernel
theorem dX4_spare_23 : decode cX4_spare 23 = .ok (.istore_n 3, 1) := by decide +kernel
theorem dX4_spare_24 : decode cX4_spare 24 = .ok (.aload_n 0, 1) := by decide +kernel
theorem dX4_spare_25 : decode cX4_spare 25 = .ok (.iload_n 1, 1) := by decide +kernel
theorem dX4_spare_26 : decode cX4_spare 26 = .ok (.invokevirtual 63, 3) := by decide +kernel
theorem dX4_spare_29 : decode cX4_spare 29 = .ok (.aload_n 0, 1) := by decide +kernel
theorem dX4_spare_30 : decode cX4_spare 30 = .ok (.invokevirtual 97, 3) := by decide +kernel
theorem dX4_spare_33 : decode cX4_spare 33 = .ok (.istore 4, 2) := by decide +kernel
theorem dX4_spare_35 : decode cX4_spare 35 = .ok (.aload_n 0, 1) := by decide +kernel
theorem dX4_spare_36 : decode cX4_spare 36 = .ok (.getfield 45, 3) := by decide +kernel
theorem dX4_spare_39 : decode cX4_spare 39 = .ok (.istore 5, 2) := by decide +kernel
theorem dX4_spare_41 : decode cX4_spare 41 = .ok (.iload 5, 2) := by decide +kernel
theorem dX4_spare_43 : decode cX4_spare 43 = .ok (.iload_n 1, 1) := by decide +kernel
theorem dX4_spare_44 : decode cX4_spare 44 = .ok (.if_icmp .le 41, 3) := by decide +kernel
theorem dX4_spare_47 : decode cX4_spare 47 = .ok (.aload_n 0, 1) := by decide +kernel
theorem dX4_spare_48 : decode cX4_spare 48 = .ok (.getfield 13, 3) := by decide +kernel
theorem dX4_spare_51 : decode cX4_spare 51 = .ok (.iload 5, 2) := by decide +kernel
theorem dX4_spare_53 : decode cX4_spare 53 = .ok (.aload_n 0, 1) := by decide +kernel
theorem dX4_spare_54 : decode cX4_spare 54 = .ok (.getfield 13, 3) := by decide +kernel
theorem dX4_spare_57 : decode cX4_spare 57 = .ok (.iload 5, 2) := by decide +kernel
theorem dX4_spare_59 : decode cX4_spare 59 = .ok (.iconst 1, 1) := by decide +kernel
theorem dX4_spare_60 : decode cX4_spare 60 = .ok (.isub, 1) := by decide +kernel
theorem dX4_spare_61 : decode cX4_spare 61 = .ok (.iaload, 1) := by decide +kernel
theorem dX4_spare_62 : decode cX4_spare 62 = .ok (.iastore, 1) := by decide +kernel
theorem dX4_spare_63 : decode cX4_spare 63 = .ok (.aload_n 0, 1) := by decide +kernel
theorem dX4_spare_64 : decode cX4_spare 64 = .ok (.getfield 17, 3) := by decide +kernel
theorem dX4_spare_67 : decode cX4_spare 67 = .ok (.iload 5, 2) := by decide +kernel
theorem dX4_spare_69 : decode cX4_spare 69 = .ok (.aload_n 0, 1) := by decide +kernel
theorem dX4_spare_70 : decode cX4_spare 70 = .ok (.getfield 17, 3) := by decide +kernel
theorem dX4_spare_73 : decode cX4_spare 73 = .ok (.iload 5, 2) := by decide +kernel
theorem dX4_spare_75 : decode cX4_spare 75 = .ok (.iconst 1, 1) := by decide +kernel
theorem dX4_spare_76 : decode cX4_spare 76 = .ok (.isub, 1) := by decide +kernel
theorem dX4_spare_77 : decode cX4_spare 77 = .ok (.iaload, 1) := by decide +kernel
theorem dX4_spare_78 : decode cX4_spare 78 = .ok (.iastore, 1) := by decide +kernel
theorem dX4_spare_79 : decode cX4_spare 79 = .ok (.iinc 5 (-1), 3) := by decide +kernel
theorem dX4_spare_82 : decode cX4_spare 82 = .ok (.goto (-41), 3) := by decide +kernel
theorem dX4_spare_85 : decode cX4_spare 85 = .ok (.aload_n 0, 1) := by decide +kernel
theorem dX4_spare_86 : decode cX4_spare 86 = .ok (.getfield 13, 3) := by decide +kernel
theorem dX4_spare_89 : decode cX4_spare 89 = .ok (.iload_n 1, 1) := by decide +kernel
theorem dX4_spare_90 : decode cX4_spare 90 = .ok (.iload_n 2, 1) := by decide +kernel
theorem dX4_spare_91 : decode cX4_spare 91 = .ok (.iastore, 1) := by decide +kernel
theorem dX4_spare_92 : decode cX4_spare 92 = .ok (.aload_n 0, 1) := by decide +kernel
theorem dX4_spare_93 : decode cX4_spare 93 = .ok (.getfield 17, 3) := by decide +kernel
theorem dX4_spare_96 : decode cX4_spare 96 = .ok (.iload_n 1, 1) := by decide +kernel
theorem dX4_spare_97 : decode cX4_spare 97 = .ok (.iload_n 3, 1) := by decide +kernel
theorem dX4_spare_98 : decode cX4_spare 98 = .ok (.iastore, 1) := by decide +kernel
theorem dX4_spare_99 : decode cX4_spare 99 = .ok (.aload_n 0, 1) := by decide +kernel
theorem dX4_spare_100 : decode cX4_spare 100 = .ok (.dup, 1) := by decide +kernel
theorem dX4_spare_101 : decode cX4_spare 101 = .ok (.getfield 45, 3) := by decide +kernel
theorem dX4_spare_104 : decode cX4_spare 104 = .ok (.iconst 1, 1) := by decide +kernel
theorem dX4_spare_105 : decode cX4_spare 105 = .ok (.iadd, 1) := by decide +kernel
theorem dX4_spare_106 : decode cX4_spare 106 = .ok (.putfield 45, 3) := by decide +kernel
theorem dX4_spare_109 : decode cX4_spare 109 = .ok (.iload 4, 2) := by decide +kernel
theorem dX4_spare_111 : decode cX4_spare 111 = .ok (.ireturn, 1) := by decide +kernel
theorem dX4_most_0 : decode cX4_most 0 = .ok (.iload_n 1, 1) := by decide +kernel
theorem dX4_most_1 : decode cX4_most 1 = .ok (.ifCond .eq 11, 3) := by decide +kernel
theorem dX4_most_4 : decode cX4_most 4 = .ok (.aload_n 0, 1) := by decide +kernel
theorem dX4_most_5 : decode cX4_most 5 = .ok (.iload_n 1, 1) := by decide +kernel
theorem dX4_most_6 : decode cX4_most 6 = .ok (.invokevirtual 67, 3) := by decide +kernel
theorem dX4_most_9 : decode cX4_most 9 = .ok (.ifCond .ne 5, 3) := by decide +kernel
theorem dX4_most_12 : decode cX4_most 12 = .ok (.iconst (-1), 1) := by decide +kernel
theorem dX4_most_13 : decode cX4_most 13 = .ok (.ireturn, 1) := by decide +kernel
theorem dX4_most_14 : decode cX4_most 14 = .ok (.bipush 99, 2) := by decide +kernel
theorem dX4_most_16 : decode cX4_most 16 = .ok (.istore_n 2, 1) := by decide +kernel
theorem dX4_most_17 : decode cX4_most 17 = .ok (.iconst 1, 1) := by decide +kernel
theorem dX4_most_18 : decode cX4_most 18 = .ok (.istore_n 3, 1) := by decide +kernel
theorem dX4_most_19 : decode cX4_most 19 = .ok (.iload_n 3, 1) := by decide +kernel
theorem dX4_most_20 : decode cX4_most 20 = .ok (.aload_n 0, 1) := by decide +kernel
theorem dX4_most_21 : decode cX4_most 21 = .ok (.invokevirtual 41, 3) := by decide +kernel
theorem dX4_most_24 : decode cX4_most 24 = .ok (.if_icmp .gt 35, 3) := by decide +kernel
theorem dX4_most_27 : decode cX4_most 27 = .ok (.aload_n 0, 1) := by decide +kernel
theorem dX4_most_28 : decode cX4_most 28 = .ok (.iload_n 3, 1) := by decide +kernel
theorem dX4_most_29 : decode cX4_most 29 = .ok (.invokevirtual 74, 3) := by decide +kernel
theorem dX4_most_32 : decode cX4_most 32 = .ok (.istore 4, 2) := by decide +kernel
theorem dX4_most_34 : decode cX4_most 34 = .ok (.iload_n 3, 1) := by decide +kernel
theorem dX4_most_35 : decode cX4_most 35 = .ok (.iload_n 1, 1) := by decide +kernel
theorem dX4_most_36 : decode cX4_most 36 = .ok (.iand, 1) := by decide +kernel
theorem dX4_most_37 : decode cX4_most 37 = .ok (.ifCond .ne 14, 3) := by decide +kernel
theorem dX4_most_40 : decode cX4_most 40 = .ok (.iload 4, 2) := by decide +kernel
theorem dX4_most_42 : decode cX4_most 42 = .ok (.iload_n 2, 1) := by decide +kernel
theorem dX4_most_43 : decode cX4_most 43 = .ok (.if_icmp .ge 8, 3) := by decide +kernel
theorem dX4_most_46 : decode cX4_most 46 = .ok (.iload 4, 2) := by decide +kernel
theorem dX4_most_48 : decode cX4_most 48 = .ok (.goto 4, 3) := by decide +kernel
theorem dX4_most_51 : decode cX4_most 51 = .ok (.iload_n 2, 1) := by decide +kernel
theorem dX4_most_52 : decode cX4_most 52 = .ok (.istore_n 2, 1) := by decide +kernel
theorem dX4_most_53 : decode cX4_most 53 = .ok (.iinc 3 1, 3) := by decide +kernel
theorem dX4_most_56 : decode cX4_most 56 = .ok (.goto (-37), 3) := by decide +kernel
theorem dX4_most_59 : decode cX4_most 59 = .ok (.iload_n 2, 1) := by decide +kernel
theorem dX4_most_60 : decode cX4_most 60 = .ok (.ireturn, 1) := by decide +kernel
end
section
theorem dL_law_0 : decode cL_law 0 = .ok (.new 7, 3) := by decide +kernel
theorem dL_law_3 : decode cL_law 3 = .ok (.dup, 1) := by decide +kernel
theorem dL_law_4 : decode cL_law 4 = .ok (.invokespecial 9, 3) := by decide +kernel
theorem dL_law_7 : decode cL_law 7 = .ok (.astore_n 1, 1) := by decide +kernel
theorem dL_law_8 : decode cL_law 8 = .ok (.new 10, 3) := by decide +kernel
theorem dL_law_11 : decode cL_law 11 = .ok (.dup, 1) := by decide +kernel
theorem dL_law_12 : decode cL_law 12 = .ok (.invokespecial 12, 3) := by decide +kernel
theorem dL_law_15 : decode cL_law 15 = .ok (.astore_n 2, 1) := by decide +kernel
theorem dL_law_16 : decode cL_law 16 = .ok (.iconst 0, 1) := by decide +kernel
theorem dL_law_17 : decode cL_law 17 = .ok (.istore_n 3, 1) := by decide +kernel
theorem dL_law_18 : decode cL_law 18 = .ok (.iload_n 3, 1) := by decide +kernel
theorem dL_law_19 : decode cL_law 19 = .ok (.aload_n 0, 1) := by decide +kernel
theorem dL_law_20 : decode cL_law 20 = .ok (.arraylength, 1) := by decide +kernel
theorem dL_law_21 : decode cL_law 21 = .ok (.iconst 3, 1) := by decide +kernel
theorem dL_law_22 : decode cL_law 22 = .ok (.isub, 1) := by decide +kernel
theorem dL_law_23 : decode cL_law 23 = .ok (.if_icmp .gt 436, 3) := by decide +kernel
theorem dL_law_26 : decode cL_law 26 = .ok (.aload_n 0, 1) := by decide +kernel
theorem dL_law_27 : decode cL_law 27 = .ok (.iload_n 3, 1) := by decide +kernel
theorem dL_law_28 : decode cL_law 28 = .ok (.iaload, 1) := by decide +kernel
theorem dL_law_29 : decode cL_law 29 = .ok (.bipush 15, 2) := by decide +kernel
theorem dL_law_31 : decode cL_law 31 = .ok (.iand, 1) := by decide +kernel
theorem dL_law_32 : decode cL_law 32 = .ok (.tableswitch 421 0 14 #[76, 99, 132, 155, 178, 191, 214, 247, 270, 293, 306, 319, 342, 375, 398], 76) := by decide +kernel
theorem dL_law_108 : decode cL_law 108 = .ok (.aload_n 1, 1) := by decide +kernel
theorem dL_law_109 : decode cL_law 109 = .ok (.aload_n 0, 1) := by decide +kernel
theorem dL_law_110 : decode cL_law 110 = .ok (.iload_n 3, 1) := by decide +kernel
theorem dL_law_111 : decode cL_law 111 = .ok (.iconst 1, 1) := by decide +kernel
theorem dL_law_112 : decode cL_law 112 = .ok (.iadd, 1) := by decide +kernel
theorem dL_law_113 : decode cL_law 113 = .ok (.iaload, 1) := by decide +kernel
theorem dL_law_114 : decode cL_law 114 = .ok (.invokevirtual 13, 3) := by decide +kernel
theorem dL_law_117 : decode cL_law 117 = .ok (.aload_n 2, 1) := by decide +kernel
theorem dL_law_118 : decode cL_law 118 = .ok (.aload_n 0, 1) := by decide +kernel
theorem dL_law_119 : decode cL_law 119 = .ok (.iload_n 3, 1) := by decide +kernel
theorem dL_law_120 : decode cL_law 120 = .ok (.iconst 1, 1) := by decide +kernel
theorem dL_law_121 : decode cL_law 121 = .ok (.iadd, 1) := by decide +kernel
theorem dL_law_122 : decode cL_law 122 = .ok (.iaload, 1) := by decide +kernel
theorem dL_law_123 : decode cL_law 123 = .ok (.invokevirtual 17, 3) := by decide +kernel
theorem dL_law_126 : decode cL_law 126 = .ok (.if_icmp .eq 327, 3) := by decide +kernel
theorem dL_law_129 : decode cL_law 129 = .ok (.iconst 0, 1) := by decide +kernel
theorem dL_law_130 : decode cL_law 130 = .ok (.ireturn, 1) := by decide +kernel
theorem dL_law_131 : decode cL_law 131 = .ok (.aload_n 1, 1) := by decide +kernel
theorem dL_law_132 : decode cL_law 132 = .ok (.aload_n 0, 1) := by decide +kernel
theorem dL_law_133 : decode cL_law 133 = .ok (.iload_n 3, 1) := by decide +kernel
theorem dL_law_134 : decode cL_law 134 = .ok (.iconst 1, 1) := by decide +kernel
theorem dL_law_135 : decode cL_law 135 = .ok (.iadd, 1) := by decide +kernel
theorem dL_law_136 : decode cL_law 136 = .ok (.iaload, 1) := by decide +kernel
theorem dL_law_137 : decode cL_law 137 = .ok (.aload_n 0, 1) := by decide +kernel
theorem dL_law_138 : decode cL_law 138 = .ok (.iload_n 3, 1) := by decide +kernel
theorem dL_law_139 : decode cL_law 139 = .ok (.iconst 2, 1) := by decide +kernel
theorem dL_law_140 : decode cL_law 140 = .ok (.iadd, 1) := by decide +kernel
theorem dL_law_141 : decode cL_law 141 = .ok (.iaload, 1) := by decide +kernel
theorem dL_law_142 : decode cL_law 142 = .ok (.invokevirtual 18, 3) := by decide +kernel
theorem dL_law_145 : decode cL_law 145 = .ok (.aload_n 2, 1) := by decide +kernel
theorem dL_law_146 : decode cL_law 146 = .ok (.aload_n 0, 1) := by decide +kernel
theorem dL_law_147 : decode cL_law 147 = .ok (.iload_n 3, 1) := by decide +kernel
theorem dL_law_148 : decode cL_law 148 = .ok (.iconst 1, 1) := by decide +kernel
theorem dL_law_149 : decode cL_law 149 = .ok (.iadd, 1) := by decide +kernel
theorem dL_law_150 : decode cL_law 150 = .ok (.iaload, 1) := by decide +kernel
theorem dL_law_151 : decode cL_law 151 = .ok (.aload_n 0, 1) := by decide +kernel
theorem dL_law_152 : decode cL_law 152 = .ok (.iload_n 3, 1) := by decide +kernel
theorem dL_law_153 : decode cL_law 153 = .ok (.iconst 2, 1) := by decide +kernel
theorem dL_law_154 : decode cL_law 154 = .ok (.iadd, 1) := by decide +kernel
theorem dL_law_155 : decode cL_law 155 = .ok (.iaload, 1) := by decide +kernel
theorem dL_law_156 : decode cL_law 156 = .ok (.invokevirtual 22, 3) := by decide +kernel
theorem dL_law_159 : decode cL_law 159 = .ok (.if_icmp .eq 294, 3) := by decide +kernel
theorem dL_law_162 : decode cL_law 162 = .ok (.iconst 0, 1) := by decide +kernel
theorem dL_law_163 : decode cL_law 163 = .ok (.ireturn, 1) := by decide +kernel
theorem dL_law_164 : decode cL_law 164 = .ok (.aload_n 1, 1) := by decide +kernel
theorem dL_law_165 : decode cL_law 165 = .ok (.aload_n 0, 1) := by decide +kernel
theorem dL_law_166 : decode cL_law 166 = .ok (.iload_n 3, 1) := by decide +kernel
theorem dL_law_167 : decode cL_law 167 = .ok (.iconst 1, 1) := by decide +kernel
theorem dL_law_168 : decode cL_law 168 = .ok (.iadd, 1) := by decide +kernel
theorem dL_law_169 : decode cL_law 169 = .ok (.iaload, 1) := by decide +kernel
theorem dL_law_170 : decode cL_law 170 = .ok (.invokevirtual 23, 3) := by decide +kernel
theorem dL_law_173 : decode cL_law 173 = .ok (.aload_n 2, 1) := by decide +kernel
theorem dL_law_174 : decode cL_law 174 = .ok (.aload_n 0, 1) := by decide +kernel
theorem dL_law_175 : decode cL_law 175 = .ok (.iload_n 3, 1) := by decide +kernel
theorem dL_law_176 : decode cL_law 176 = .ok (.iconst 1, 1) := by decide +kernel
theorem dL_law_177 : decode cL_law 177 = .ok (.iadd, 1) := by decide +kernel
theorem dL_law_178 : decode cL_law 178 = .ok (.iaload, 1) := by decide +kernel
theorem dL_law_179 : decode cL_law 179 = .ok (.invokevirtual 26, 3) := by decide +kernel
theorem dL_law_182 : decode cL_law 182 = .ok (.if_icmp .eq 271, 3) := by decide +kernel
theorem dL_law_185 : decode cL_law 185 = .ok (.iconst 0, 1) := by decide +kernel
theorem dL_law_186 : decode cL_law 186 = .ok (.ireturn, 1) := by decide +kernel
theorem dL_law_187 : decode cL_law 187 = .ok (.aload_n 1, 1) := by decide +kernel
theorem dL_law_188 : decode cL_law 188 = .ok (.aload_n 0, 1) := by decide +kernel
theorem dL_law_189 : decode cL_law 189 = .ok (.iload_n 3, 1) := by decide +kernel
theorem dL_law_190 : decode cL_law 190 = .ok (.iconst 1, 1) := by decide +kernel
theorem dL_law_191 : decode cL_law 191 = .ok (.iadd, 1) := by decide +kernel
theorem dL_law_192 : decode cL_law 192 = .ok (.iaload, 1) := by decide +kernel
theorem dL_law_193 : decode cL_law 193 = .ok (.invokevirtual 27, 3) := by decide +kernel
theorem dL_law_196 : decode cL_law 196 = .ok (.aload_n 2, 1) := by decide +kernel
theorem dL_law_197 : decode cL_law 197 = .ok (.aload_n 0, 1) := by decide +kernel
theorem dL_law_198 : decode cL_law 198 = .ok (.iload_n 3, 1) := by decide +kernel
theorem dL_law_199 : decode cL_law 199 = .ok (.iconst 1, 1) := by decide +kernel
theorem dL_law_200 : decode cL_law 200 = .ok (.iadd, 1) := by decide +kernel
theorem dL_law_201 : decode cL_law 201 = .ok (.iaload, 1) := by decide +kernel
theorem dL_law_202 : decode cL_law 202 = .ok (.invokevirtual 31, 3) := by decide +kernel
theorem dL_law_205 : decode cL_law 205 = .ok (.if_icmp .eq 248, 3) := by decide +kernel
theorem dL_law_208 : decode cL_law 208 = .ok (.iconst 0, 1) := by decide +kernel
theorem dL_law_209 : decode cL_law 209 = .ok (.ireturn, 1) := by decide +kernel
theorem dL_law_210 : decode cL_law 210 = .ok (.aload_n 1, 1) := by decide +kernel
theorem dL_law_211 : decode cL_law 211 = .ok (.invokevirtual 32, 3) := by decide +kernel
theorem dL_law_214 : decode cL_law 214 = .ok (.aload_n 2, 1) := by decide +kernel
theorem dL_law_215 : decode cL_law 215 = .ok (.invokevirtual 36, 3) := by decide +kernel
theorem dL_law_218 : decode cL_law 218 = .ok (.if_icmp .eq 235, 3) := by decide +kernel
theorem dL_law_221 : decode cL_law 221 = .ok (.iconst 0, 1) := by decide +kernel
theorem dL_law_222 : decode cL_law 222 = .ok (.ireturn, 1) := by decide +kernel
theorem dL_law_223 : decode cL_law 223 = .ok (.aload_n 1, 1) := by decide +kernel
theorem dL_law_224 : decode cL_law 224 = .ok (.aload_n 0, 1) := by decide +kernel
theorem dL_law_225 : decode cL_law 225 = .ok (.iload_n 3, 1) := by decide +kernel
theorem dL_law_226 : decode cL_law 226 = .ok (.iconst 1, 1) := by decide +kernel
theorem dL_law_227 : decode cL_law 227 = .ok (.iadd, 1) := by decide +kernel
theorem dL_law_228 : decode cL_law 228 = .ok (.iaload, 1) := by decide +kernel
theorem dL_law_229 : decode cL_law 229 = .ok (.invokevirtual 37, 3) := by decide +kernel
theorem dL_law_232 : decode cL_law 232 = .ok (.aload_n 2, 1) := by decide +kernel
theorem dL_law_233 : decode cL_law 233 = .ok (.aload_n 0, 1) := by decide +kernel
theorem dL_law_234 : decode cL_law 234 = .ok (.iload_n 3, 1) := by decide +kernel
theorem dL_law_235 : decode cL_law 235 = .ok (.iconst 1, 1) := by decide +kernel
theorem dL_law_236 : decode cL_law 236 = .ok (.iadd, 1) := by decide +kernel
theorem dL_law_237 : decode cL_law 237 = .ok (.iaload, 1) := by decide +kernel
theorem dL_law_238 : decode cL_law 238 = .ok (.invokevirtual 40, 3) := by decide +kernel
theorem dL_law_241 : decode cL_law 241 = .ok (.if_icmp .eq 212, 3) := by decide +kernel
theorem dL_law_244 : decode cL_law 244 = .ok (.iconst 0, 1) := by decide +kernel
theorem dL_law_245 : decode cL_law 245 = .ok (.ireturn, 1) := by decide +kernel
theorem dL_law_246 : decode cL_law 246 = .ok (.aload_n 1, 1) := by decide +kernel
theorem dL_law_247 : decode cL_law 247 = .ok (.aload_n 0, 1) := by decide +kernel
theorem dL_law_248 : decode cL_law 248 = .ok (.iload_n 3, 1) := by decide +kernel
theorem dL_law_249 : decode cL_law 249 = .ok (.iconst 1, 1) := by decide +kernel
theorem dL_law_250 : decode cL_law 250 = .ok (.iadd, 1) := by decide +kernel
theorem dL_law_251 : decode cL_law 251 = .ok (.iaload, 1) := by decide +kernel
theorem dL_law_252 : decode cL_law 252 = .ok (.aload_n 0, 1) := by decide +kernel
theorem dL_law_253 : decode cL_law 253 = .ok (.iload_n 3, 1) := by decide +kernel
theorem dL_law_254 : decode cL_law 254 = .ok (.iconst 2, 1) := by decide +kernel
theorem dL_law_255 : decode cL_law 255 = .ok (.iadd, 1) := by decide +kernel
theorem dL_law_256 : decode cL_law 256 = .ok (.iaload, 1) := by decide +kernel
theorem dL_law_257 : decode cL_law 257 = .ok (.invokevirtual 41, 3) := by decide +kernel
theorem dL_law_260 : decode cL_law 260 = .ok (.aload_n 2, 1) := by decide +kernel
theorem dL_law_261 : decode cL_law 261 = .ok (.aload_n 0, 1) := by decide +kernel
theorem dL_law_262 : decode cL_law 262 = .ok (.iload_n 3, 1) := by decide +kernel
theorem dL_law_263 : decode cL_law 263 = .ok (.iconst 1, 1) := by decide +kernel
theorem dL_law_264 : decode cL_law 264 = .ok (.iadd, 1) := by decide +kernel
theorem dL_law_265 : decode cL_law 265 = .ok (.iaload, 1) := by decide +kernel
theorem dL_law_266 : decode cL_law 266 = .ok (.aload_n 0, 1) := by decide +kernel
theorem dL_law_267 : decode cL_law 267 = .ok (.iload_n 3, 1) := by decide +kernel
theorem dL_law_268 : decode cL_law 268 = .ok (.iconst 2, 1) := by decide +kernel
theorem dL_law_269 : decode cL_law 269 = .ok (.iadd, 1) := by decide +kernel
theorem dL_law_270 : decode cL_law 270 = .ok (.iaload, 1) := by decide +kernel
theorem dL_law_271 : decode cL_law 271 = .ok (.invokevirtual 44, 3) := by decide +kernel
theorem dL_law_274 : decode cL_law 274 = .ok (.if_icmp .eq 179, 3) := by decide +kernel
theorem dL_law_277 : decode cL_law 277 = .ok (.iconst 0, 1) := by decide +kernel
theorem dL_law_278 : decode cL_law 278 = .ok (.ireturn, 1) := by decide +kernel
theorem dL_law_279 : decode cL_law 279 = .ok (.aload_n 1, 1) := by decide +kernel
theorem dL_law_280 : decode cL_law 280 = .ok (.aload_n 0, 1) := by decide +kernel
theorem dL_law_281 : decode cL_law 281 = .ok (.iload_n 3, 1) := by decide +kernel
theorem dL_law_282 : decode cL_law 282 = .ok (.iconst 1, 1) := by decide +kernel
theorem dL_law_283 : decode cL_law 283 = .ok (.iadd, 1) := by decide +kernel
theorem dL_law_284 : decode cL_law 284 = .ok (.iaload, 1) := by decide +kernel
theorem dL_law_285 : decode cL_law 285 = .ok (.invokevirtual 45, 3) := by decide +kernel
theorem dL_law_288 : decode cL_law 288 = .ok (.aload_n 2, 1) := by decide +kernel
theorem dL_law_289 : decode cL_law 289 = .ok (.aload_n 0, 1) := by decide +kernel
theorem dL_law_290 : decode cL_law 290 = .ok (.iload_n 3, 1) := by decide +kernel
theorem dL_law_291 : decode cL_law 291 = .ok (.iconst 1, 1) := by decide +kernel
theorem dL_law_292 : decode cL_law 292 = .ok (.iadd, 1) := by decide +kernel
theorem dL_law_293 : decode cL_law 293 = .ok (.iaload, 1) := by decide +kernel
theorem dL_law_294 : decode cL_law 294 = .ok (.invokevirtual 48, 3) := by decide +kernel
theorem dL_law_297 : decode cL_law 297 = .ok (.if_icmp .eq 156, 3) := by decide +kernel
theorem dL_law_300 : decode cL_law 300 = .ok (.iconst 0, 1) := by decide +kernel
theorem dL_law_301 : decode cL_law 301 = .ok (.ireturn, 1) := by decide +kernel
theorem dL_law_302 : decode cL_law 302 = .ok (.aload_n 1, 1) := by decide +kernel
theorem dL_law_303 : decode cL_law 303 = .ok (.aload_n 0, 1) := by decide +kernel
theorem dL_law_304 : decode cL_law 304 = .ok (.iload_n 3, 1) := by decide +kernel
theorem dL_law_305 : decode cL_law 305 = .ok (.iconst 1, 1) := by decide +kernel
theorem dL_law_306 : decode cL_law 306 = .ok (.iadd, 1) := by decide +kernel
theorem dL_law_307 : decode cL_law 307 = .ok (.iaload, 1) := by decide +kernel
theorem dL_law_308 : decode cL_law 308 = .ok (.invokevirtual 49, 3) := by decide +kernel
theorem dL_law_311 : decode cL_law 311 = .ok (.aload_n 2, 1) := by decide +kernel
theorem dL_law_312 : decode cL_law 312 = .ok (.aload_n 0, 1) := by decide +kernel
theorem dL_law_313 : decode cL_law 313 = .ok (.iload_n 3, 1) := by decide +kernel
theorem dL_law_314 : decode cL_law 314 = .ok (.iconst 1, 1) := by decide +kernel
theorem dL_law_315 : decode cL_law 315 = .ok (.iadd, 1) := by decide +kernel
theorem dL_law_316 : decode cL_law 316 = .ok (.iaload, 1) := by decide +kernel
theorem dL_law_317 : decode cL_law 317 = .ok (.invokevirtual 52, 3) := by decide +kernel
theorem dL_law_320 : decode cL_law 320 = .ok (.if_icmp .eq 133, 3) := by decide +kernel
theorem dL_law_323 : decode cL_law 323 = .ok (.iconst 0, 1) := by decide +kernel
theorem dL_law_324 : decode cL_law 324 = .ok (.ireturn, 1) := by decide +kernel
theorem dL_law_325 : decode cL_law 325 = .ok (.aload_n 1, 1) := by decide +kernel
theorem dL_law_326 : decode cL_law 326 = .ok (.invokevirtual 53, 3) := by decide +kernel
theorem dL_law_329 : decode cL_law 329 = .ok (.aload_n 2, 1) := by decide +kernel
theorem dL_law_330 : decode cL_law 330 = .ok (.invokevirtual 57, 3) := by decide +kernel
theorem dL_law_333 : decode cL_law 333 = .ok (.if_icmp .eq 120, 3) := by decide +kernel
theorem dL_law_336 : decode cL_law 336 = .ok (.iconst 0, 1) := by decide +kernel
theorem dL_law_337 : decode cL_law 337 = .ok (.ireturn, 1) := by decide +kernel
theorem dL_law_338 : decode cL_law 338 = .ok (.aload_n 1, 1) := by decide +kernel
theorem dL_law_339 : decode cL_law 339 = .ok (.invokevirtual 58, 3) := by decide +kernel
theorem dL_law_342 : decode cL_law 342 = .ok (.aload_n 2, 1) := by decide +kernel
theorem dL_law_343 : decode cL_law 343 = .ok (.invokevirtual 61, 3) := by decide +kernel
theorem dL_law_346 : decode cL_law 346 = .ok (.if_icmp .eq 107, 3) := by decide +kernel
theorem dL_law_349 : decode cL_law 349 = .ok (.iconst 0, 1) := by decide +kernel
theorem dL_law_350 : decode cL_law 350 = .ok (.ireturn, 1) := by decide +kernel
theorem dL_law_351 : decode cL_law 351 = .ok (.aload_n 1, 1) := by decide +kernel
theorem dL_law_352 : decode cL_law 352 = .ok (.aload_n 0, 1) := by decide +kernel
theorem dL_law_353 : decode cL_law 353 = .ok (.iload_n 3, 1) := by decide +kernel
theorem dL_law_354 : decode cL_law 354 = .ok (.iconst 1, 1) := by decide +kernel
theorem dL_law_355 : decode cL_law 355 = .ok (.iadd, 1) := by decide +kernel
theorem dL_law_356 : decode cL_law 356 = .ok (.iaload, 1) := by decide +kernel
theorem dL_law_357 : decode cL_law 357 = .ok (.invokevirtual 62, 3) := by decide +kernel
theorem dL_law_360 : decode cL_law 360 = .ok (.aload_n 2, 1) := by decide +kernel
theorem dL_law_361 : decode cL_law 361 = .ok (.aload_n 0, 1) := by decide +kernel
theorem dL_law_362 : decode cL_law 362 = .ok (.iload_n 3, 1) := by decide +kernel
theorem dL_law_363 : decode cL_law 363 = .ok (.iconst 1, 1) := by decide +kernel
theorem dL_law_364 : decode cL_law 364 = .ok (.iadd, 1) := by decide +kernel
theorem dL_law_365 : decode cL_law 365 = .ok (.iaload, 1) := by decide +kernel
theorem dL_law_366 : decode cL_law 366 = .ok (.invokevirtual 65, 3) := by decide +kernel
theorem dL_law_369 : decode cL_law 369 = .ok (.if_icmp .eq 84, 3) := by decide +kernel
theorem dL_law_372 : decode cL_law 372 = .ok (.iconst 0, 1) := by decide +kernel
theorem dL_law_373 : decode cL_law 373 = .ok (.ireturn, 1) := by decide +kernel
theorem dL_law_374 : decode cL_law 374 = .ok (.aload_n 1, 1) := by decide +kernel
theorem dL_law_375 : decode cL_law 375 = .ok (.aload_n 0, 1) := by decide +kernel
theorem dL_law_376 : decode cL_law 376 = .ok (.iload_n 3, 1) := by decide +kernel
theorem dL_law_377 : decode cL_law 377 = .ok (.iconst 1, 1) := by decide +kernel
theorem dL_law_378 : decode cL_law 378 = .ok (.iadd, 1) := by decide +kernel
theorem dL_law_379 : decode cL_law 379 = .ok (.iaload, 1) := by decide +kernel
theorem dL_law_380 : decode cL_law 380 = .ok (.aload_n 0, 1) := by decide +kernel
theorem dL_law_381 : decode cL_law 381 = .ok (.iload_n 3, 1) := by decide +kernel
theorem dL_law_382 : decode cL_law 382 = .ok (.iconst 2, 1) := by decide +kernel
theorem dL_law_383 : decode cL_law 383 = .ok (.iadd, 1) := by decide +kernel
theorem dL_law_384 : decode cL_law 384 = .ok (.iaload, 1) := by decide +kernel
theorem dL_law_385 : decode cL_law 385 = .ok (.invokevirtual 66, 3) := by decide +kernel
theorem dL_law_388 : decode cL_law 388 = .ok (.aload_n 2, 1) := by decide +kernel
theorem dL_law_389 : decode cL_law 389 = .ok (.aload_n 0, 1) := by decide +kernel
theorem dL_law_390 : decode cL_law 390 = .ok (.iload_n 3, 1) := by decide +kernel
theorem dL_law_391 : decode cL_law 391 = .ok (.iconst 1, 1) := by decide +kernel
theorem dL_law_392 : decode cL_law 392 = .ok (.iadd, 1) := by decide +kernel
theorem dL_law_393 : decode cL_law 393 = .ok (.iaload, 1) := by decide +kernel
theorem dL_law_394 : decode cL_law 394 = .ok (.aload_n 0, 1) := by decide +kernel
theorem dL_law_395 : decode cL_law 395 = .ok (.iload_n 3, 1) := by decide +kernel
theorem dL_law_396 : decode cL_law 396 = .ok (.iconst 2, 1) := by decide +kernel
theorem dL_law_397 : decode cL_law 397 = .ok (.iadd, 1) := by decide +kernel
theorem dL_law_398 : decode cL_law 398 = .ok (.iaload, 1) := by decide +kernel
theorem dL_law_399 : decode cL_law 399 = .ok (.invokevirtual 69, 3) := by decide +kernel
theorem dL_law_402 : decode cL_law 402 = .ok (.if_icmp .eq 51, 3) := by decide +kernel
theorem dL_law_405 : decode cL_law 405 = .ok (.iconst 0, 1) := by decide +kernel
theorem dL_law_406 : decode cL_law 406 = .ok (.ireturn, 1) := by decide +kernel
theorem dL_law_407 : decode cL_law 407 = .ok (.aload_n 1, 1) := by decide +kernel
theorem dL_law_408 : decode cL_law 408 = .ok (.aload_n 0, 1) := by decide +kernel
theorem dL_law_409 : decode cL_law 409 = .ok (.iload_n 3, 1) := by decide +kernel
theorem dL_law_410 : decode cL_law 410 = .ok (.iconst 1, 1) := by decide +kernel
theorem dL_law_411 : decode cL_law 411 = .ok (.iadd, 1) := by decide +kernel
theorem dL_law_412 : decode cL_law 412 = .ok (.iaload, 1) := by decide +kernel
theorem dL_law_413 : decode cL_law 413 = .ok (.invokevirtual 70, 3) := by decide +kernel
theorem dL_law_416 : decode cL_law 416 = .ok (.aload_n 2, 1) := by decide +kernel
theorem dL_law_417 : decode cL_law 417 = .ok (.aload_n 0, 1) := by decide +kernel
theorem dL_law_418 : decode cL_law 418 = .ok (.iload_n 3, 1) := by decide +kernel
theorem dL_law_419 : decode cL_law 419 = .ok (.iconst 1, 1) := by decide +kernel
theorem dL_law_420 : decode cL_law 420 = .ok (.iadd, 1) := by decide +kernel
theorem dL_law_421 : decode cL_law 421 = .ok (.iaload, 1) := by decide +kernel
theorem dL_law_422 : decode cL_law 422 = .ok (.invokevirtual 73, 3) := by decide +kernel
theorem dL_law_425 : decode cL_law 425 = .ok (.if_icmp .eq 28, 3) := by decide +kernel
theorem dL_law_428 : decode cL_law 428 = .ok (.iconst 0, 1) := by decide +kernel
theorem dL_law_429 : decode cL_law 429 = .ok (.ireturn, 1) := by decide +kernel
theorem dL_law_430 : decode cL_law 430 = .ok (.aload_n 1, 1) := by decide +kernel
theorem dL_law_431 : decode cL_law 431 = .ok (.aload_n 0, 1) := by decide +kernel
theorem dL_law_432 : decode cL_law 432 = .ok (.iload_n 3, 1) := by decide +kernel
theorem dL_law_433 : decode cL_law 433 = .ok (.iconst 1, 1) := by decide +kernel
theorem dL_law_434 : decode cL_law 434 = .ok (.iadd, 1) := by decide +kernel
theorem dL_law_435 : decode cL_law 435 = .ok (.iaload, 1) := by decide +kernel
theorem dL_law_436 : decode cL_law 436 = .ok (.invokevirtual 74, 3) := by decide +kernel
theorem dL_law_439 : decode cL_law 439 = .ok (.aload_n 2, 1) := by decide +kernel
theorem dL_law_440 : decode cL_law 440 = .ok (.aload_n 0, 1) := by decide +kernel
theorem dL_law_441 : decode cL_law 441 = .ok (.iload_n 3, 1) := by decide +kernel
theorem dL_law_442 : decode cL_law 442 = .ok (.iconst 1, 1) := by decide +kernel
theorem dL_law_443 : decode cL_law 443 = .ok (.iadd, 1) := by decide +kernel
theorem dL_law_444 : decode cL_law 444 = .ok (.iaload, 1) := by decide +kernel
theorem dL_law_445 : decode cL_law 445 = .ok (.invokevirtual 77, 3) := by decide +kernel
theorem dL_law_448 : decode cL_law 448 = .ok (.if_icmp .eq 5, 3) := by decide +kernel
theorem dL_law_451 : decode cL_law 451 = .ok (.iconst 0, 1) := by decide +kernel
theorem dL_law_452 : decode cL_law 452 = .ok (.ireturn, 1) := by decide +kernel
theorem dL_law_453 : decode cL_law 453 = .ok (.iinc 3 3, 3) := by decide +kernel
theorem dL_law_456 : decode cL_law 456 = .ok (.goto (-438), 3) := by decide +kernel
theorem dL_law_459 : decode cL_law 459 = .ok (.iconst 1, 1) := by decide +kernel
theorem dL_law_460 : decode cL_law 460 = .ok (.ireturn, 1) := by decide +kernel
end
section
/-! calls over one world: a call that only reads; a call that leaves the world another; loops -/
def ro_P (D : va_G) (cl : List vw_C) (tys : List (ClassId × FieldType)) (wd : va_W) (av : List Value) : Array Value → State → Prop := va_Pc av (fun U => va_P D cl wd U.heap ∧ va_K D cl tys U ∧ nx_ok U)
def mu_P (D : va_G) (cl : List vw_C) (tys : List (ClassId × FieldType)) (wd : va_W) (sz : Nat) (av : List Value) : Array Value → State → Prop := va_Pc av (fun U => U.heap.size = sz ∧ va_P D cl wd U.heap ∧ va_K D cl tys U ∧ nx_ok U ∧ va_D (fun _ => True) wd)
def mu_B (D : va_G) (cl : List vw_C) (tys : List (ClassId × FieldType)) (wd : va_W) (sz : Nat) {S : Type} (w1 : S → va_W) : S → State → Prop := fun u t => va_P D cl (w1 u) t.heap ∧ va_K D cl tys t ∧ va_D (va_A wd sz) (w1 u)
theorem ro_blind {D : va_G} {cl : List vw_C} {tys : List (ClassId × FieldType)} {wd : va_W} {av : List Value} : FrameBlind (ro_P D cl tys wd av) := fun a U g mk q => ⟨q.1, q.2.1, va_K.moved (u := U) (U := U.calling g mk a) (Vm.Alike.refl U.vm) q.2.2.1, nx_same (s := U) (U := U.calling g mk a) rfl q.2.2.2⟩
theorem mu_blind {D : va_G} {cl : List vw_C} {tys : List (ClassId × FieldType)} {wd : va_W} {sz : Nat} {av : List Value} : FrameBlind (mu_P D cl tys wd sz av) := fun a U g mk q => ⟨q.1, q.2.1, q.2.2.1, va_K.moved (u := U) (U := U.calling g mk a) (Vm.Alike.refl U.vm) q.2.2.2.1, nx_same (s := U) (U := U.calling g mk a) rfl q.2.2.2.2.1, q.2.2.2.2.2⟩
theorem ro_pre {D : va_G} {cl : List vw_C} {tys : List (ClassId × FieldType)} {wd : va_W} {av : List Value} {s : State} {H : Heap} (hP : va_P D cl wd H) (hK : va_K D cl tys s) (hN : nx_ok s) : ∀ U : State, U.heap = H → s.WarmedH U.vm → ro_P D cl tys wd av av.toArray U := fun U hU hW => ⟨rfl, by rw [hU]; exact hP, va_K.moved hW.alike hK, nx_warm hW hN⟩
theorem mu_pre {D : va_G} {cl : List vw_C} {tys : List (ClassId × FieldType)} {wd : va_W} {av : List Value} {s : State} {H : Heap} {A : Nat → Prop} (hP : va_P D cl wd H) (hK : va_K D cl tys s) (hN : nx_ok s) (hD : va_D A wd) : ∀ U : State, U.heap = H → s.WarmedH U.vm → mu_P D cl tys wd H.size av av.toArray U := fun U hU hW => ⟨rfl, by rw [hU], by rw [hU]; exact hP, va_K.moved hW.alike hK, nx_warm hW hN, hD.weaken (fun _ _ _ _ => trivial)⟩
theorem mu_free {A : Nat → Prop} {wd : va_W} {H0 H : Heap} {locs : List Loc} (hD : va_D A wd) (hS : va_S A H0 H locs) (hA : ∀ q, H0.size ≤ q → A q) : ∀ q, va_A wd H.size q → A q := by
  intro q h
  rcases h with ⟨k, x, h⟩ | h
  · exact hD.2 k (q, x) h
  · exact hA q (Nat.le_trans hS.1 h)
section ROC
variable {p : Program} {l : Launch} {e : Env} {R : Room} {s : State} {m : MethodId} {args : Array Value} {below : List Frame} {meth : Method} {c : Code} {H : Heap} {locs : List Loc} {cells slots : Nat} {Q : State → Prop}
variable {pc : Nat} {ls : Array Slot} {rest st0 : List Value} {D : va_G} {cl : List vw_C} {tys : List (ClassId × FieldType)} {wd : va_W}
variable {y : MethodName} {bytes cc : ByteArray} {maxL nL n index : Nat} {ret : Option FieldType} {ws : List Cond} {rm : Room} {Ts : List Cond} {own C host : String} {b : Nat} {As : List Value} {post : Int32 → Prop}
theorem ro_V (S : CallFix p m c cc nL s args Ts own) (hM : Met l y ws rm (ro_P D cl tys wd (.ref b :: As)) (vp_Si post) 0 0 (fun _ => False)) (cw : CallW R s args own C index y bytes maxL ret ws rm 0 0 n) (hP : va_P D cl wd H) (hK : va_K D cl tys s) (hN : nx_ok s) (q0 : Nat) {ci : Nat} {fs : List Value} {T : u_T} {N : Nat} (he : wd[q0]? = some (b, .inr (ci, fs))) (hc : cl[ci]? = some (C, T, N)) (hn : As.length = n) (hl : ls.size = nL) (hst : st0 = As.reverse ++ .ref b :: rest) (hW : (rest.map fun v => v.category).sum ≤ 8) (hdg : decode cc pc = .ok (.invokevirtual index, 3)) (hf : cells ≤ R.cells ∧ slots ≤ R.slots)
    (kk : ∀ r : Int32, post r → W p l e R s m args below meth c H locs cells slots Q (F0 m (pc + 3) ls (.int r :: rest))) : W p l e R s m args below meth c H locs cells slots Q (F0 m pc ls st0) :=
  vp_callSi (va_runV (As := As) (rest := rest) (b := b) S hM cw ⟨ro_blind, va_recv hK hP hc he, ro_pre hP hK hN⟩ rfl hn hl hst (lv_room hW) hdg hf).run kk
theorem ro_VN (S : CallFix p m c cc nL s args Ts own) (hM : Met l y ws rm (ro_P D cl tys wd (.ref b :: As)) (vp_Si post) 0 0 (fun _ => False)) (cw : va_CN R s args own index y host bytes maxL ret ws rm 0 0 n ∧ (Cond.instanceMethod y).before args s = true ∧ (Cond.selects C y y).before args s = true) (hP : va_P D cl wd H) (hK : va_K D cl tys s) (hN : nx_ok s) (q0 : Nat) {ci : Nat} {fs : List Value} {T : u_T} {N : Nat} (he : wd[q0]? = some (b, .inr (ci, fs))) (hc : cl[ci]? = some (C, T, N)) (hn : As.length = n) (hl : ls.size = nL) (hst : st0 = As.reverse ++ .ref b :: rest) (hW : (rest.map fun v => v.category).sum ≤ 8) (hdg : decode cc pc = .ok (.invokevirtual index, 3)) (hf : cells ≤ R.cells ∧ slots ≤ R.slots)
    (kk : ∀ r : Int32, post r → W p l e R s m args below meth c H locs cells slots Q (F0 m (pc + 3) ls (.int r :: rest))) : W p l e R s m args below meth c H locs cells slots Q (F0 m pc ls st0) :=
  vp_callSi (va_runVN (As := As) (rest := rest) (b := b) S hM cw ⟨ro_blind, va_recv hK hP hc he, ro_pre hP hK hN⟩ rfl hn hl hst (lv_room hW) hdg hf).run kk
theorem ro_S (S : CallFix p m c cc nL s args Ts own) (hM : Met l y ws rm (ro_P D cl tys wd As) (vp_Si post) 0 0 (fun _ => False)) (cw : CallB R s args own index y bytes maxL ret ws rm 0 0 n ∧ (Cond.static y).before args s = true) (hP : va_P D cl wd H) (hK : va_K D cl tys s) (hN : nx_ok s) (hn : As.length = n) (hl : ls.size = nL) (hst : st0 = As.reverse ++ rest) (hW : (rest.map fun v => v.category).sum ≤ 8) (hdg : decode cc pc = .ok (.invokestatic index, 3)) (hf : cells ≤ R.cells ∧ slots ≤ R.slots)
    (kk : ∀ r : Int32, post r → W p l e R s m args below meth c H locs cells slots Q (F0 m (pc + 3) ls (.int r :: rest))) : W p l e R s m args below meth c H locs cells slots Q (F0 m pc ls st0) :=
  vp_callSi (va_runS (As := As) (rest := rest) S hM cw ⟨ro_blind, ro_pre hP hK hN⟩ rfl hn hl hst (lv_room hW) hdg hf).run kk
theorem ro_SN (S : CallFix p m c cc nL s args Ts own) (hM : Met l y ws rm (ro_P D cl tys wd As) (vp_Si post) 0 0 (fun _ => False)) (cw : va_CN R s args own index y host bytes maxL ret ws rm 0 0 n ∧ (Cond.static y).before args s = true ∧ True) (hP : va_P D cl wd H) (hK : va_K D cl tys s) (hN : nx_ok s) (hn : As.length = n) (hl : ls.size = nL) (hst : st0 = As.reverse ++ rest) (hW : (rest.map fun v => v.category).sum ≤ 8) (hdg : decode cc pc = .ok (.invokestatic index, 3)) (hf : cells ≤ R.cells ∧ slots ≤ R.slots)
    (kk : ∀ r : Int32, post r → W p l e R s m args below meth c H locs cells slots Q (F0 m (pc + 3) ls (.int r :: rest))) : W p l e R s m args below meth c H locs cells slots Q (F0 m pc ls st0) :=
  vp_callSi (va_runSN (As := As) (rest := rest) S hM cw ⟨ro_blind, ro_pre hP hK hN⟩ rfl hn hl hst (lv_room hW) hdg hf).run kk
variable {A : Nat → Prop} {H0 : Heap} {St : Type} {w1 : St → va_W} {a : Array Value} {pi : Int32 → St → Prop} {pv : St → Prop}
theorem mu_i (hr : va_Run p l e R s m args below meth c H locs cells slots 0 0 (F0 m pc ls st0) rest (va_Qi pi (mu_B D cl tys wd H.size w1) (va_A wd H.size) a) (va_A wd H.size)) (hD : va_D A wd) (hS : va_S A H0 H locs) (hA : ∀ q, H0.size ≤ q → A q)
    (kk : ∀ (r : Int32) (u : St) (H1 : Heap) (locs1 : List Loc), pi r u → va_P D cl (w1 u) H1 → va_D A (w1 u) → va_S A H0 H1 locs1 → W p l e R s m args below meth c H1 locs1 cells slots Q (F0 m (pc + 3) ls (.int r :: rest))) : W p l e R s m args below meth c H locs cells slots Q (F0 m pc ls st0) := by
  have hF := mu_free hD hS hA
  exact va_calli hr hS (fun q _ h => hF q h) hF (fun r u t H1 locs1 ht _ hp hB _ _ hS1 => kk r u H1 locs1 hp (by rw [← ht]; exact hB.1) (hB.2.2.weaken (fun _ _ _ h => hF _ h)) hS1)
theorem mu_v (hr : va_Run p l e R s m args below meth c H locs cells slots 0 0 (F0 m pc ls st0) rest (va_Qv pv (mu_B D cl tys wd H.size w1) (va_A wd H.size) a) (va_A wd H.size)) (hD : va_D A wd) (hS : va_S A H0 H locs) (hA : ∀ q, H0.size ≤ q → A q)
    (kk : ∀ (u : St) (H1 : Heap) (locs1 : List Loc), pv u → va_P D cl (w1 u) H1 → va_D A (w1 u) → va_S A H0 H1 locs1 → W p l e R s m args below meth c H1 locs1 cells slots Q (F0 m (pc + 3) ls rest)) : W p l e R s m args below meth c H locs cells slots Q (F0 m pc ls st0) := by
  have hF := mu_free hD hS hA
  exact va_callv hr hS (fun q _ h => hF q h) hF (fun u t H1 locs1 ht _ hp hB _ _ hS1 => kk u H1 locs1 hp (by rw [← ht]; exact hB.1) (hB.2.2.weaken (fun _ _ _ h => hF _ h)) hS1)
theorem mu_Vi (S : CallFix p m c cc nL s args Ts own) (hM : Met l y ws rm (mu_P D cl tys wd H.size (.ref b :: As)) (va_Qi pi (mu_B D cl tys wd H.size w1) (va_A wd H.size)) 0 0 (va_A wd H.size)) (cw : CallW R s args own C index y bytes maxL ret ws rm 0 0 n) (hP : va_P D cl wd H) (hK : va_K D cl tys s) (hN : nx_ok s) (hD : va_D A wd) (hS : va_S A H0 H locs) (hA : ∀ q, H0.size ≤ q → A q) (q0 : Nat) {ci : Nat} {fs : List Value} {T : u_T} {N : Nat} (he : wd[q0]? = some (b, .inr (ci, fs))) (hc : cl[ci]? = some (C, T, N)) (hn : As.length = n) (hl : ls.size = nL) (hst : st0 = As.reverse ++ .ref b :: rest) (hW : (rest.map fun v => v.category).sum ≤ 8) (hdg : decode cc pc = .ok (.invokevirtual index, 3)) (hf : cells ≤ R.cells ∧ slots ≤ R.slots)
    (kk : ∀ (r : Int32) (u : St) (H1 : Heap) (locs1 : List Loc), pi r u → va_P D cl (w1 u) H1 → va_D A (w1 u) → va_S A H0 H1 locs1 → W p l e R s m args below meth c H1 locs1 cells slots Q (F0 m (pc + 3) ls (.int r :: rest))) : W p l e R s m args below meth c H locs cells slots Q (F0 m pc ls st0) :=
  mu_i (va_runV (As := As) (rest := rest) (b := b) S hM cw ⟨mu_blind, va_recv hK hP hc he, mu_pre hP hK hN hD⟩ rfl hn hl hst (lv_room hW) hdg hf) hD hS hA kk
theorem mu_Sv (S : CallFix p m c cc nL s args Ts own) (hM : Met l y ws rm (mu_P D cl tys wd H.size As) (va_Qv pv (mu_B D cl tys wd H.size w1) (va_A wd H.size)) 0 0 (va_A wd H.size)) (cw : CallB R s args own index y bytes maxL ret ws rm 0 0 n ∧ (Cond.static y).before args s = true) (hP : va_P D cl wd H) (hK : va_K D cl tys s) (hN : nx_ok s) (hD : va_D A wd) (hS : va_S A H0 H locs) (hA : ∀ q, H0.size ≤ q → A q) (hn : As.length = n) (hl : ls.size = nL) (hst : st0 = As.reverse ++ rest) (hW : (rest.map fun v => v.category).sum ≤ 8) (hdg : decode cc pc = .ok (.invokestatic index, 3)) (hf : cells ≤ R.cells ∧ slots ≤ R.slots)
    (kk : ∀ (u : St) (H1 : Heap) (locs1 : List Loc), pv u → va_P D cl (w1 u) H1 → va_D A (w1 u) → va_S A H0 H1 locs1 → W p l e R s m args below meth c H1 locs1 cells slots Q (F0 m (pc + 3) ls rest)) : W p l e R s m args below meth c H locs cells slots Q (F0 m pc ls st0) :=
  mu_v (va_runS (As := As) (rest := rest) S hM cw ⟨mu_blind, mu_pre hP hK hN hD⟩ rfl hn hl hst (lv_room hW) hdg hf) hD hS hA kk
theorem mu_Vv (S : CallFix p m c cc nL s args Ts own) (hM : Met l y ws rm (mu_P D cl tys wd H.size (.ref b :: As)) (va_Qv pv (mu_B D cl tys wd H.size w1) (va_A wd H.size)) 0 0 (va_A wd H.size)) (cw : CallW R s args own C index y bytes maxL ret ws rm 0 0 n) (hP : va_P D cl wd H) (hK : va_K D cl tys s) (hN : nx_ok s) (hD : va_D A wd) (hS : va_S A H0 H locs) (hA : ∀ q, H0.size ≤ q → A q) (q0 : Nat) {ci : Nat} {fs : List Value} {T : u_T} {N : Nat} (he : wd[q0]? = some (b, .inr (ci, fs))) (hc : cl[ci]? = some (C, T, N)) (hn : As.length = n) (hl : ls.size = nL) (hst : st0 = As.reverse ++ .ref b :: rest) (hW : (rest.map fun v => v.category).sum ≤ 8) (hdg : decode cc pc = .ok (.invokevirtual index, 3)) (hf : cells ≤ R.cells ∧ slots ≤ R.slots)
    (kk : ∀ (u : St) (H1 : Heap) (locs1 : List Loc), pv u → va_P D cl (w1 u) H1 → va_D A (w1 u) → va_S A H0 H1 locs1 → W p l e R s m args below meth c H1 locs1 cells slots Q (F0 m (pc + 3) ls rest)) : W p l e R s m args below meth c H locs cells slots Q (F0 m pc ls st0) :=
  mu_v (va_runV (As := As) (rest := rest) (b := b) S hM cw ⟨mu_blind, va_recv hK hP hc he, mu_pre hP hK hN hD⟩ rfl hn hl hst (lv_room hW) hdg hf) hD hS hA kk
theorem mu_VNi (S : CallFix p m c cc nL s args Ts own) (hM : Met l y ws rm (mu_P D cl tys wd H.size (.ref b :: As)) (va_Qi pi (mu_B D cl tys wd H.size w1) (va_A wd H.size)) 0 0 (va_A wd H.size)) (cw : va_CN R s args own index y host bytes maxL ret ws rm 0 0 n ∧ (Cond.instanceMethod y).before args s = true ∧ (Cond.selects C y y).before args s = true) (hP : va_P D cl wd H) (hK : va_K D cl tys s) (hN : nx_ok s) (hD : va_D A wd) (hS : va_S A H0 H locs) (hA : ∀ q, H0.size ≤ q → A q) (q0 : Nat) {ci : Nat} {fs : List Value} {T : u_T} {N : Nat} (he : wd[q0]? = some (b, .inr (ci, fs))) (hc : cl[ci]? = some (C, T, N)) (hn : As.length = n) (hl : ls.size = nL) (hst : st0 = As.reverse ++ .ref b :: rest) (hW : (rest.map fun v => v.category).sum ≤ 8) (hdg : decode cc pc = .ok (.invokevirtual index, 3)) (hf : cells ≤ R.cells ∧ slots ≤ R.slots)
    (kk : ∀ (r : Int32) (u : St) (H1 : Heap) (locs1 : List Loc), pi r u → va_P D cl (w1 u) H1 → va_D A (w1 u) → va_S A H0 H1 locs1 → W p l e R s m args below meth c H1 locs1 cells slots Q (F0 m (pc + 3) ls (.int r :: rest))) : W p l e R s m args below meth c H locs cells slots Q (F0 m pc ls st0) :=
  mu_i (va_runVN (As := As) (rest := rest) (b := b) S hM cw ⟨mu_blind, va_recv hK hP hc he, mu_pre hP hK hN hD⟩ rfl hn hl hst (lv_room hW) hdg hf) hD hS hA kk
theorem mu_VNv (S : CallFix p m c cc nL s args Ts own) (hM : Met l y ws rm (mu_P D cl tys wd H.size (.ref b :: As)) (va_Qv pv (mu_B D cl tys wd H.size w1) (va_A wd H.size)) 0 0 (va_A wd H.size)) (cw : va_CN R s args own index y host bytes maxL ret ws rm 0 0 n ∧ (Cond.instanceMethod y).before args s = true ∧ (Cond.selects C y y).before args s = true) (hP : va_P D cl wd H) (hK : va_K D cl tys s) (hN : nx_ok s) (hD : va_D A wd) (hS : va_S A H0 H locs) (hA : ∀ q, H0.size ≤ q → A q) (q0 : Nat) {ci : Nat} {fs : List Value} {T : u_T} {N : Nat} (he : wd[q0]? = some (b, .inr (ci, fs))) (hc : cl[ci]? = some (C, T, N)) (hn : As.length = n) (hl : ls.size = nL) (hst : st0 = As.reverse ++ .ref b :: rest) (hW : (rest.map fun v => v.category).sum ≤ 8) (hdg : decode cc pc = .ok (.invokevirtual index, 3)) (hf : cells ≤ R.cells ∧ slots ≤ R.slots)
    (kk : ∀ (u : St) (H1 : Heap) (locs1 : List Loc), pv u → va_P D cl (w1 u) H1 → va_D A (w1 u) → va_S A H0 H1 locs1 → W p l e R s m args below meth c H1 locs1 cells slots Q (F0 m (pc + 3) ls rest)) : W p l e R s m args below meth c H locs cells slots Q (F0 m pc ls st0) :=
  mu_v (va_runVN (As := As) (rest := rest) (b := b) S hM cw ⟨mu_blind, va_recv hK hP hc he, mu_pre hP hK hN hD⟩ rfl hn hl hst (lv_room hW) hdg hf) hD hS hA kk
theorem wl_loop (I : Nat → Array Slot → Prop) (step : ∀ (k : Nat) (ls : Array Slot), (∀ (k' : Nat) (ls' : Array Slot), k' < k → I k' ls' → W p l e R s m args below meth c H locs cells slots Q (F0 m pc ls' rest)) → I k ls → W p l e R s m args below meth c H locs cells slots Q (F0 m pc ls rest)) (k : Nat) {ls : Array Slot} (h : I k ls) : W p l e R s m args below meth c H locs cells slots Q (F0 m pc ls rest) := by
  revert ls
  induction k using Nat.strongRecOn with
  | _ k ih =>
    intro ls h
    exact step k ls (fun k' ls' hk h' => ih k' hk h') h
theorem wl_loopH (I : Nat → Heap → List Loc → Array Slot → Prop) (step : ∀ (k : Nat) (H : Heap) (locs : List Loc) (ls : Array Slot), (∀ (k' : Nat) (H' : Heap) (locs' : List Loc) (ls' : Array Slot), k' < k → I k' H' locs' ls' → W p l e R s m args below meth c H' locs' cells slots Q (F0 m pc ls' rest)) → I k H locs ls → W p l e R s m args below meth c H locs cells slots Q (F0 m pc ls rest)) (k : Nat) {H : Heap} {locs : List Loc} {ls : Array Slot} (h : I k H locs ls) : W p l e R s m args below meth c H locs cells slots Q (F0 m pc ls rest) := by
  revert H locs ls
  induction k using Nat.strongRecOn with
  | _ k ih =>
    intro H locs ls h
    exact step k H locs ls (fun k' H' locs' ls' hk h' => ih k' hk h') h
end ROC
end
section
/-! the class's world, its leaves: Net and Grove -/
abbrev cw (ad : Nat → Nat) (cI : ClassId) (n a : Nat) (T H : Nat → Nat) (b : Nat) (R : Nat → Nat) (st : Int32) (O S : Nat → Int32) : va_W := [(ad 0, .inr (3, [.ref (ad 1), .ref (ad 4), .ref (ad 6)])), (ad 1, .inr (1, [.ref (ad 2), .ref (ad 3), .int (nI n), .int (nI a)])), (ad 2, .inl (cI, 14, .inl (ar T))), (ad 3, .inl (cI, 14, .inl (ar H))), (ad 4, .inr (0, [.ref (ad 5), .int (nI b)])), (ad 5, .inl (cI, 3, .inl (ar R))), (ad 6, .inr (2, [.ref (ad 7), .ref (ad 8), .int st])), (ad 7, .inl (cI, 14, .inl O)), (ad 8, .inl (cI, 128, .inl S))]
theorem rho0_s (T H : Nat → Nat) (i X : Nat) : rho0 T H (i + 1) X = rho0 T H i X + ed_b (ed_en T H X i) := rfl
theorem ed_mis_s (R : Nat → Nat) (i X : Nat) : ed_mis R (i + 1) X = ed_mis R i X + ed_b (R i &&& X == 0) := rfl
theorem rm_0 (T : Nat → Nat) (j : Nat) : rm_f T j j = T := by
  funext i
  rw [rm_f, if_neg (by omega)]
theorem rm_s {T : Nat → Nat} {j i : Nat} (h : j ≤ i) : up (rm_f T j i) i (rm_f T j i (i + 1)) = rm_f T j (i + 1) := by
  funext k
  rw [up]
  by_cases hk : k = i
  · rw [if_pos hk, rm_f, rm_f, if_neg (by omega), if_pos (by omega), hk]
  · rw [if_neg hk, rm_f, rm_f]
    by_cases h2 : j ≤ k ∧ k < i
    · rw [if_pos h2, if_pos (by omega)]
    · rw [if_neg h2, if_neg (by omega)]
set_option maxHeartbeats 4000000 in
set_option maxRecDepth 100000 in
theorem c_X1_hasVertex (l : Launch) (dC : Nat → ClassId) (dI : Nat → Nat → Nat) (cI : ClassId) (ad : Nat → Nat) (n a : Nat) (T H : Nat → Nat) (b : Nat) (R : Nat → Nat) (st : Int32) (O S : Nat → Int32) (x : Int32) : Met l yX1_hasVertex (wq yX1_hasVertex cX1_hasVertex 2 (some .boolean)) ({ frames := 0, cells := 0, slots := 0, locals := 0 }) (ro_P (dC, dI) classes [(cI, .int)] (cw ad cI n a T H b R st O S) [.ref (ad 1), .int x]) (vp_Si (fun r => r = nI (ed_b (decide (0 ≤ x ∧ x < nI n))))) 0 0 (fun _ => False) := by
  refine Met.ofW (cc := cX1_hasVertex) (maxL := 2) (ret := (some .boolean)) (by decide) rfl ?_
  intro p e s m args below meth c s₁ B hml hv
  obtain ⟨rfl, hP, hK, hN⟩ := hv
  have hx := B.exec
  have hb := B.bytes
  have hr := B.returns
  have hlocks := B.notSynchronized
  have hts := atoms_spec (ws := (wq yX1_hasVertex cX1_hasVertex 2 (some .boolean))) B.pre
  have hw : ∀ w ∈ bigW, w.before _ s = true := fun w h => hts w (List.mem_cons_of_mem _ h)
  have hown : s.vm.findClass RX1 = some m.cls := findClass_of_methodNamed B.named
  have hl := lv_entry ([.ref (ad 1), .int x]) (n := 2) (Nat.le_of_ble_eq_true rfl)
  rw [lg_entry_eq]
  generalize (lg_sl ([.ref (ad 1), .int x]) ++ List.replicate (2 - (lg_sl ([.ref (ad 1), .int x])).length) Slot.unset).toArray = ls at hl ⊢
  have hl : lv_has ls 2 [(0, .ref (ad 1)), (1, .int x)] := hl
  refine lv_iload_n hx hb dX1_hasVertex_0 rfl (lv_at hl 1 rfl) ?_
  refine lv_if_lt (tgt := 16) hx hb dX1_hasVertex_1 (by decide) (fun b1 => ?_) (fun b1 => ?_)
  -- iflt at 1, t
  · refine lv_iconst (v := 0) hx hb dX1_hasVertex_16 (by decide) ?_
    exact W.zret (v := 0) hx hb hr rfl (fun t ht hW => ⟨_, rfl, zb_f (fun h => absurd h.1 (i_le_lt.mpr b1)), ht⟩) (fun _ h => by cases h) dX1_hasVertex_17
  -- iflt at 1, f
  · refine lv_iload_n hx hb dX1_hasVertex_4 rfl (lv_at hl 1 rfl) ?_
    refine lv_aload_n hx hb dX1_hasVertex_5 rfl (lv_at hl 0 rfl) ?_
    refine va_get (D := (dC, dI)) (ci := 1) (v := .int (nI n)) (C := RX1) (T := TX1) (N := 4) hx hb hw in_X1 hown hK hP 1 rfl rfl 2 (by decide) (hw _ mq_fl_X1_18) (fun _ h9 => h9) rfl dX1_hasVertex_6 ?_
    refine lv_icmp_ge (tgt := 16) hx hb dX1_hasVertex_9 (by decide) (fun b9 => ?_) (fun b9 => ?_)
    -- if_icmpge at 9, t
    · refine lv_iconst (v := 0) hx hb dX1_hasVertex_16 (by decide) ?_
      exact W.zret (v := 0) hx hb hr rfl (fun t ht hW => ⟨_, rfl, zb_f (fun h => absurd h.2 (i_lt_le.mpr b9)), ht⟩) (fun _ h => by cases h) dX1_hasVertex_17
    -- if_icmpge at 9, f
    · refine lv_iconst (v := 1) hx hb dX1_hasVertex_12 (by decide) ?_
      refine lv_goto (tgt := 17) hx hb dX1_hasVertex_13 (by decide) ?_
      exact W.zret (v := 1) hx hb hr rfl (fun t ht hW => ⟨_, rfl, zb_t ⟨i_lt_le.mp b1, i_le_lt.mp b9⟩, ht⟩) (fun _ h => by cases h) dX1_hasVertex_17
set_option maxHeartbeats 4000000 in
set_option maxRecDepth 100000 in
theorem c_X1_hasArc (l : Launch) (dC : Nat → ClassId) (dI : Nat → Nat → Nat) (cI : ClassId) (ad : Nat → Nat) (n a : Nat) (T H : Nat → Nat) (b : Nat) (R : Nat → Nat) (st : Int32) (O S : Nat → Int32) (x : Int32) : Met l yX1_hasArc (wq yX1_hasArc cX1_hasArc 2 (some .boolean)) ({ frames := 0, cells := 0, slots := 0, locals := 0 }) (ro_P (dC, dI) classes [(cI, .int)] (cw ad cI n a T H b R st O S) [.ref (ad 1), .int x]) (vp_Si (fun r => r = nI (ed_b (decide (0 ≤ x ∧ x < nI a))))) 0 0 (fun _ => False) := by
  refine Met.ofW (cc := cX1_hasArc) (maxL := 2) (ret := (some .boolean)) (by decide) rfl ?_
  intro p e s m args below meth c s₁ B hml hv
  obtain ⟨rfl, hP, hK, hN⟩ := hv
  have hx := B.exec
  have hb := B.bytes
  have hr := B.returns
  have hlocks := B.notSynchronized
  have hts := atoms_spec (ws := (wq yX1_hasArc cX1_hasArc 2 (some .boolean))) B.pre
  have hw : ∀ w ∈ bigW, w.before _ s = true := fun w h => hts w (List.mem_cons_of_mem _ h)
  have hown : s.vm.findClass RX1 = some m.cls := findClass_of_methodNamed B.named
  have hl := lv_entry ([.ref (ad 1), .int x]) (n := 2) (Nat.le_of_ble_eq_true rfl)
  rw [lg_entry_eq]
  generalize (lg_sl ([.ref (ad 1), .int x]) ++ List.replicate (2 - (lg_sl ([.ref (ad 1), .int x])).length) Slot.unset).toArray = ls at hl ⊢
  have hl : lv_has ls 2 [(0, .ref (ad 1)), (1, .int x)] := hl
  refine lv_iload_n hx hb dX1_hasArc_0 rfl (lv_at hl 1 rfl) ?_
  refine lv_if_lt (tgt := 16) hx hb dX1_hasArc_1 (by decide) (fun b1 => ?_) (fun b1 => ?_)
  -- iflt at 1, t
  · refine lv_iconst (v := 0) hx hb dX1_hasArc_16 (by decide) ?_
    exact W.zret (v := 0) hx hb hr rfl (fun t ht hW => ⟨_, rfl, zb_f (fun h => absurd h.1 (i_le_lt.mpr b1)), ht⟩) (fun _ h => by cases h) dX1_hasArc_17
  -- iflt at 1, f
  · refine lv_iload_n hx hb dX1_hasArc_4 rfl (lv_at hl 1 rfl) ?_
    refine lv_aload_n hx hb dX1_hasArc_5 rfl (lv_at hl 0 rfl) ?_
    refine va_get (D := (dC, dI)) (ci := 1) (v := .int (nI a)) (C := RX1) (T := TX1) (N := 4) hx hb hw in_X1 hown hK hP 1 rfl rfl 3 (by decide) (hw _ mq_fl_X1_22) (fun _ h9 => h9) rfl dX1_hasArc_6 ?_
    refine lv_icmp_ge (tgt := 16) hx hb dX1_hasArc_9 (by decide) (fun b9 => ?_) (fun b9 => ?_)
    -- if_icmpge at 9, t
    · refine lv_iconst (v := 0) hx hb dX1_hasArc_16 (by decide) ?_
      exact W.zret (v := 0) hx hb hr rfl (fun t ht hW => ⟨_, rfl, zb_f (fun h => absurd h.2 (i_lt_le.mpr b9)), ht⟩) (fun _ h => by cases h) dX1_hasArc_17
    -- if_icmpge at 9, f
    · refine lv_iconst (v := 1) hx hb dX1_hasArc_12 (by decide) ?_
      refine lv_goto (tgt := 17) hx hb dX1_hasArc_13 (by decide) ?_
      exact W.zret (v := 1) hx hb hr rfl (fun t ht hW => ⟨_, rfl, zb_t ⟨i_lt_le.mp b1, i_le_lt.mp b9⟩, ht⟩) (fun _ h => by cases h) dX1_hasArc_17
set_option maxHeartbeats 4000000 in
set_option maxRecDepth 100000 in
theorem c_X1_allVertices (l : Launch) (dC : Nat → ClassId) (dI : Nat → Nat → Nat) (cI : ClassId) (ad : Nat → Nat) (n a : Nat) (T H : Nat → Nat) (b : Nat) (R : Nat → Nat) (st : Int32) (O S : Nat → Int32) (hn : n ≤ 7) : Met l yX1_allVertices (wq yX1_allVertices cX1_allVertices 1 (some .int)) ({ frames := 0, cells := 0, slots := 0, locals := 0 }) (ro_P (dC, dI) classes [(cI, .int)] (cw ad cI n a T H b R st O S) [.ref (ad 1)]) (vp_Si (fun r => r = nI (2 ^ n - 1))) 0 0 (fun _ => False) := by
  refine Met.ofW (cc := cX1_allVertices) (maxL := 1) (ret := (some .int)) (by decide) rfl ?_
  intro p e s m args below meth c s₁ B hml hv
  obtain ⟨rfl, hP, hK, hN⟩ := hv
  have hx := B.exec
  have hb := B.bytes
  have hr := B.returns
  have hlocks := B.notSynchronized
  have hts := atoms_spec (ws := (wq yX1_allVertices cX1_allVertices 1 (some .int))) B.pre
  have hw : ∀ w ∈ bigW, w.before _ s = true := fun w h => hts w (List.mem_cons_of_mem _ h)
  have hown : s.vm.findClass RX1 = some m.cls := findClass_of_methodNamed B.named
  have hl := lv_entry ([.ref (ad 1)]) (n := 1) (Nat.le_of_ble_eq_true rfl)
  rw [lg_entry_eq]
  generalize (lg_sl ([.ref (ad 1)]) ++ List.replicate (1 - (lg_sl ([.ref (ad 1)])).length) Slot.unset).toArray = ls at hl ⊢
  have hl : lv_has ls 1 [(0, .ref (ad 1))] := hl
  refine lv_iconst (v := 1) hx hb dX1_allVertices_0 (by decide) ?_
  refine lv_aload_n hx hb dX1_allVertices_1 rfl (lv_at hl 0 rfl) ?_
  refine va_get (D := (dC, dI)) (ci := 1) (v := .int (nI n)) (C := RX1) (T := TX1) (N := 4) hx hb hw in_X1 hown hK hP 1 rfl rfl 2 (by decide) (hw _ mq_fl_X1_18) (fun _ h9 => h9) rfl dX1_allVertices_2 ?_
  refine lv_ishl hx hb dX1_allVertices_5 ?_
  refine lv_iconst (v := 1) hx hb dX1_allVertices_6 (by decide) ?_
  refine lv_isub hx hb dX1_allVertices_7 ?_
  refine lv_topi (fun z9 e9 => ?_)
  obtain rfl : z9 = nI (2 ^ n - 1) := e9.trans (bi_all hn)
  exact W.iret (v := nI (2 ^ n - 1)) hx hb hr (fun t ht hW => ⟨_, rfl, rfl, ht⟩) (fun _ h => by cases h) dX1_allVertices_8
set_option maxHeartbeats 4000000 in
set_option maxRecDepth 100000 in
theorem c_X1_hasSet (l : Launch) (dC : Nat → ClassId) (dI : Nat → Nat → Nat) (cI : ClassId) (ad : Nat → Nat) (n a : Nat) (T H : Nat → Nat) (b : Nat) (R : Nat → Nat) (st : Int32) (O S : Nat → Int32) (hn : n ≤ 7) (x : Int32) : Met l yX1_hasSet (wq yX1_hasSet cX1_hasSet 2 (some .boolean)) ({ frames := 1, cells := 0, slots := 0, locals := 20 }) (ro_P (dC, dI) classes [(cI, .int)] (cw ad cI n a T H b R st O S) [.ref (ad 1), .int x]) (vp_Si (fun r => r = nI (ed_b (decide (0 ≤ x ∧ x ≤ nI (2 ^ n - 1)))))) 0 0 (fun _ => False) := by
  refine Met.ofW (cc := cX1_hasSet) (maxL := 2) (ret := (some .boolean)) (by decide) rfl ?_
  intro p e s m args below meth c s₁ B hml hv
  obtain ⟨rfl, hP, hK, hN⟩ := hv
  have hx := B.exec
  have hb := B.bytes
  have hr := B.returns
  have hlocks := B.notSynchronized
  have hts := atoms_spec (ws := (wq yX1_hasSet cX1_hasSet 2 (some .boolean))) B.pre
  have hw : ∀ w ∈ bigW, w.before _ s = true := fun w h => hts w (List.mem_cons_of_mem _ h)
  have hown : s.vm.findClass RX1 = some m.cls := findClass_of_methodNamed B.named
  have hl := lv_entry ([.ref (ad 1), .int x]) (n := 2) (Nat.le_of_ble_eq_true rfl)
  rw [lg_entry_eq]
  generalize (lg_sl ([.ref (ad 1), .int x]) ++ List.replicate (2 - (lg_sl ([.ref (ad 1), .int x])).length) Slot.unset).toArray = ls at hl ⊢
  have hl : lv_has ls 2 [(0, .ref (ad 1)), (1, .int x)] := hl
  refine lv_iload_n hx hb dX1_hasSet_0 rfl (lv_at hl 1 rfl) ?_
  refine lv_if_lt (tgt := 16) hx hb dX1_hasSet_1 (by decide) (fun b1 => ?_) (fun b1 => ?_)
  -- iflt at 1, t
  · refine lv_iconst (v := 0) hx hb dX1_hasSet_16 (by decide) ?_
    exact W.zret (v := 0) hx hb hr rfl (fun t ht hW => ⟨_, rfl, zb_f (fun h => absurd h.1 (i_le_lt.mpr b1)), ht⟩) (fun _ h => by cases h) dX1_hasSet_17
  -- iflt at 1, f
  · refine lv_iload_n hx hb dX1_hasSet_4 rfl (lv_at hl 1 rfl) ?_
    refine lv_aload_n hx hb dX1_hasSet_5 rfl (lv_at hl 0 rfl) ?_
    refine ro_V (As := []) (rest := [.int x]) (b := ad 1) ⟨hx, hb, hml, hown, hts⟩ (c_X1_allVertices l dC dI cI ad n a T H b R st O S hn) (cwV 0 hts (bw_V mq_ml_X1_25 mq_im_X1_allVertices mq_se_X1_allVertices mq_in_X1 mq_co_X1_allVertices) rfl rfl rfl (by decide +kernel) ⟨Nat.le_of_ble_eq_true rfl, Nat.le_of_ble_eq_true rfl⟩) hP hK hN 1 rfl rfl rfl hl.1 rfl (Nat.le_of_ble_eq_true rfl) dX1_hasSet_6 ⟨Nat.zero_le _, Nat.zero_le _⟩ (fun r9 h9 => ?_)
    obtain rfl : r9 = nI (2 ^ n - 1) := h9
    refine lv_icmp_gt (tgt := 16) hx hb dX1_hasSet_9 (by decide) (fun b9 => ?_) (fun b9 => ?_)
    -- if_icmpgt at 9, t
    · refine lv_iconst (v := 0) hx hb dX1_hasSet_16 (by decide) ?_
      exact W.zret (v := 0) hx hb hr rfl (fun t ht hW => ⟨_, rfl, zb_f (fun h => absurd h.2 (i_le_lt.mpr b9)), ht⟩) (fun _ h => by cases h) dX1_hasSet_17
    -- if_icmpgt at 9, f
    · refine lv_iconst (v := 1) hx hb dX1_hasSet_12 (by decide) ?_
      refine lv_goto (tgt := 17) hx hb dX1_hasSet_13 (by decide) ?_
      exact W.zret (v := 1) hx hb hr rfl (fun t ht hW => ⟨_, rfl, zb_t ⟨i_lt_le.mp b1, i_lt_le.mp b9⟩, ht⟩) (fun _ h => by cases h) dX1_hasSet_17
set_option maxHeartbeats 4000000 in
set_option maxRecDepth 100000 in
theorem c_X1_enters (l : Launch) (dC : Nat → ClassId) (dI : Nat → Nat → Nat) (cI : ClassId) (ad : Nat → Nat) (n a : Nat) (T H : Nat → Nat) (b : Nat) (R : Nat → Nat) (st : Int32) (O S : Nat → Int32) (j X : Nat) (hj : j < 14) (hX : X < 128) (hT : ∀ i, T i < 7 ∧ H i < 7) : Met l yX1_enters (wq yX1_enters cX1_enters 3 (some .boolean)) ({ frames := 0, cells := 0, slots := 0, locals := 0 }) (ro_P (dC, dI) classes [(cI, .int)] (cw ad cI n a T H b R st O S) [.ref (ad 1), .int (nI j), .int (nI X)]) (vp_Si (fun r => r = nI (ed_b (ed_en T H X j)))) 0 0 (fun _ => False) := by
  have q7 := hT j
  refine Met.ofW (cc := cX1_enters) (maxL := 3) (ret := (some .boolean)) (by decide) rfl ?_
  intro p e s m args below meth c s₁ B hml hv
  obtain ⟨rfl, hP, hK, hN⟩ := hv
  have hx := B.exec
  have hb := B.bytes
  have hr := B.returns
  have hlocks := B.notSynchronized
  have hts := atoms_spec (ws := (wq yX1_enters cX1_enters 3 (some .boolean))) B.pre
  have hw : ∀ w ∈ bigW, w.before _ s = true := fun w h => hts w (List.mem_cons_of_mem _ h)
  have hown : s.vm.findClass RX1 = some m.cls := findClass_of_methodNamed B.named
  have hl := lv_entry ([.ref (ad 1), .int (nI j), .int (nI X)]) (n := 3) (Nat.le_of_ble_eq_true rfl)
  rw [lg_entry_eq]
  generalize (lg_sl ([.ref (ad 1), .int (nI j), .int (nI X)]) ++ List.replicate (3 - (lg_sl ([.ref (ad 1), .int (nI j), .int (nI X)])).length) Slot.unset).toArray = ls at hl ⊢
  have hl : lv_has ls 3 [(0, .ref (ad 1)), (1, .int (nI j)), (2, .int (nI X))] := hl
  refine lv_iload_n hx hb dX1_enters_0 rfl (lv_at hl 2 rfl) ?_
  refine lv_iconst (v := 1) hx hb dX1_enters_1 (by decide) ?_
  refine lv_aload_n hx hb dX1_enters_2 rfl (lv_at hl 0 rfl) ?_
  refine va_get (D := (dC, dI)) (ci := 1) (v := .ref (ad 3)) (C := RX1) (T := TX1) (N := 4) hx hb hw in_X1 hown hK hP 1 rfl rfl 1 (by decide) (hw _ mq_fl_X1_15) (fun _ h9 => h9) rfl dX1_enters_3 ?_
  refine lv_iload_n hx hb dX1_enters_6 rfl (lv_at hl 1 rfl) ?_
  refine va_iald hx hb hK hP 3 0 rfl rfl (vp_in_nI hj (by decide)) dX1_enters_7 ?_
  refine lv_topi (fun z9 e9 => ?_)
  obtain rfl : z9 = nI (H j) := e9.trans (ar_at H (by omega))
  refine lv_ishl hx hb dX1_enters_8 ?_
  refine lv_iand hx hb dX1_enters_9 ?_
  refine lv_if_eq (tgt := 30) hx hb dX1_enters_10 (by decide) (fun b10 => ?_) (fun b10 => ?_)
  -- ifeq at 10, t
  · have t10 := (bi_tb (by omega) (by omega)).mp b10
    refine lv_iconst (v := 0) hx hb dX1_enters_30 (by decide) ?_
    exact W.zret (v := 0) hx hb hr rfl (fun t ht hW => ⟨_, rfl, zb_F (by rw [ed_en, t10]; rfl), ht⟩) (fun _ h => by cases h) dX1_enters_31
  -- ifeq at 10, f
  · have t10 := (bi_tn (by omega) (by omega)).mp b10
    refine lv_iload_n hx hb dX1_enters_13 rfl (lv_at hl 2 rfl) ?_
    refine lv_iconst (v := 1) hx hb dX1_enters_14 (by decide) ?_
    refine lv_aload_n hx hb dX1_enters_15 rfl (lv_at hl 0 rfl) ?_
    refine va_get (D := (dC, dI)) (ci := 1) (v := .ref (ad 2)) (C := RX1) (T := TX1) (N := 4) hx hb hw in_X1 hown hK hP 1 rfl rfl 0 (by decide) (hw _ mq_fl_X1_9) (fun _ h9 => h9) rfl dX1_enters_16 ?_
    refine lv_iload_n hx hb dX1_enters_19 rfl (lv_at hl 1 rfl) ?_
    refine va_iald hx hb hK hP 2 0 rfl rfl (vp_in_nI hj (by decide)) dX1_enters_20 ?_
    refine lv_topi (fun z9 e9 => ?_)
    obtain rfl : z9 = nI (T j) := e9.trans (ar_at T (by omega))
    refine lv_ishl hx hb dX1_enters_21 ?_
    refine lv_iand hx hb dX1_enters_22 ?_
    refine lv_if_ne (tgt := 30) hx hb dX1_enters_23 (by decide) (fun b23 => ?_) (fun b23 => ?_)
    -- ifne at 23, t
    · have t23 := (bi_tn (by omega) (by omega)).mp b23
      refine lv_iconst (v := 0) hx hb dX1_enters_30 (by decide) ?_
      exact W.zret (v := 0) hx hb hr rfl (fun t ht hW => ⟨_, rfl, zb_F (by rw [ed_en, t23, Bool.not_true, Bool.and_false]), ht⟩) (fun _ h => by cases h) dX1_enters_31
    -- ifne at 23, f
    · have t23 := (bi_tb (by omega) (by omega)).mp b23
      refine lv_iconst (v := 1) hx hb dX1_enters_26 (by decide) ?_
      refine lv_goto (tgt := 31) hx hb dX1_enters_27 (by decide) ?_
      exact W.zret (v := 1) hx hb hr rfl (fun t ht hW => ⟨_, rfl, zb_T (by rw [ed_en, t10, t23]; rfl), ht⟩) (fun _ h => by cases h) dX1_enters_31
set_option maxHeartbeats 4000000 in
set_option maxRecDepth 100000 in
theorem c_X1_entrySize (l : Launch) (dC : Nat → ClassId) (dI : Nat → Nat → Nat) (cI : ClassId) (ad : Nat → Nat) (n a : Nat) (T H : Nat → Nat) (b : Nat) (R : Nat → Nat) (st : Int32) (O S : Nat → Int32) (X : Nat) (ha : a ≤ 14) (hX : X < 128) (hT : ∀ i, T i < 7 ∧ H i < 7) : Met l yX1_entrySize (wq yX1_entrySize cX1_entrySize 4 (some .int)) ({ frames := 1, cells := 0, slots := 0, locals := 22 }) (ro_P (dC, dI) classes [(cI, .int)] (cw ad cI n a T H b R st O S) [.ref (ad 1), .int (nI X)]) (vp_Si (fun r => r = nI (rho0 T H a X))) 0 0 (fun _ => False) := by
  refine Met.ofW (cc := cX1_entrySize) (maxL := 4) (ret := (some .int)) (by decide) rfl ?_
  intro p e s m args below meth c s₁ B hml hv
  obtain ⟨rfl, hP, hK, hN⟩ := hv
  have hx := B.exec
  have hb := B.bytes
  have hr := B.returns
  have hlocks := B.notSynchronized
  have hts := atoms_spec (ws := (wq yX1_entrySize cX1_entrySize 4 (some .int))) B.pre
  have hw : ∀ w ∈ bigW, w.before _ s = true := fun w h => hts w (List.mem_cons_of_mem _ h)
  have hown : s.vm.findClass RX1 = some m.cls := findClass_of_methodNamed B.named
  have hl := lv_entry ([.ref (ad 1), .int (nI X)]) (n := 4) (Nat.le_of_ble_eq_true rfl)
  rw [lg_entry_eq]
  generalize (lg_sl ([.ref (ad 1), .int (nI X)]) ++ List.replicate (4 - (lg_sl ([.ref (ad 1), .int (nI X)])).length) Slot.unset).toArray = ls at hl ⊢
  have hl : lv_has ls 4 [(0, .ref (ad 1)), (1, .int (nI X))] := hl
  refine lv_iconst (v := nI (rho0 T H 0 X)) hx hb dX1_entrySize_0 rfl ?_
  refine lv_istore_n (lv' := [(2, .int (nI (rho0 T H 0 X))), (0, .ref (ad 1)), (1, .int (nI X))]) hx hb dX1_entrySize_1 rfl hl (by decide) rfl (fun ls hl => ?_)
  refine lv_iconst (v := nI 0) hx hb dX1_entrySize_2 (by decide) ?_
  refine lv_istore_n (lv' := [(3, .int (nI 0)), (2, .int (nI (rho0 T H 0 X))), (0, .ref (ad 1)), (1, .int (nI X))]) hx hb dX1_entrySize_3 rfl hl (by decide) rfl (fun ls hl => ?_)
  refine wl_loop (fun k9 ls => ∃ (i : Nat), a - i = k9 ∧ (i ≤ a) ∧ lv_has ls 4 [(0, .ref (ad 1)), (1, .int (nI X)), (2, .int (nI (rho0 T H i X))), (3, .int (nI i))]) ?_ _ ⟨0, rfl, by omega, lv_sub hl [2, 3, 1, 0] rfl⟩
  clear hl
  intro k9 ls ih9 h9
  obtain ⟨i, k9e, hi, hl⟩ := h9
  have ih_4 := ih9
  clear ih9
  subst k9e
  refine lv_iload_n hx hb dX1_entrySize_4 rfl (lv_at hl 3 rfl) ?_
  refine lv_aload_n hx hb dX1_entrySize_5 rfl (lv_at hl 0 rfl) ?_
  refine va_get (D := (dC, dI)) (ci := 1) (v := .int (nI a)) (C := RX1) (T := TX1) (N := 4) hx hb hw in_X1 hown hK hP 1 rfl rfl 3 (by decide) (hw _ mq_fl_X1_22) (fun _ h9 => h9) rfl dX1_entrySize_6 ?_
  refine lv_icmp_ge (tgt := 30) hx hb dX1_entrySize_9 (by decide) (fun b9 => ?_) (fun b9 => ?_)
  -- if_icmpge at 9, t
  · have t9 := (nI_leI (by omega) (by omega)).mp b9
    obtain rfl : i = a := by omega
    refine lv_iload_n hx hb dX1_entrySize_30 rfl (lv_at hl 2 rfl) ?_
    exact W.iret (v := nI (rho0 T H i X)) hx hb hr (fun t ht hW => ⟨_, rfl, rfl, ht⟩) (fun _ h => by cases h) dX1_entrySize_31
  -- if_icmpge at 9, f
  · have t9 : i < a := Nat.lt_of_not_le (fun z => b9 (nI_le z (by omega)))
    refine lv_aload_n hx hb dX1_entrySize_12 rfl (lv_at hl 0 rfl) ?_
    refine lv_iload_n hx hb dX1_entrySize_13 rfl (lv_at hl 3 rfl) ?_
    refine lv_iload_n hx hb dX1_entrySize_14 rfl (lv_at hl 1 rfl) ?_
    refine ro_V (As := [.int (nI i), .int (nI X)]) (rest := []) (b := ad 1) ⟨hx, hb, hml, hown, hts⟩ (c_X1_enters l dC dI cI ad n a T H b R st O S i X (by omega) hX hT) (cwV 2 hts (bw_V mq_ml_X1_29 mq_im_X1_enters mq_se_X1_enters mq_in_X1 mq_co_X1_enters) rfl rfl rfl (by decide +kernel) ⟨Nat.le_of_ble_eq_true rfl, Nat.le_of_ble_eq_true rfl⟩) hP hK hN 1 rfl rfl rfl hl.1 rfl (Nat.le_of_ble_eq_true rfl) dX1_entrySize_15 ⟨Nat.zero_le _, Nat.zero_le _⟩ (fun r9 h9 => ?_)
    obtain rfl : r9 = nI (ed_b (ed_en T H X i)) := h9
    refine lv_if_eq (tgt := 24) hx hb dX1_entrySize_18 (by decide) (fun b18 => ?_) (fun b18 => ?_)
    -- ifeq at 18, t
    · have t18 := zb_0.mp b18
      refine lv_iinc (k := 3) (v := nI (i + 1)) (lv' := [(3, .int (nI (i + 1))), (0, .ref (ad 1)), (1, .int (nI X)), (2, .int (nI (rho0 T H i X)))]) hx hb dX1_entrySize_24 hl rfl (ii_1 _) (by decide) rfl (fun ls hl => ?_)
      refine lv_goto (tgt := 4) hx hb dX1_entrySize_27 (by decide) ?_
      have e8 : rho0 T H (i + 1) X = rho0 T H i X := by rw [rho0_s, t18]; rfl
      rw [← e8] at hl
      exact ih_4 _ _ (by omega) ⟨i + 1, rfl, by omega, lv_sub hl [1, 2, 3, 0] rfl⟩
    -- ifeq at 18, f
    · have t18 := zb_n0.mp b18
      refine lv_iinc (k := 2) (v := nI (rho0 T H i X + 1)) (lv' := [(2, .int (nI (rho0 T H i X + 1))), (0, .ref (ad 1)), (1, .int (nI X)), (3, .int (nI i))]) hx hb dX1_entrySize_21 hl rfl (ii_1 _) (by decide) rfl (fun ls hl => ?_)
      refine lv_iinc (k := 3) (v := nI (i + 1)) (lv' := [(3, .int (nI (i + 1))), (2, .int (nI (rho0 T H i X + 1))), (0, .ref (ad 1)), (1, .int (nI X))]) hx hb dX1_entrySize_24 hl rfl (ii_1 _) (by decide) rfl (fun ls hl => ?_)
      refine lv_goto (tgt := 4) hx hb dX1_entrySize_27 (by decide) ?_
      have e8 : rho0 T H (i + 1) X = rho0 T H i X + 1 := by rw [rho0_s, t18]; rfl
      rw [← e8] at hl
      exact ih_4 _ _ (by omega) ⟨i + 1, rfl, by omega, lv_sub hl [2, 3, 1, 0] rfl⟩
set_option maxHeartbeats 4000000 in
set_option maxRecDepth 100000 in
theorem c_X0_missing (l : Launch) (dC : Nat → ClassId) (dI : Nat → Nat → Nat) (cI : ClassId) (ad : Nat → Nat) (n a : Nat) (T H : Nat → Nat) (b : Nat) (R : Nat → Nat) (st : Int32) (O S : Nat → Int32) (X : Nat) (hb3 : b ≤ 3) (hR : ∀ k, R k < 128) : Met l yX0_missing (wq yX0_missing cX0_missing 4 (some .int)) ({ frames := 0, cells := 0, slots := 0, locals := 0 }) (ro_P (dC, dI) classes [(cI, .int)] (cw ad cI n a T H b R st O S) [.ref (ad 4), .int (nI X)]) (vp_Si (fun r => r = nI (ed_mis R b X))) 0 0 (fun _ => False) := by
  refine Met.ofW (cc := cX0_missing) (maxL := 4) (ret := (some .int)) (by decide) rfl ?_
  intro p e s m args below meth c s₁ B hml hv
  obtain ⟨rfl, hP, hK, hN⟩ := hv
  have hx := B.exec
  have hb := B.bytes
  have hr := B.returns
  have hlocks := B.notSynchronized
  have hts := atoms_spec (ws := (wq yX0_missing cX0_missing 4 (some .int))) B.pre
  have hw : ∀ w ∈ bigW, w.before _ s = true := fun w h => hts w (List.mem_cons_of_mem _ h)
  have hown : s.vm.findClass RX0 = some m.cls := findClass_of_methodNamed B.named
  have hl := lv_entry ([.ref (ad 4), .int (nI X)]) (n := 4) (Nat.le_of_ble_eq_true rfl)
  rw [lg_entry_eq]
  generalize (lg_sl ([.ref (ad 4), .int (nI X)]) ++ List.replicate (4 - (lg_sl ([.ref (ad 4), .int (nI X)])).length) Slot.unset).toArray = ls at hl ⊢
  have hl : lv_has ls 4 [(0, .ref (ad 4)), (1, .int (nI X))] := hl
  refine lv_iconst (v := nI (ed_mis R 0 X)) hx hb dX0_missing_0 rfl ?_
  refine lv_istore_n (lv' := [(2, .int (nI (ed_mis R 0 X))), (0, .ref (ad 4)), (1, .int (nI X))]) hx hb dX0_missing_1 rfl hl (by decide) rfl (fun ls hl => ?_)
  refine lv_iconst (v := nI 0) hx hb dX0_missing_2 (by decide) ?_
  refine lv_istore_n (lv' := [(3, .int (nI 0)), (2, .int (nI (ed_mis R 0 X))), (0, .ref (ad 4)), (1, .int (nI X))]) hx hb dX0_missing_3 rfl hl (by decide) rfl (fun ls hl => ?_)
  refine wl_loop (fun k9 ls => ∃ (i : Nat), b - i = k9 ∧ (i ≤ b) ∧ lv_has ls 4 [(0, .ref (ad 4)), (1, .int (nI X)), (2, .int (nI (ed_mis R i X))), (3, .int (nI i))]) ?_ _ ⟨0, rfl, by omega, lv_sub hl [2, 3, 1, 0] rfl⟩
  clear hl
  intro k9 ls ih9 h9
  obtain ⟨i, k9e, hi, hl⟩ := h9
  have ih_4 := ih9
  clear ih9
  subst k9e
  refine lv_iload_n hx hb dX0_missing_4 rfl (lv_at hl 3 rfl) ?_
  refine lv_aload_n hx hb dX0_missing_5 rfl (lv_at hl 0 rfl) ?_
  refine va_get (D := (dC, dI)) (ci := 0) (v := .int (nI b)) (C := RX0) (T := TX0) (N := 2) hx hb hw in_X0 hown hK hP 4 rfl rfl 1 (by decide) (hw _ mq_fl_X0_15) (fun _ h9 => h9) rfl dX0_missing_6 ?_
  refine lv_icmp_ge (tgt := 32) hx hb dX0_missing_9 (by decide) (fun b9 => ?_) (fun b9 => ?_)
  -- if_icmpge at 9, t
  · have t9 := (nI_leI (by omega) (by omega)).mp b9
    obtain rfl : i = b := by omega
    refine lv_iload_n hx hb dX0_missing_32 rfl (lv_at hl 2 rfl) ?_
    exact W.iret (v := nI (ed_mis R i X)) hx hb hr (fun t ht hW => ⟨_, rfl, rfl, ht⟩) (fun _ h => by cases h) dX0_missing_33
  -- if_icmpge at 9, f
  · have t9 : i < b := Nat.lt_of_not_le (fun z => b9 (nI_le z (by omega)))
    have q7 := hR i
    refine lv_aload_n hx hb dX0_missing_12 rfl (lv_at hl 0 rfl) ?_
    refine va_get (D := (dC, dI)) (ci := 0) (v := .ref (ad 5)) (C := RX0) (T := TX0) (N := 2) hx hb hw in_X0 hown hK hP 4 rfl rfl 0 (by decide) (hw _ mq_fl_X0_9) (fun _ h9 => h9) rfl dX0_missing_13 ?_
    refine lv_iload_n hx hb dX0_missing_16 rfl (lv_at hl 3 rfl) ?_
    refine va_iald hx hb hK hP 5 0 rfl rfl (vp_in_nI (by omega) (by decide)) dX0_missing_17 ?_
    refine lv_topi (fun z9 e9 => ?_)
    obtain rfl : z9 = nI (R i) := e9.trans (ar_at R (by omega))
    refine lv_iload_n hx hb dX0_missing_18 rfl (lv_at hl 1 rfl) ?_
    refine lv_iand hx hb dX0_missing_19 ?_
    refine lv_if_ne (tgt := 26) hx hb dX0_missing_20 (by decide) (fun b20 => ?_) (fun b20 => ?_)
    -- ifne at 20, t
    · have t20 : ¬ R i &&& X = 0 := fun z => b20 ((bi_z (by omega)).mpr z)
      refine lv_iinc (k := 3) (v := nI (i + 1)) (lv' := [(3, .int (nI (i + 1))), (0, .ref (ad 4)), (1, .int (nI X)), (2, .int (nI (ed_mis R i X)))]) hx hb dX0_missing_26 hl rfl (ii_1 _) (by decide) rfl (fun ls hl => ?_)
      refine lv_goto (tgt := 4) hx hb dX0_missing_29 (by decide) ?_
      have e8 : ed_mis R (i + 1) X = ed_mis R i X := by rw [ed_mis_s, beq_false_of_ne t20]; rfl
      rw [← e8] at hl
      exact ih_4 _ _ (by omega) ⟨i + 1, rfl, by omega, lv_sub hl [1, 2, 3, 0] rfl⟩
    -- ifne at 20, f
    · have t20 : R i &&& X = 0 := (bi_z (by omega)).mp b20
      refine lv_iinc (k := 2) (v := nI (ed_mis R i X + 1)) (lv' := [(2, .int (nI (ed_mis R i X + 1))), (0, .ref (ad 4)), (1, .int (nI X)), (3, .int (nI i))]) hx hb dX0_missing_23 hl rfl (ii_1 _) (by decide) rfl (fun ls hl => ?_)
      refine lv_iinc (k := 3) (v := nI (i + 1)) (lv' := [(3, .int (nI (i + 1))), (2, .int (nI (ed_mis R i X + 1))), (0, .ref (ad 4)), (1, .int (nI X))]) hx hb dX0_missing_26 hl rfl (ii_1 _) (by decide) rfl (fun ls hl => ?_)
      refine lv_goto (tgt := 4) hx hb dX0_missing_29 (by decide) ?_
      have e8 : ed_mis R (i + 1) X = ed_mis R i X + 1 := by rw [ed_mis_s, beq_iff_eq.mpr t20]; rfl
      rw [← e8] at hl
      exact ih_4 _ _ (by omega) ⟨i + 1, rfl, by omega, lv_sub hl [2, 3, 1, 0] rfl⟩
set_option maxHeartbeats 4000000 in
set_option maxRecDepth 100000 in
theorem c_X1_restart (l : Launch) (dC : Nat → ClassId) (dI : Nat → Nat → Nat) (cI : ClassId) (ad : Nat → Nat) (n a : Nat) (T H : Nat → Nat) (b : Nat) (R : Nat → Nat) (st : Int32) (O S : Nat → Int32) (sz : Nat) (v : Nat) : Met l yX1_restart (wq yX1_restart cX1_restart 2 none) ({ frames := 0, cells := 0, slots := 0, locals := 0 }) (mu_P (dC, dI) classes [(cI, .int)] (cw ad cI n a T H b R st O S) sz [.ref (ad 1), .int (nI v)]) (va_Qv (fun _ : Unit => True) (mu_B (dC, dI) classes [(cI, .int)] (cw ad cI n a T H b R st O S) sz (fun _ => cw ad cI v 0 T H b R st O S)) (va_A (cw ad cI n a T H b R st O S) sz)) 0 0 (va_A (cw ad cI n a T H b R st O S) sz) := by
  refine Met.ofW (cc := cX1_restart) (maxL := 2) (ret := none) (by decide) rfl ?_
  intro p e s m args below meth c s₁ B hml hv
  obtain ⟨rfl, hsz, hP, hK, hN, hD0⟩ := hv
  have hx := B.exec
  have hb := B.bytes
  have hr := B.returns
  have hlocks := B.notSynchronized
  have hts := atoms_spec (ws := (wq yX1_restart cX1_restart 2 none)) B.pre
  have hw : ∀ w ∈ bigW, w.before _ s = true := fun w h => hts w (List.mem_cons_of_mem _ h)
  have hown : s.vm.findClass RX1 = some m.cls := findClass_of_methodNamed B.named
  subst hsz
  have hD := hD0.self (sz := s.heap.size)
  generalize hAe : va_A (cw ad cI n a T H b R st O S) s.heap.size = A at hD ⊢
  have hA : ∀ q : Nat, s.heap.size ≤ q → A q := fun q h => by rw [← hAe]; exact Or.inr h
  have hS : va_S A s.heap s.heap [] := va_S.rf
  have hl := lv_entry ([.ref (ad 1), .int (nI v)]) (n := 2) (Nat.le_of_ble_eq_true rfl)
  rw [lg_entry_eq]
  generalize (lg_sl ([.ref (ad 1), .int (nI v)]) ++ List.replicate (2 - (lg_sl ([.ref (ad 1), .int (nI v)])).length) Slot.unset).toArray = ls at hl ⊢
  have hl : lv_has ls 2 [(0, .ref (ad 1)), (1, .int (nI v))] := hl
  refine lv_aload_n hx hb dX1_restart_0 rfl (lv_at hl 0 rfl) ?_
  refine lv_iload_n hx hb dX1_restart_1 rfl (lv_at hl 1 rfl) ?_
  refine va_put (D := (dC, dI)) (ci := 1) (v := .int (nI v)) (ty := .int) (C := RX1) (T := TX1) (N := 4) hx hb hw in_X1 tyX1 tyX1_ok nmX1 hown hK hP hD hS 1 rfl rfl 2 (by decide) (hw _ mq_fl_X1_18) (fun _ h9 => h9) rfl (by decide +kernel) rfl rfl (Nat.le_of_ble_eq_true rfl) dX1_restart_2 (fun Hp locs hP hD hS => ?_)
  have hP : va_P (dC, dI) classes (cw ad cI v a T H b R st O S) Hp := hP
  have hD : va_D A (cw ad cI v a T H b R st O S) := hD
  refine lv_aload_n hx hb dX1_restart_5 rfl (lv_at hl 0 rfl) ?_
  refine lv_iconst (v := nI 0) hx hb dX1_restart_6 (by decide) ?_
  refine va_put (D := (dC, dI)) (ci := 1) (v := .int (nI 0)) (ty := .int) (C := RX1) (T := TX1) (N := 4) hx hb hw in_X1 tyX1 tyX1_ok nmX1 hown hK hP hD hS 1 rfl rfl 3 (by decide) (hw _ mq_fl_X1_22) (fun _ h9 => h9) rfl (by decide +kernel) rfl rfl (Nat.le_of_ble_eq_true rfl) dX1_restart_7 (fun Hp locs hP hD hS => ?_)
  have hP : va_P (dC, dI) classes (cw ad cI v 0 T H b R st O S) Hp := hP
  have hD : va_D A (cw ad cI v 0 T H b R st O S) := hD
  exact W.vret hx hb hr (fun t ht hW => ⟨⟨(), rfl, trivial, by rw [ht]; exact hP, va_K.moved hW.alike hK, by rw [hAe]; exact hD⟩, hS.F ht⟩) hS.2.2 dX1_restart_10
set_option maxHeartbeats 4000000 in
set_option maxRecDepth 100000 in
theorem c_X1_addArc (l : Launch) (dC : Nat → ClassId) (dI : Nat → Nat → Nat) (cI : ClassId) (ad : Nat → Nat) (n a : Nat) (T H : Nat → Nat) (b : Nat) (R : Nat → Nat) (st : Int32) (O S : Nat → Int32) (sz : Nat) (x y : Nat) (ha : a < 14) : Met l yX1_addArc (wq yX1_addArc cX1_addArc 3 none) ({ frames := 0, cells := 0, slots := 0, locals := 0 }) (mu_P (dC, dI) classes [(cI, .int)] (cw ad cI n a T H b R st O S) sz [.ref (ad 1), .int (nI x), .int (nI y)]) (va_Qv (fun _ : Unit => True) (mu_B (dC, dI) classes [(cI, .int)] (cw ad cI n a T H b R st O S) sz (fun _ => cw ad cI n (a + 1) (up T a x) (up H a y) b R st O S)) (va_A (cw ad cI n a T H b R st O S) sz)) 0 0 (va_A (cw ad cI n a T H b R st O S) sz) := by
  refine Met.ofW (cc := cX1_addArc) (maxL := 3) (ret := none) (by decide) rfl ?_
  intro p e s m args below meth c s₁ B hml hv
  obtain ⟨rfl, hsz, hP, hK, hN, hD0⟩ := hv
  have hx := B.exec
  have hb := B.bytes
  have hr := B.returns
  have hlocks := B.notSynchronized
  have hts := atoms_spec (ws := (wq yX1_addArc cX1_addArc 3 none)) B.pre
  have hw : ∀ w ∈ bigW, w.before _ s = true := fun w h => hts w (List.mem_cons_of_mem _ h)
  have hown : s.vm.findClass RX1 = some m.cls := findClass_of_methodNamed B.named
  subst hsz
  have hD := hD0.self (sz := s.heap.size)
  generalize hAe : va_A (cw ad cI n a T H b R st O S) s.heap.size = A at hD ⊢
  have hA : ∀ q : Nat, s.heap.size ≤ q → A q := fun q h => by rw [← hAe]; exact Or.inr h
  have hS : va_S A s.heap s.heap [] := va_S.rf
  have hl := lv_entry ([.ref (ad 1), .int (nI x), .int (nI y)]) (n := 3) (Nat.le_of_ble_eq_true rfl)
  rw [lg_entry_eq]
  generalize (lg_sl ([.ref (ad 1), .int (nI x), .int (nI y)]) ++ List.replicate (3 - (lg_sl ([.ref (ad 1), .int (nI x), .int (nI y)])).length) Slot.unset).toArray = ls at hl ⊢
  have hl : lv_has ls 3 [(0, .ref (ad 1)), (1, .int (nI x)), (2, .int (nI y))] := hl
  refine lv_aload_n hx hb dX1_addArc_0 rfl (lv_at hl 0 rfl) ?_
  refine va_get (D := (dC, dI)) (ci := 1) (v := .ref (ad 2)) (C := RX1) (T := TX1) (N := 4) hx hb hw in_X1 hown hK hP 1 rfl rfl 0 (by decide) (hw _ mq_fl_X1_9) (fun _ h9 => h9) rfl dX1_addArc_1 ?_
  refine lv_aload_n hx hb dX1_addArc_4 rfl (lv_at hl 0 rfl) ?_
  refine va_get (D := (dC, dI)) (ci := 1) (v := .int (nI a)) (C := RX1) (T := TX1) (N := 4) hx hb hw in_X1 hown hK hP 1 rfl rfl 3 (by decide) (hw _ mq_fl_X1_22) (fun _ h9 => h9) rfl dX1_addArc_5 ?_
  refine lv_iload_n hx hb dX1_addArc_8 rfl (lv_at hl 1 rfl) ?_
  refine va_iast hx hb hK hP hD hS 2 0 rfl rfl (vp_in_nI ha (by decide)) dX1_addArc_9 (fun Hp locs hP hD hS => ?_)
  rw [nI_clamp (show a < 2 ^ 31 by omega), ar_up] at hP hD
  have hP : va_P (dC, dI) classes (cw ad cI n a (up T a x) H b R st O S) Hp := hP
  have hD : va_D A (cw ad cI n a (up T a x) H b R st O S) := hD
  refine lv_aload_n hx hb dX1_addArc_10 rfl (lv_at hl 0 rfl) ?_
  refine va_get (D := (dC, dI)) (ci := 1) (v := .ref (ad 3)) (C := RX1) (T := TX1) (N := 4) hx hb hw in_X1 hown hK hP 1 rfl rfl 1 (by decide) (hw _ mq_fl_X1_15) (fun _ h9 => h9) rfl dX1_addArc_11 ?_
  refine lv_aload_n hx hb dX1_addArc_14 rfl (lv_at hl 0 rfl) ?_
  refine va_get (D := (dC, dI)) (ci := 1) (v := .int (nI a)) (C := RX1) (T := TX1) (N := 4) hx hb hw in_X1 hown hK hP 1 rfl rfl 3 (by decide) (hw _ mq_fl_X1_22) (fun _ h9 => h9) rfl dX1_addArc_15 ?_
  refine lv_iload_n hx hb dX1_addArc_18 rfl (lv_at hl 2 rfl) ?_
  refine va_iast hx hb hK hP hD hS 3 0 rfl rfl (vp_in_nI ha (by decide)) dX1_addArc_19 (fun Hp locs hP hD hS => ?_)
  rw [nI_clamp (show a < 2 ^ 31 by omega), ar_up] at hP hD
  have hP : va_P (dC, dI) classes (cw ad cI n a (up T a x) (up H a y) b R st O S) Hp := hP
  have hD : va_D A (cw ad cI n a (up T a x) (up H a y) b R st O S) := hD
  refine lv_aload_n hx hb dX1_addArc_20 rfl (lv_at hl 0 rfl) ?_
  refine lv_dup hx hb dX1_addArc_21 rfl ?_
  refine va_get (D := (dC, dI)) (ci := 1) (v := .int (nI a)) (C := RX1) (T := TX1) (N := 4) hx hb hw in_X1 hown hK hP 1 rfl rfl 3 (by decide) (hw _ mq_fl_X1_22) (fun _ h9 => h9) rfl dX1_addArc_22 ?_
  refine lv_iconst (v := 1) hx hb dX1_addArc_25 (by decide) ?_
  refine lv_iadd hx hb dX1_addArc_26 ?_
  refine lv_topi (fun z9 e9 => ?_)
  obtain rfl : z9 = nI (a + 1) := e9.trans (nI_1 a)
  refine va_put (D := (dC, dI)) (ci := 1) (v := .int (nI (a + 1))) (ty := .int) (C := RX1) (T := TX1) (N := 4) hx hb hw in_X1 tyX1 tyX1_ok nmX1 hown hK hP hD hS 1 rfl rfl 3 (by decide) (hw _ mq_fl_X1_22) (fun _ h9 => h9) rfl (by decide +kernel) rfl rfl (Nat.le_of_ble_eq_true rfl) dX1_addArc_27 (fun Hp locs hP hD hS => ?_)
  have hP : va_P (dC, dI) classes (cw ad cI n (a + 1) (up T a x) (up H a y) b R st O S) Hp := hP
  have hD : va_D A (cw ad cI n (a + 1) (up T a x) (up H a y) b R st O S) := hD
  exact W.vret hx hb hr (fun t ht hW => ⟨⟨(), rfl, trivial, by rw [ht]; exact hP, va_K.moved hW.alike hK, by rw [hAe]; exact hD⟩, hS.F ht⟩) hS.2.2 dX1_addArc_30
set_option maxHeartbeats 4000000 in
set_option maxRecDepth 100000 in
theorem c_X0_add (l : Launch) (dC : Nat → ClassId) (dI : Nat → Nat → Nat) (cI : ClassId) (ad : Nat → Nat) (n a : Nat) (T H : Nat → Nat) (b : Nat) (R : Nat → Nat) (st : Int32) (O S : Nat → Int32) (sz : Nat) (x : Nat) (hb3 : b < 3) : Met l yX0_add (wq yX0_add cX0_add 2 none) ({ frames := 0, cells := 0, slots := 0, locals := 0 }) (mu_P (dC, dI) classes [(cI, .int)] (cw ad cI n a T H b R st O S) sz [.ref (ad 4), .int (nI x)]) (va_Qv (fun _ : Unit => True) (mu_B (dC, dI) classes [(cI, .int)] (cw ad cI n a T H b R st O S) sz (fun _ => cw ad cI n a T H (b + 1) (up R b x) st O S)) (va_A (cw ad cI n a T H b R st O S) sz)) 0 0 (va_A (cw ad cI n a T H b R st O S) sz) := by
  refine Met.ofW (cc := cX0_add) (maxL := 2) (ret := none) (by decide) rfl ?_
  intro p e s m args below meth c s₁ B hml hv
  obtain ⟨rfl, hsz, hP, hK, hN, hD0⟩ := hv
  have hx := B.exec
  have hb := B.bytes
  have hr := B.returns
  have hlocks := B.notSynchronized
  have hts := atoms_spec (ws := (wq yX0_add cX0_add 2 none)) B.pre
  have hw : ∀ w ∈ bigW, w.before _ s = true := fun w h => hts w (List.mem_cons_of_mem _ h)
  have hown : s.vm.findClass RX0 = some m.cls := findClass_of_methodNamed B.named
  subst hsz
  have hD := hD0.self (sz := s.heap.size)
  generalize hAe : va_A (cw ad cI n a T H b R st O S) s.heap.size = A at hD ⊢
  have hA : ∀ q : Nat, s.heap.size ≤ q → A q := fun q h => by rw [← hAe]; exact Or.inr h
  have hS : va_S A s.heap s.heap [] := va_S.rf
  have hl := lv_entry ([.ref (ad 4), .int (nI x)]) (n := 2) (Nat.le_of_ble_eq_true rfl)
  rw [lg_entry_eq]
  generalize (lg_sl ([.ref (ad 4), .int (nI x)]) ++ List.replicate (2 - (lg_sl ([.ref (ad 4), .int (nI x)])).length) Slot.unset).toArray = ls at hl ⊢
  have hl : lv_has ls 2 [(0, .ref (ad 4)), (1, .int (nI x))] := hl
  refine lv_aload_n hx hb dX0_add_0 rfl (lv_at hl 0 rfl) ?_
  refine va_get (D := (dC, dI)) (ci := 0) (v := .ref (ad 5)) (C := RX0) (T := TX0) (N := 2) hx hb hw in_X0 hown hK hP 4 rfl rfl 0 (by decide) (hw _ mq_fl_X0_9) (fun _ h9 => h9) rfl dX0_add_1 ?_
  refine lv_aload_n hx hb dX0_add_4 rfl (lv_at hl 0 rfl) ?_
  refine va_get (D := (dC, dI)) (ci := 0) (v := .int (nI b)) (C := RX0) (T := TX0) (N := 2) hx hb hw in_X0 hown hK hP 4 rfl rfl 1 (by decide) (hw _ mq_fl_X0_15) (fun _ h9 => h9) rfl dX0_add_5 ?_
  refine lv_iload_n hx hb dX0_add_8 rfl (lv_at hl 1 rfl) ?_
  refine va_iast hx hb hK hP hD hS 5 0 rfl rfl (vp_in_nI hb3 (by decide)) dX0_add_9 (fun Hp locs hP hD hS => ?_)
  rw [nI_clamp (show b < 2 ^ 31 by omega), ar_up] at hP hD
  have hP : va_P (dC, dI) classes (cw ad cI n a T H b (up R b x) st O S) Hp := hP
  have hD : va_D A (cw ad cI n a T H b (up R b x) st O S) := hD
  refine lv_aload_n hx hb dX0_add_10 rfl (lv_at hl 0 rfl) ?_
  refine lv_dup hx hb dX0_add_11 rfl ?_
  refine va_get (D := (dC, dI)) (ci := 0) (v := .int (nI b)) (C := RX0) (T := TX0) (N := 2) hx hb hw in_X0 hown hK hP 4 rfl rfl 1 (by decide) (hw _ mq_fl_X0_15) (fun _ h9 => h9) rfl dX0_add_12 ?_
  refine lv_iconst (v := 1) hx hb dX0_add_15 (by decide) ?_
  refine lv_iadd hx hb dX0_add_16 ?_
  refine lv_topi (fun z9 e9 => ?_)
  obtain rfl : z9 = nI (b + 1) := e9.trans (nI_1 b)
  refine va_put (D := (dC, dI)) (ci := 0) (v := .int (nI (b + 1))) (ty := .int) (C := RX0) (T := TX0) (N := 2) hx hb hw in_X0 tyX0 tyX0_ok nmX0 hown hK hP hD hS 4 rfl rfl 1 (by decide) (hw _ mq_fl_X0_15) (fun _ h9 => h9) rfl (by decide +kernel) rfl rfl (Nat.le_of_ble_eq_true rfl) dX0_add_17 (fun Hp locs hP hD hS => ?_)
  have hP : va_P (dC, dI) classes (cw ad cI n a T H (b + 1) (up R b x) st O S) Hp := hP
  have hD : va_D A (cw ad cI n a T H (b + 1) (up R b x) st O S) := hD
  exact W.vret hx hb hr (fun t ht hW => ⟨⟨(), rfl, trivial, by rw [ht]; exact hP, va_K.moved hW.alike hK, by rw [hAe]; exact hD⟩, hS.F ht⟩) hS.2.2 dX0_add_20
set_option maxHeartbeats 4000000 in
set_option maxRecDepth 100000 in
theorem c_X1_removeArc (l : Launch) (dC : Nat → ClassId) (dI : Nat → Nat → Nat) (cI : ClassId) (ad : Nat → Nat) (n a : Nat) (T H : Nat → Nat) (b : Nat) (R : Nat → Nat) (st : Int32) (O S : Nat → Int32) (sz : Nat) (j : Nat) (hj : j < a) (ha : a ≤ 14) : Met l yX1_removeArc (wq yX1_removeArc cX1_removeArc 3 none) ({ frames := 0, cells := 0, slots := 0, locals := 0 }) (mu_P (dC, dI) classes [(cI, .int)] (cw ad cI n a T H b R st O S) sz [.ref (ad 1), .int (nI j)]) (va_Qv (fun _ : Unit => True) (mu_B (dC, dI) classes [(cI, .int)] (cw ad cI n a T H b R st O S) sz (fun _ => cw ad cI n (a - 1) (rm_f T j (a - 1)) (rm_f H j (a - 1)) b R st O S)) (va_A (cw ad cI n a T H b R st O S) sz)) 0 0 (va_A (cw ad cI n a T H b R st O S) sz) := by
  refine Met.ofW (cc := cX1_removeArc) (maxL := 3) (ret := none) (by decide) rfl ?_
  intro p e s m args below meth c s₁ B hml hv
  obtain ⟨rfl, hsz, hP, hK, hN, hD0⟩ := hv
  have hx := B.exec
  have hb := B.bytes
  have hr := B.returns
  have hlocks := B.notSynchronized
  have hts := atoms_spec (ws := (wq yX1_removeArc cX1_removeArc 3 none)) B.pre
  have hw : ∀ w ∈ bigW, w.before _ s = true := fun w h => hts w (List.mem_cons_of_mem _ h)
  have hown : s.vm.findClass RX1 = some m.cls := findClass_of_methodNamed B.named
  subst hsz
  have hD := hD0.self (sz := s.heap.size)
  generalize hAe : va_A (cw ad cI n a T H b R st O S) s.heap.size = A at hD ⊢
  have hA : ∀ q : Nat, s.heap.size ≤ q → A q := fun q h => by rw [← hAe]; exact Or.inr h
  have hS : va_S A s.heap s.heap [] := va_S.rf
  have hl := lv_entry ([.ref (ad 1), .int (nI j)]) (n := 3) (Nat.le_of_ble_eq_true rfl)
  rw [lg_entry_eq]
  generalize (lg_sl ([.ref (ad 1), .int (nI j)]) ++ List.replicate (3 - (lg_sl ([.ref (ad 1), .int (nI j)])).length) Slot.unset).toArray = ls at hl ⊢
  have hl : lv_has ls 3 [(0, .ref (ad 1)), (1, .int (nI j))] := hl
  refine lv_aload_n hx hb dX1_removeArc_0 rfl (lv_at hl 0 rfl) ?_
  refine lv_dup hx hb dX1_removeArc_1 rfl ?_
  refine va_get (D := (dC, dI)) (ci := 1) (v := .int (nI a)) (C := RX1) (T := TX1) (N := 4) hx hb hw in_X1 hown hK hP 1 rfl rfl 3 (by decide) (hw _ mq_fl_X1_22) (fun _ h9 => h9) rfl dX1_removeArc_2 ?_
  refine lv_iconst (v := 1) hx hb dX1_removeArc_5 (by decide) ?_
  refine lv_isub hx hb dX1_removeArc_6 ?_
  refine lv_topi (fun z9 e9 => ?_)
  obtain rfl : z9 = nI (a - 1) := e9.trans (pk_sub (b := 1) (by omega))
  refine va_put (D := (dC, dI)) (ci := 1) (v := .int (nI (a - 1))) (ty := .int) (C := RX1) (T := TX1) (N := 4) hx hb hw in_X1 tyX1 tyX1_ok nmX1 hown hK hP hD hS 1 rfl rfl 3 (by decide) (hw _ mq_fl_X1_22) (fun _ h9 => h9) rfl (by decide +kernel) rfl rfl (Nat.le_of_ble_eq_true rfl) dX1_removeArc_7 (fun Hp locs hP hD hS => ?_)
  have hP : va_P (dC, dI) classes (cw ad cI n (a - 1) T H b R st O S) Hp := hP
  have hD : va_D A (cw ad cI n (a - 1) T H b R st O S) := hD
  refine lv_iload_n hx hb dX1_removeArc_10 rfl (lv_at hl 1 rfl) ?_
  refine lv_istore_n (lv' := [(2, .int (nI j)), (0, .ref (ad 1)), (1, .int (nI j))]) hx hb dX1_removeArc_11 rfl hl (by decide) rfl (fun ls hl => ?_)
  rw [← rm_0 T j, ← rm_0 H j] at hP hD
  refine wl_loopH (fun k9 Hp locs ls => ∃ (i : Nat), a - i = k9 ∧ (j ≤ i ∧ i ≤ a - 1) ∧ lv_has ls 3 [(0, .ref (ad 1)), (1, .int (nI j)), (2, .int (nI i))] ∧ va_P (dC, dI) classes (cw ad cI n (a - 1) (rm_f T j i) (rm_f H j i) b R st O S) Hp ∧ va_D A (cw ad cI n (a - 1) (rm_f T j i) (rm_f H j i) b R st O S) ∧ va_S A s.heap Hp locs) ?_ _ ⟨j, rfl, by omega, lv_sub hl [1, 2, 0] rfl, hP, hD, hS⟩
  clear hP hD hS hl
  intro k9 Hp locs ls ih9 h9
  obtain ⟨i, k9e, hi, hl, hP, hD, hS⟩ := h9
  have ih_12 := ih9
  clear ih9
  subst k9e
  refine lv_iload_n hx hb dX1_removeArc_12 rfl (lv_at hl 2 rfl) ?_
  refine lv_aload_n hx hb dX1_removeArc_13 rfl (lv_at hl 0 rfl) ?_
  refine va_get (D := (dC, dI)) (ci := 1) (v := .int (nI (a - 1))) (C := RX1) (T := TX1) (N := 4) hx hb hw in_X1 hown hK hP 1 rfl rfl 3 (by decide) (hw _ mq_fl_X1_22) (fun _ h9 => h9) rfl dX1_removeArc_14 ?_
  refine lv_icmp_ge (tgt := 54) hx hb dX1_removeArc_17 (by decide) (fun b17 => ?_) (fun b17 => ?_)
  -- if_icmpge at 17, t
  · have t17 := (nI_leI (by omega) (by omega)).mp b17
    obtain rfl : i = a - 1 := by omega
    exact W.vret hx hb hr (fun t ht hW => ⟨⟨(), rfl, trivial, by rw [ht]; exact hP, va_K.moved hW.alike hK, by rw [hAe]; exact hD⟩, hS.F ht⟩) hS.2.2 dX1_removeArc_54
  -- if_icmpge at 17, f
  · have t17 : i < a - 1 := Nat.lt_of_not_le (fun z => b17 (nI_le z (by omega)))
    refine lv_aload_n hx hb dX1_removeArc_20 rfl (lv_at hl 0 rfl) ?_
    refine va_get (D := (dC, dI)) (ci := 1) (v := .ref (ad 2)) (C := RX1) (T := TX1) (N := 4) hx hb hw in_X1 hown hK hP 1 rfl rfl 0 (by decide) (hw _ mq_fl_X1_9) (fun _ h9 => h9) rfl dX1_removeArc_21 ?_
    refine lv_iload_n hx hb dX1_removeArc_24 rfl (lv_at hl 2 rfl) ?_
    refine lv_aload_n hx hb dX1_removeArc_25 rfl (lv_at hl 0 rfl) ?_
    refine va_get (D := (dC, dI)) (ci := 1) (v := .ref (ad 2)) (C := RX1) (T := TX1) (N := 4) hx hb hw in_X1 hown hK hP 1 rfl rfl 0 (by decide) (hw _ mq_fl_X1_9) (fun _ h9 => h9) rfl dX1_removeArc_26 ?_
    refine lv_iload_n hx hb dX1_removeArc_29 rfl (lv_at hl 2 rfl) ?_
    refine lv_iconst (v := 1) hx hb dX1_removeArc_30 (by decide) ?_
    refine lv_iadd hx hb dX1_removeArc_31 ?_
    refine lv_topi (fun z9 e9 => ?_)
    obtain rfl : z9 = nI (i + 1) := e9.trans (nI_1 i)
    refine va_iald hx hb hK hP 2 0 rfl rfl (vp_in_nI (by omega) (by decide)) dX1_removeArc_32 ?_
    refine lv_topi (fun z9 e9 => ?_)
    obtain rfl : z9 = nI (rm_f T j i (i + 1)) := e9.trans (ar_at _ (by omega))
    refine va_iast hx hb hK hP hD hS 2 0 rfl rfl (vp_in_nI (by omega) (by decide)) dX1_removeArc_33 (fun Hp locs hP hD hS => ?_)
    rw [nI_clamp (show i < 2 ^ 31 by omega), ar_up, rm_s hi.1] at hP hD
    have hP : va_P (dC, dI) classes (cw ad cI n (a - 1) (rm_f T j (i + 1)) (rm_f H j i) b R st O S) Hp := hP
    have hD : va_D A (cw ad cI n (a - 1) (rm_f T j (i + 1)) (rm_f H j i) b R st O S) := hD
    refine lv_aload_n hx hb dX1_removeArc_34 rfl (lv_at hl 0 rfl) ?_
    refine va_get (D := (dC, dI)) (ci := 1) (v := .ref (ad 3)) (C := RX1) (T := TX1) (N := 4) hx hb hw in_X1 hown hK hP 1 rfl rfl 1 (by decide) (hw _ mq_fl_X1_15) (fun _ h9 => h9) rfl dX1_removeArc_35 ?_
    refine lv_iload_n hx hb dX1_removeArc_38 rfl (lv_at hl 2 rfl) ?_
    refine lv_aload_n hx hb dX1_removeArc_39 rfl (lv_at hl 0 rfl) ?_
    refine va_get (D := (dC, dI)) (ci := 1) (v := .ref (ad 3)) (C := RX1) (T := TX1) (N := 4) hx hb hw in_X1 hown hK hP 1 rfl rfl 1 (by decide) (hw _ mq_fl_X1_15) (fun _ h9 => h9) rfl dX1_removeArc_40 ?_
    refine lv_iload_n hx hb dX1_removeArc_43 rfl (lv_at hl 2 rfl) ?_
    refine lv_iconst (v := 1) hx hb dX1_removeArc_44 (by decide) ?_
    refine lv_iadd hx hb dX1_removeArc_45 ?_
    refine lv_topi (fun z9 e9 => ?_)
    obtain rfl : z9 = nI (i + 1) := e9.trans (nI_1 i)
    refine va_iald hx hb hK hP 3 0 rfl rfl (vp_in_nI (by omega) (by decide)) dX1_removeArc_46 ?_
    refine lv_topi (fun z9 e9 => ?_)
    obtain rfl : z9 = nI (rm_f H j i (i + 1)) := e9.trans (ar_at _ (by omega))
    refine va_iast hx hb hK hP hD hS 3 0 rfl rfl (vp_in_nI (by omega) (by decide)) dX1_removeArc_47 (fun Hp locs hP hD hS => ?_)
    rw [nI_clamp (show i < 2 ^ 31 by omega), ar_up, rm_s hi.1] at hP hD
    have hP : va_P (dC, dI) classes (cw ad cI n (a - 1) (rm_f T j (i + 1)) (rm_f H j (i + 1)) b R st O S) Hp := hP
    have hD : va_D A (cw ad cI n (a - 1) (rm_f T j (i + 1)) (rm_f H j (i + 1)) b R st O S) := hD
    refine lv_iinc (k := 2) (v := nI (i + 1)) (lv' := [(2, .int (nI (i + 1))), (0, .ref (ad 1)), (1, .int (nI j))]) hx hb dX1_removeArc_48 hl rfl (ii_1 _) (by decide) rfl (fun ls hl => ?_)
    refine lv_goto (tgt := 12) hx hb dX1_removeArc_51 (by decide) ?_
    exact ih_12 _ _ _ _ (by omega) ⟨i + 1, rfl, by omega, lv_sub hl [1, 2, 0] rfl, hP, hD, hS⟩
end
section
/-! Packing: the greedy run over the surplus rows -/
def us_S (T H : Nat → Nat) (had j : Nat) (S : Nat → Int32) (X : Nat) : Nat → Int32 := fun Y => if 0 < Y ∧ Y < X ∧ su_tk T H had j Y = true then S Y - 1 else S Y
theorem us_1 (T H : Nat → Nat) (had j : Nat) (S : Nat → Int32) : us_S T H had j S 1 = S := by
  funext Y
  rw [us_S, if_neg (fun h => by omega)]
theorem us_at (T H : Nat → Nat) (had j : Nat) (S : Nat → Int32) (X : Nat) : us_S T H had j S X X = S X := by rw [us_S, if_neg (fun h => by omega)]
theorem us_n {T H : Nat → Nat} {had j : Nat} {S : Nat → Int32} {X : Nat} (h : su_tk T H had j X = false) : us_S T H had j S (X + 1) = us_S T H had j S X := by
  funext Y
  rw [us_S, us_S]
  by_cases hY : Y = X
  · subst hY
    rw [if_neg (fun z => by rw [h] at z; exact absurd z.2.2 (by decide)), if_neg (fun z => by omega)]
  · by_cases hc : 0 < Y ∧ Y < X ∧ su_tk T H had j Y = true
    · rw [if_pos hc, if_pos ⟨hc.1, by omega, hc.2.2⟩]
    · rw [if_neg hc, if_neg (fun z => hc ⟨z.1, by omega, z.2.2⟩)]
theorem us_s {T H : Nat → Nat} {had j : Nat} {S : Nat → Int32} {X : Nat} (h0 : 0 < X) (h : su_tk T H had j X = true) : upd (us_S T H had j S X) X (S X - 1) = us_S T H had j S (X + 1) := by
  funext Y
  by_cases hY : Y = X
  · subst hY
    rw [pk_us, us_S, if_pos ⟨h0, by omega, h⟩]
  · rw [pk_un hY, us_S, us_S]
    by_cases hc : 0 < Y ∧ Y < X ∧ su_tk T H had j Y = true
    · rw [if_pos hc, if_pos ⟨hc.1, by omega, hc.2.2⟩]
    · rw [if_neg hc, if_neg (fun z => hc ⟨z.1, by omega, z.2.2⟩)]
theorem us_val {T H : Nat → Nat} {had j N : Nat} {S : Nat → Int32} {X : Nat} (h0 : 0 < X) (h1 : X < N) : us_S T H had j S N X = if su_tk T H had j X = true then S X - 1 else S X := by
  rw [us_S]
  by_cases h : su_tk T H had j X = true
  · rw [if_pos ⟨h0, h1, h⟩, if_pos h]
  · rw [if_neg (fun z => h z.2.2), if_neg h]
theorem ow_n14 : ∀ j, j < 14 → ¬ nI j = -1 := by decide +kernel
/-- a branching that has all takes no arc -/
theorem gr_none {n a b k had : Nat} {T H R : Nat → Nat} {u : Nat → Bool} (n7 : n ≤ 7) (hT2 : ∀ e, e < a → T e < n ∧ H e < n) (hf : had = 2 ^ n - 1) : ru_pick n a b T H R k had u = a := by
  rw [ru_pick]
  apply ed_fd_no
  intro j hj
  rw [ru_good, ru_gr, hf, Nat.testBit_two_pow_sub_one n (H j), decide_eq_true (hT2 j hj).2, Bool.not_true, Bool.and_false, Bool.and_false, Bool.false_and]
theorem ms_ge {x y : Nat} (hx : x < 2 ^ 30) (hy : y < 2 ^ 30) : 0 ≤ nI x - nI y ↔ y ≤ x := by
  rw [Int32.le_iff_toInt_le, pk_sub_toInt hx hy]
  have h0 : (0 : Int32).toInt = 0 := by decide
  omega
theorem pa_t {n a b : Nat} {T H R : Nat → Nat} (h : ∀ X, 0 < X → X < 2 ^ n → ed_mis R b X ≤ rho0 T H a X) : paF n a T H b R = true := by
  rw [paF, decide_eq_true_eq, spF, fs_0]
  intro X h0 h1
  have h2 := Nat.two_pow_pos n
  have h3 := h X h0 (by omega)
  rw [stp, decide_eq_false_iff_not]
  omega
theorem pa_f {n a b X : Nat} {T H R : Nat → Nat} (h0 : 0 < X) (h1 : X ≤ 2 ^ n - 1) (h : ¬ ed_mis R b X ≤ rho0 T H a X) : paF n a T H b R = false := by
  rw [paF, decide_eq_false_iff_not, spF, fs_0]
  intro z
  have h3 := z X h0 h1
  rw [stp, decide_eq_false_iff_not] at h3
  omega
theorem pg_no {n a b : Nat} {T H R : Nat → Nat} (h : paF n a T H b R = false) (hb : b ≤ 3) : pg_all n a b T H R = fun _ => -1 := by
  rcases Nat.eq_zero_or_pos b with h0 | h0
  · subst h0
    rw [pa_0] at h
    cases h
  · rw [pg_all, if_neg (by rw [← pa_ok h0, h]; decide)]
theorem pg_yes {n a b : Nat} {T H R : Nat → Nat} (h : paF n a T H b R = true) : pg_all n a b T H R = pg_O n a b T H R b := by
  rcases Nat.eq_zero_or_pos b with h0 | h0
  · subst h0
    rw [pg_all]
    split
    · rfl
    · rfl
  · rw [pg_all, if_pos (by rw [← pa_ok h0, h])]
theorem arr_same (cA : ClassId) {n : Nat} {f g : Nat → Int32} (h : ∀ j, j < n → f j = g j) : vp_cell cA (n, .inl f) = vp_cell cA (n, .inl g) := by
  rw [vp_cell_i, vp_cell_i, arrV, arrV]
  congr 1
  congr 1
  funext j
  rw [h j.val j.isLt]
theorem va_at_same {D : va_G} {cl : List vw_C} {q n : Nat} {cA : ClassId} {f g : Nat → Int32} {H : Heap} (h : ∀ j, j < n → f j = g j) (hq : va_at D cl (q, .inl (cA, n, .inl f)) H) : va_at D cl (q, .inl (cA, n, .inl g)) H := by
  show H[q]? = some (vp_cell cA (n, .inl g))
  rw [← arr_same cA h]
  exact hq
theorem cw_O {D : va_G} {ad : Nat → Nat} {cI : ClassId} {n a : Nat} {T H : Nat → Nat} {b : Nat} {R : Nat → Nat} {st : Int32} {O O' S : Nat → Int32} {Hp : Heap} (h : ∀ j, j < 14 → O j = O' j) (hP : va_P D classes (cw ad cI n a T H b R st O S) Hp) : va_P D classes (cw ad cI n a T H b R st O' S) Hp := by
  intro k q hk
  by_cases h7 : k = 7
  · subst h7
    obtain rfl : (ad 7, Sum.inl (cI, 14, Sum.inl O')) = q := Option.some.inj hk
    exact va_at_same h (hP 7 _ rfl)
  · refine hP k q ?_
    rw [← hk]
    match k, h7 with
    | 0, _ => rfl
    | 1, _ => rfl
    | 2, _ => rfl
    | 3, _ => rfl
    | 4, _ => rfl
    | 5, _ => rfl
    | 6, _ => rfl
    | 7, h => exact absurd rfl h
    | 8, _ => rfl
    | k + 9, _ => rfl
theorem cw_D {A : Nat → Prop} {ad : Nat → Nat} {cI : ClassId} {n a n' a' : Nat} {T H T' H' : Nat → Nat} {b b' : Nat} {R R' : Nat → Nat} {st st' : Int32} {O O' S S' : Nat → Int32} (hD : va_D A (cw ad cI n a T H b R st O S)) : va_D A (cw ad cI n' a' T' H' b' R' st' O' S') := by
  have key : ∀ (k : Nat) (q : Nat × va_E), (cw ad cI n' a' T' H' b' R' st' O' S')[k]? = some q → ∃ e, (cw ad cI n a T H b R st O S)[k]? = some (q.1, e) := by
    intro k q hk
    match k with
    | 0 => obtain rfl := Option.some.inj hk; exact ⟨_, rfl⟩
    | 1 => obtain rfl := Option.some.inj hk; exact ⟨_, rfl⟩
    | 2 => obtain rfl := Option.some.inj hk; exact ⟨_, rfl⟩
    | 3 => obtain rfl := Option.some.inj hk; exact ⟨_, rfl⟩
    | 4 => obtain rfl := Option.some.inj hk; exact ⟨_, rfl⟩
    | 5 => obtain rfl := Option.some.inj hk; exact ⟨_, rfl⟩
    | 6 => obtain rfl := Option.some.inj hk; exact ⟨_, rfl⟩
    | 7 => obtain rfl := Option.some.inj hk; exact ⟨_, rfl⟩
    | 8 => obtain rfl := Option.some.inj hk; exact ⟨_, rfl⟩
    | k + 9 => exact absurd hk (by intro z; cases z)
  refine ⟨fun i j p q hi hj e => ?_, fun k q hk => ?_⟩
  · obtain ⟨x, hx⟩ := key i p hi
    obtain ⟨y, hy⟩ := key j q hj
    exact hD.1 i j _ _ hx hy e
  · obtain ⟨x, hx⟩ := key k q hk
    exact hD.2 k (q.1, x) hx
set_option maxHeartbeats 4000000 in
set_option maxRecDepth 100000 in
theorem c_X2_takesFrom (l : Launch) (dC : Nat → ClassId) (dI : Nat → Nat → Nat) (cI : ClassId) (ad : Nat → Nat) (n a : Nat) (T H : Nat → Nat) (b : Nat) (R : Nat → Nat) (st : Int32) (O S : Nat → Int32) (j had X : Nat) (hj : j < 14) (hX : X < 128) (hT : ∀ i, T i < 7 ∧ H i < 7) : Met l yX2_takesFrom (wq yX2_takesFrom cX2_takesFrom 4 (some .boolean)) ({ frames := 1, cells := 0, slots := 0, locals := 22 }) (ro_P (dC, dI) classes [(cI, .int)] (cw ad cI n a T H b R st O S) [.ref (ad 1), .int (nI j), .int (nI had), .int (nI X)]) (vp_Si (fun r => r = nI (ed_b (su_tk T H had j X)))) 0 0 (fun _ => False) := by
  refine Met.ofW (cc := cX2_takesFrom) (maxL := 4) (ret := (some .boolean)) (by decide) rfl ?_
  intro p e s m args below meth c s₁ B hml hv
  obtain ⟨rfl, hP, hK, hN⟩ := hv
  have hx := B.exec
  have hb := B.bytes
  have hr := B.returns
  have hlocks := B.notSynchronized
  have hts := atoms_spec (ws := (wq yX2_takesFrom cX2_takesFrom 4 (some .boolean))) B.pre
  have hw : ∀ w ∈ bigW, w.before _ s = true := fun w h => hts w (List.mem_cons_of_mem _ h)
  have hown : s.vm.findClass RX2 = some m.cls := findClass_of_methodNamed B.named
  have hl := lv_entry ([.ref (ad 1), .int (nI j), .int (nI had), .int (nI X)]) (n := 4) (Nat.le_of_ble_eq_true rfl)
  rw [lg_entry_eq]
  generalize (lg_sl ([.ref (ad 1), .int (nI j), .int (nI had), .int (nI X)]) ++ List.replicate (4 - (lg_sl ([.ref (ad 1), .int (nI j), .int (nI had), .int (nI X)])).length) Slot.unset).toArray = ls at hl ⊢
  have hl : lv_has ls 4 [(0, .ref (ad 1)), (1, .int (nI j)), (2, .int (nI had)), (3, .int (nI X))] := hl
  refine lv_iload_n hx hb dX2_takesFrom_0 rfl (lv_at hl 3 rfl) ?_
  refine lv_iload_n hx hb dX2_takesFrom_1 rfl (lv_at hl 2 rfl) ?_
  refine lv_iand hx hb dX2_takesFrom_2 ?_
  refine lv_if_eq (tgt := 19) hx hb dX2_takesFrom_3 (by decide) (fun b3 => ?_) (fun b3 => ?_)
  -- ifeq at 3, t
  · have t3 : X &&& had = 0 := (bi_z (by omega)).mp b3
    refine lv_iconst (v := 0) hx hb dX2_takesFrom_19 (by decide) ?_
    exact W.zret (v := 0) hx hb hr rfl (fun t ht hW => ⟨_, rfl, zb_F (by rw [su_tk, t3]; rfl), ht⟩) (fun _ h => by cases h) dX2_takesFrom_20
  -- ifeq at 3, f
  · have t3 : ¬ X &&& had = 0 := fun z => b3 ((bi_z (by omega)).mpr z)
    refine lv_aload_n hx hb dX2_takesFrom_6 rfl (lv_at hl 0 rfl) ?_
    refine lv_iload_n hx hb dX2_takesFrom_7 rfl (lv_at hl 1 rfl) ?_
    refine lv_iload_n hx hb dX2_takesFrom_8 rfl (lv_at hl 3 rfl) ?_
    refine ro_V (As := [.int (nI j), .int (nI X)]) (rest := []) (b := ad 1) ⟨hx, hb, hml, hown, hts⟩ (c_X1_enters l dC dI cI ad n a T H b R st O S j X hj hX hT) (cwV 2 hts (bw_V mq_ml_X2_89 mq_im_X1_enters mq_se_X1_enters mq_in_X1 mq_co_X1_enters) rfl rfl rfl (by decide +kernel) ⟨Nat.le_of_ble_eq_true rfl, Nat.le_of_ble_eq_true rfl⟩) hP hK hN 1 rfl rfl rfl hl.1 rfl (Nat.le_of_ble_eq_true rfl) dX2_takesFrom_9 ⟨Nat.zero_le _, Nat.zero_le _⟩ (fun r9 h9 => ?_)
    obtain rfl : r9 = nI (ed_b (ed_en T H X j)) := h9
    refine lv_if_eq (tgt := 19) hx hb dX2_takesFrom_12 (by decide) (fun b12 => ?_) (fun b12 => ?_)
    -- ifeq at 12, t
    · have t12 := zb_0.mp b12
      refine lv_iconst (v := 0) hx hb dX2_takesFrom_19 (by decide) ?_
      exact W.zret (v := 0) hx hb hr rfl (fun t ht hW => ⟨_, rfl, zb_F (by rw [su_tk, t12, Bool.and_false]), ht⟩) (fun _ h => by cases h) dX2_takesFrom_20
    -- ifeq at 12, f
    · have t12 := zb_n0.mp b12
      refine lv_iconst (v := 1) hx hb dX2_takesFrom_15 (by decide) ?_
      refine lv_goto (tgt := 20) hx hb dX2_takesFrom_16 (by decide) ?_
      exact W.zret (v := 1) hx hb hr rfl (fun t ht hW => ⟨_, rfl, zb_T (by rw [su_tk, beq_false_of_ne t3, t12]; rfl), ht⟩) (fun _ h => by cases h) dX2_takesFrom_20
set_option maxHeartbeats 4000000 in
set_option maxRecDepth 100000 in
theorem c_X2_leadsOut (l : Launch) (dC : Nat → ClassId) (dI : Nat → Nat → Nat) (cI : ClassId) (ad : Nat → Nat) (n a : Nat) (T H : Nat → Nat) (b : Nat) (R : Nat → Nat) (st : Int32) (O S : Nat → Int32) (j had : Nat) (hj : j < 14) (hh : had < 128) (hT : ∀ i, T i < 7 ∧ H i < 7) : Met l yX2_leadsOut (wq yX2_leadsOut cX2_leadsOut 3 (some .boolean)) ({ frames := 0, cells := 0, slots := 0, locals := 0 }) (ro_P (dC, dI) classes [(cI, .int)] (cw ad cI n a T H b R st O S) [.ref (ad 1), .int (nI j), .int (nI had)]) (vp_Si (fun r => r = nI (ed_b (had.testBit (T j) && !had.testBit (H j))))) 0 0 (fun _ => False) := by
  have q7 := hT j
  refine Met.ofW (cc := cX2_leadsOut) (maxL := 3) (ret := (some .boolean)) (by decide) rfl ?_
  intro p e s m args below meth c s₁ B hml hv
  obtain ⟨rfl, hP, hK, hN⟩ := hv
  have hx := B.exec
  have hb := B.bytes
  have hr := B.returns
  have hlocks := B.notSynchronized
  have hts := atoms_spec (ws := (wq yX2_leadsOut cX2_leadsOut 3 (some .boolean))) B.pre
  have hw : ∀ w ∈ bigW, w.before _ s = true := fun w h => hts w (List.mem_cons_of_mem _ h)
  have hown : s.vm.findClass RX2 = some m.cls := findClass_of_methodNamed B.named
  have hl := lv_entry ([.ref (ad 1), .int (nI j), .int (nI had)]) (n := 3) (Nat.le_of_ble_eq_true rfl)
  rw [lg_entry_eq]
  generalize (lg_sl ([.ref (ad 1), .int (nI j), .int (nI had)]) ++ List.replicate (3 - (lg_sl ([.ref (ad 1), .int (nI j), .int (nI had)])).length) Slot.unset).toArray = ls at hl ⊢
  have hl : lv_has ls 3 [(0, .ref (ad 1)), (1, .int (nI j)), (2, .int (nI had))] := hl
  refine lv_iload_n hx hb dX2_leadsOut_0 rfl (lv_at hl 2 rfl) ?_
  refine lv_iconst (v := 1) hx hb dX2_leadsOut_1 (by decide) ?_
  refine lv_aload_n hx hb dX2_leadsOut_2 rfl (lv_at hl 0 rfl) ?_
  refine va_getN (D := (dC, dI)) (ci := 1) (v := .ref (ad 2)) (C := RX1) (T := TX1) (N := 4) hx hb hw in_X1 hown hK hP 1 rfl rfl 0 (by decide) (nf_X2_82 hN) (fun _ h9 => h9) rfl dX2_leadsOut_3 ?_
  refine lv_iload_n hx hb dX2_leadsOut_6 rfl (lv_at hl 1 rfl) ?_
  refine va_iald hx hb hK hP 2 0 rfl rfl (vp_in_nI hj (by decide)) dX2_leadsOut_7 ?_
  refine lv_topi (fun z9 e9 => ?_)
  obtain rfl : z9 = nI (T j) := e9.trans (ar_at T (by omega))
  refine lv_ishl hx hb dX2_leadsOut_8 ?_
  refine lv_iand hx hb dX2_leadsOut_9 ?_
  refine lv_if_eq (tgt := 30) hx hb dX2_leadsOut_10 (by decide) (fun b10 => ?_) (fun b10 => ?_)
  -- ifeq at 10, t
  · have t10 := (bi_tb (by omega) (by omega)).mp b10
    refine lv_iconst (v := 0) hx hb dX2_leadsOut_30 (by decide) ?_
    exact W.zret (v := 0) hx hb hr rfl (fun t ht hW => ⟨_, rfl, zb_F (by rw [t10]; rfl), ht⟩) (fun _ h => by cases h) dX2_leadsOut_31
  -- ifeq at 10, f
  · have t10 := (bi_tn (by omega) (by omega)).mp b10
    refine lv_iload_n hx hb dX2_leadsOut_13 rfl (lv_at hl 2 rfl) ?_
    refine lv_iconst (v := 1) hx hb dX2_leadsOut_14 (by decide) ?_
    refine lv_aload_n hx hb dX2_leadsOut_15 rfl (lv_at hl 0 rfl) ?_
    refine va_getN (D := (dC, dI)) (ci := 1) (v := .ref (ad 3)) (C := RX1) (T := TX1) (N := 4) hx hb hw in_X1 hown hK hP 1 rfl rfl 1 (by decide) (nf_X2_69 hN) (fun _ h9 => h9) rfl dX2_leadsOut_16 ?_
    refine lv_iload_n hx hb dX2_leadsOut_19 rfl (lv_at hl 1 rfl) ?_
    refine va_iald hx hb hK hP 3 0 rfl rfl (vp_in_nI hj (by decide)) dX2_leadsOut_20 ?_
    refine lv_topi (fun z9 e9 => ?_)
    obtain rfl : z9 = nI (H j) := e9.trans (ar_at H (by omega))
    refine lv_ishl hx hb dX2_leadsOut_21 ?_
    refine lv_iand hx hb dX2_leadsOut_22 ?_
    refine lv_if_ne (tgt := 30) hx hb dX2_leadsOut_23 (by decide) (fun b23 => ?_) (fun b23 => ?_)
    -- ifne at 23, t
    · have t23 := (bi_tn (by omega) (by omega)).mp b23
      refine lv_iconst (v := 0) hx hb dX2_leadsOut_30 (by decide) ?_
      exact W.zret (v := 0) hx hb hr rfl (fun t ht hW => ⟨_, rfl, zb_F (by rw [t23, Bool.not_true, Bool.and_false]), ht⟩) (fun _ h => by cases h) dX2_leadsOut_31
    -- ifne at 23, f
    · have t23 := (bi_tb (by omega) (by omega)).mp b23
      refine lv_iconst (v := 1) hx hb dX2_leadsOut_26 (by decide) ?_
      refine lv_goto (tgt := 31) hx hb dX2_leadsOut_27 (by decide) ?_
      exact W.zret (v := 1) hx hb hr rfl (fun t ht hW => ⟨_, rfl, zb_T (by rw [t10, t23]; rfl), ht⟩) (fun _ h => by cases h) dX2_leadsOut_31
set_option maxHeartbeats 4000000 in
set_option maxRecDepth 100000 in
theorem c_X2_isSafe (l : Launch) (dC : Nat → ClassId) (dI : Nat → Nat → Nat) (cI : ClassId) (ad : Nat → Nat) (n a : Nat) (T H : Nat → Nat) (b : Nat) (R : Nat → Nat) (st : Int32) (O S : Nat → Int32) (k had j : Nat) (n7 : n ≤ 7) (a14 : a ≤ 14) (hT : ∀ i, T i < 7 ∧ H i < 7) (hj : j < a) (hh : had < 128) (hok : ed_ok n T H a R b k had (ow_u O)) (hSu : su_ok n a b T H R k had (ow_u O) S) (hu : ow_u O j = false) : Met l yX2_isSafe (wq yX2_isSafe cX2_isSafe 5 (some .boolean)) ({ frames := 2, cells := 0, slots := 0, locals := 45 }) (ro_P (dC, dI) classes [(cI, .int)] (cw ad cI n a T H b R st O S) [.ref (ad 6), .ref (ad 1), .int (nI j), .int (nI had)]) (vp_Si (fun r => r = nI (ed_b (ru_ok n a b T H R k (had ||| 2 ^ H j) (ru_use (ow_u O) j))))) 0 0 (fun _ => False) := by
  have p7 := bi_p7 n7
  have p0 := Nat.two_pow_pos n
  refine Met.ofW (cc := cX2_isSafe) (maxL := 5) (ret := (some .boolean)) (by decide) rfl ?_
  intro p e s m args below meth c s₁ B hml hv
  obtain ⟨rfl, hP, hK, hN⟩ := hv
  have hx := B.exec
  have hb := B.bytes
  have hr := B.returns
  have hlocks := B.notSynchronized
  have hts := atoms_spec (ws := (wq yX2_isSafe cX2_isSafe 5 (some .boolean))) B.pre
  have hw : ∀ w ∈ bigW, w.before _ s = true := fun w h => hts w (List.mem_cons_of_mem _ h)
  have hown : s.vm.findClass RX2 = some m.cls := findClass_of_methodNamed B.named
  have hl := lv_entry ([.ref (ad 6), .ref (ad 1), .int (nI j), .int (nI had)]) (n := 5) (Nat.le_of_ble_eq_true rfl)
  rw [lg_entry_eq]
  generalize (lg_sl ([.ref (ad 6), .ref (ad 1), .int (nI j), .int (nI had)]) ++ List.replicate (5 - (lg_sl ([.ref (ad 6), .ref (ad 1), .int (nI j), .int (nI had)])).length) Slot.unset).toArray = ls at hl ⊢
  have hl : lv_has ls 5 [(0, .ref (ad 6)), (1, .ref (ad 1)), (2, .int (nI j)), (3, .int (nI had))] := hl
  refine lv_iconst (v := nI 1) hx hb dX2_isSafe_0 (by decide) ?_
  refine lv_istore (lv' := [(4, .int (nI 1)), (0, .ref (ad 6)), (1, .ref (ad 1)), (2, .int (nI j)), (3, .int (nI had))]) hx hb dX2_isSafe_1 hl (by decide) rfl (fun ls hl => ?_)
  refine wl_loop (fun k9 ls => ∃ (X : Nat), 2 ^ n - X = k9 ∧ (0 < X ∧ X ≤ 2 ^ n) ∧ (∀ Y, 0 < Y → Y < X → su_tk T H had j Y = true → 0 < ed_rho T H a (ow_u O) Y - ed_p R b k had Y) ∧ lv_has ls 5 [(0, .ref (ad 6)), (1, .ref (ad 1)), (2, .int (nI j)), (3, .int (nI had)), (4, .int (nI X))]) ?_ _ ⟨1, rfl, ⟨by omega, by omega⟩, fun Y y0 y1 => by omega, lv_sub hl [1, 2, 3, 4, 0] rfl⟩
  clear hl
  intro k9 ls ih9 h9
  obtain ⟨X, k9e, hX, hall, hl⟩ := h9
  have ih_3 := ih9
  clear ih9
  subst k9e
  refine lv_iload hx hb dX2_isSafe_3 (lv_at hl 4 rfl) ?_
  refine lv_aload_n hx hb dX2_isSafe_5 rfl (lv_at hl 1 rfl) ?_
  refine ro_V (As := []) (rest := [.int (nI X)]) (b := ad 1) ⟨hx, hb, hml, hown, hts⟩ (c_X1_allVertices l dC dI cI ad n a T H b R st O S n7) (cwV 0 hts (bw_V mq_ml_X2_45 mq_im_X1_allVertices mq_se_X1_allVertices mq_in_X1 mq_co_X1_allVertices) rfl rfl rfl (by decide +kernel) ⟨Nat.le_of_ble_eq_true rfl, Nat.le_of_ble_eq_true rfl⟩) hP hK hN 1 rfl rfl rfl hl.1 rfl (Nat.le_of_ble_eq_true rfl) dX2_isSafe_6 ⟨Nat.zero_le _, Nat.zero_le _⟩ (fun r9 h9 => ?_)
  obtain rfl : r9 = nI (2 ^ n - 1) := h9
  refine lv_icmp_gt (tgt := 42) hx hb dX2_isSafe_9 (by decide) (fun b9 => ?_) (fun b9 => ?_)
  -- if_icmpgt at 9, t
  · have t9 := (nI_ltI (by omega) (by omega)).mp b9
    refine lv_iconst (v := 1) hx hb dX2_isSafe_42 (by decide) ?_
    exact W.zret (v := 1) hx hb hr rfl (fun t ht hW => ⟨_, rfl, zb_T ((su_safe hok hj hu).mpr (fun Y y0 y1 => hall Y y0 (by omega))), ht⟩) (fun _ h => by cases h) dX2_isSafe_43
  -- if_icmpgt at 9, f
  · have t9 : X ≤ 2 ^ n - 1 := Nat.le_of_not_lt (fun z => b9 (nI_lt z (by omega)))
    have z9 : ed_rho T H a (ow_u O) X ≤ a := ed_ct_le _ _
    refine lv_aload_n hx hb dX2_isSafe_12 rfl (lv_at hl 1 rfl) ?_
    refine lv_iload_n hx hb dX2_isSafe_13 rfl (lv_at hl 2 rfl) ?_
    refine lv_iload_n hx hb dX2_isSafe_14 rfl (lv_at hl 3 rfl) ?_
    refine lv_iload hx hb dX2_isSafe_15 (lv_at hl 4 rfl) ?_
    refine ro_S (As := [.ref (ad 1), .int (nI j), .int (nI had), .int (nI X)]) (rest := []) ⟨hx, hb, hml, hown, hts⟩ (c_X2_takesFrom l dC dI cI ad n a T H b R st O S j had X (by omega) (by omega) hT) (cwS 4 hts (bw_S mq_ml_X2_85 mq_st_X2_takesFrom mq_in_X2 mq_co_X2_takesFrom) rfl rfl rfl (by decide +kernel) ⟨Nat.le_of_ble_eq_true rfl, Nat.le_of_ble_eq_true rfl⟩) hP hK hN rfl hl.1 rfl (Nat.le_of_ble_eq_true rfl) dX2_isSafe_17 ⟨Nat.zero_le _, Nat.zero_le _⟩ (fun r9 h9 => ?_)
    obtain rfl : r9 = nI (ed_b (su_tk T H had j X)) := h9
    refine lv_if_eq (tgt := 36) hx hb dX2_isSafe_20 (by decide) (fun b20 => ?_) (fun b20 => ?_)
    -- ifeq at 20, t
    · have t20 := zb_0.mp b20
      refine lv_iinc (k := 4) (v := nI (X + 1)) (lv' := [(4, .int (nI (X + 1))), (0, .ref (ad 6)), (1, .ref (ad 1)), (2, .int (nI j)), (3, .int (nI had))]) hx hb dX2_isSafe_36 hl rfl (ii_1 _) (by decide) rfl (fun ls hl => ?_)
      refine lv_goto (tgt := 3) hx hb dX2_isSafe_39 (by decide) ?_
      have hall2 : ∀ Y, 0 < Y → Y < X + 1 → su_tk T H had j Y = true → 0 < ed_rho T H a (ow_u O) Y - ed_p R b k had Y := by
        intro Y y0 y1 y2
        rcases Nat.lt_or_ge Y X with y3 | y3
        · exact hall Y y0 y3 y2
        · obtain rfl : Y = X := by omega
          rw [t20] at y2; cases y2
      exact ih_3 _ _ (by omega) ⟨X + 1, rfl, by omega, hall2, lv_sub hl [1, 2, 3, 4, 0] rfl⟩
    -- ifeq at 20, f
    · have t20 := zb_n0.mp b20
      refine lv_aload_n hx hb dX2_isSafe_23 rfl (lv_at hl 0 rfl) ?_
      refine va_get (D := (dC, dI)) (ci := 2) (v := .ref (ad 8)) (C := RX2) (T := TX2) (N := 3) hx hb hw in_X2 hown hK hP 6 rfl rfl 1 (by decide) (hw _ mq_fl_X2_15) (fun _ h9 => h9) rfl dX2_isSafe_24 ?_
      refine lv_iload hx hb dX2_isSafe_27 (lv_at hl 4 rfl) ?_
      refine va_iald hx hb hK hP 8 0 rfl rfl (vp_in_nI (by omega) (by decide)) dX2_isSafe_29 ?_
      refine lv_topi (fun z9 e9 => ?_)
      obtain rfl : z9 = nI (ed_rho T H a (ow_u O) X - ed_p R b k had X) := e9.trans (by rw [nI_clamp (by omega)]; exact hSu X hX.1 (by omega))
      refine lv_iconst (v := nI 1) hx hb dX2_isSafe_30 (by decide) ?_
      refine lv_icmp_ge (tgt := 36) hx hb dX2_isSafe_31 (by decide) (fun b31 => ?_) (fun b31 => ?_)
      -- if_icmpge at 31, t
      · have t31 := (nI_leI (by decide) (by omega)).mp b31
        refine lv_iinc (k := 4) (v := nI (X + 1)) (lv' := [(4, .int (nI (X + 1))), (0, .ref (ad 6)), (1, .ref (ad 1)), (2, .int (nI j)), (3, .int (nI had))]) hx hb dX2_isSafe_36 hl rfl (ii_1 _) (by decide) rfl (fun ls hl => ?_)
        refine lv_goto (tgt := 3) hx hb dX2_isSafe_39 (by decide) ?_
        have hall2 : ∀ Y, 0 < Y → Y < X + 1 → su_tk T H had j Y = true → 0 < ed_rho T H a (ow_u O) Y - ed_p R b k had Y := by
          intro Y y0 y1 y2
          rcases Nat.lt_or_ge Y X with y3 | y3
          · exact hall Y y0 y3 y2
          · obtain rfl : Y = X := by omega
            exact t31
        exact ih_3 _ _ (by omega) ⟨X + 1, rfl, by omega, hall2, lv_sub hl [1, 2, 3, 4, 0] rfl⟩
      -- if_icmpge at 31, f
      · have t31 : ¬ 1 ≤ ed_rho T H a (ow_u O) X - ed_p R b k had X := fun z => b31 (nI_le z (by omega))
        refine lv_iconst (v := 0) hx hb dX2_isSafe_34 (by decide) ?_
        exact W.zret (v := 0) hx hb hr rfl (fun t ht hW => ⟨_, rfl, zb_F (Bool.eq_false_iff.mpr (fun hz => absurd ((su_safe hok hj hu).mp hz X hX.1 (by omega) t20) (by omega))), ht⟩) (fun _ h => by cases h) dX2_isSafe_35
set_option maxHeartbeats 4000000 in
set_option maxRecDepth 100000 in
theorem c_X2_leastSafeArc (l : Launch) (dC : Nat → ClassId) (dI : Nat → Nat → Nat) (cI : ClassId) (ad : Nat → Nat) (n a : Nat) (T H : Nat → Nat) (b : Nat) (R : Nat → Nat) (st : Int32) (O S : Nat → Int32) (k had : Nat) (n7 : n ≤ 7) (a14 : a ≤ 14) (hT : ∀ i, T i < 7 ∧ H i < 7) (hh : had < 128) (hok : ed_ok n T H a R b k had (ow_u O)) (hSu : su_ok n a b T H R k had (ow_u O) S) : Met l yX2_leastSafeArc (wq yX2_leastSafeArc cX2_leastSafeArc 4 (some .int)) ({ frames := 3, cells := 0, slots := 0, locals := 69 }) (ro_P (dC, dI) classes [(cI, .int)] (cw ad cI n a T H b R st O S) [.ref (ad 6), .ref (ad 1), .int (nI had)]) (vp_Si (fun r => r = if ru_pick n a b T H R k had (ow_u O) < a then nI (ru_pick n a b T H R k had (ow_u O)) else -1)) 0 0 (fun _ => False) := by
  refine Met.ofW (cc := cX2_leastSafeArc) (maxL := 4) (ret := (some .int)) (by decide) rfl ?_
  intro p e s m args below meth c s₁ B hml hv
  obtain ⟨rfl, hP, hK, hN⟩ := hv
  have hx := B.exec
  have hb := B.bytes
  have hr := B.returns
  have hlocks := B.notSynchronized
  have hts := atoms_spec (ws := (wq yX2_leastSafeArc cX2_leastSafeArc 4 (some .int))) B.pre
  have hw : ∀ w ∈ bigW, w.before _ s = true := fun w h => hts w (List.mem_cons_of_mem _ h)
  have hown : s.vm.findClass RX2 = some m.cls := findClass_of_methodNamed B.named
  have hl := lv_entry ([.ref (ad 6), .ref (ad 1), .int (nI had)]) (n := 4) (Nat.le_of_ble_eq_true rfl)
  rw [lg_entry_eq]
  generalize (lg_sl ([.ref (ad 6), .ref (ad 1), .int (nI had)]) ++ List.replicate (4 - (lg_sl ([.ref (ad 6), .ref (ad 1), .int (nI had)])).length) Slot.unset).toArray = ls at hl ⊢
  have hl : lv_has ls 4 [(0, .ref (ad 6)), (1, .ref (ad 1)), (2, .int (nI had))] := hl
  refine lv_iconst (v := nI 0) hx hb dX2_leastSafeArc_0 (by decide) ?_
  refine lv_istore_n (lv' := [(3, .int (nI 0)), (0, .ref (ad 6)), (1, .ref (ad 1)), (2, .int (nI had))]) hx hb dX2_leastSafeArc_1 rfl hl (by decide) rfl (fun ls hl => ?_)
  refine wl_loop (fun k9 ls => ∃ (i : Nat), a - i = k9 ∧ (i ≤ a) ∧ (∀ j, j < i → ru_good n a b T H R k had (ow_u O) j = false) ∧ lv_has ls 4 [(0, .ref (ad 6)), (1, .ref (ad 1)), (2, .int (nI had)), (3, .int (nI i))]) ?_ _ ⟨0, rfl, by omega, fun j hj => by omega, lv_sub hl [1, 2, 3, 0] rfl⟩
  clear hl
  intro k9 ls ih9 h9
  obtain ⟨i, k9e, hi, hno, hl⟩ := h9
  have ih_2 := ih9
  clear ih9
  subst k9e
  refine lv_iload_n hx hb dX2_leastSafeArc_2 rfl (lv_at hl 3 rfl) ?_
  refine lv_aload_n hx hb dX2_leastSafeArc_3 rfl (lv_at hl 1 rfl) ?_
  refine va_getN (D := (dC, dI)) (ci := 1) (v := .int (nI a)) (C := RX1) (T := TX1) (N := 4) hx hb hw in_X1 hown hK hP 1 rfl rfl 3 (by decide) (nf_X2_72 hN) (fun _ h9 => h9) rfl dX2_leastSafeArc_4 ?_
  refine lv_icmp_ge (tgt := 47) hx hb dX2_leastSafeArc_7 (by decide) (fun b7 => ?_) (fun b7 => ?_)
  -- if_icmpge at 7, t
  · have t7 := (nI_leI (by omega) (by omega)).mp b7
    have e7 : i = a := by omega
    refine lv_iconst (v := -1) hx hb dX2_leastSafeArc_47 (by decide) ?_
    exact W.iret (v := -1) hx hb hr (fun t ht hW => ⟨_, rfl, (by rw [ru_pick, ed_fd_no (a := a) (fun j hj => hno j (by omega)), if_neg (Nat.lt_irrefl _)]), ht⟩) (fun _ h => by cases h) dX2_leastSafeArc_48
  -- if_icmpge at 7, f
  · have t7 : i < a := Nat.lt_of_not_le (fun z => b7 (nI_le z (by omega)))
    refine lv_aload_n hx hb dX2_leastSafeArc_10 rfl (lv_at hl 0 rfl) ?_
    refine va_get (D := (dC, dI)) (ci := 2) (v := .ref (ad 7)) (C := RX2) (T := TX2) (N := 3) hx hb hw in_X2 hown hK hP 6 rfl rfl 0 (by decide) (hw _ mq_fl_X2_9) (fun _ h9 => h9) rfl dX2_leastSafeArc_11 ?_
    refine lv_iload_n hx hb dX2_leastSafeArc_14 rfl (lv_at hl 3 rfl) ?_
    refine va_iald hx hb hK hP 7 0 rfl rfl (vp_in_nI (by omega) (by decide)) dX2_leastSafeArc_15 ?_
    refine lv_topi (fun z9 e9 => ?_)
    obtain rfl : z9 = O i := e9.trans (by rw [nI_clamp (by omega)])
    refine lv_iconst (v := -1) hx hb dX2_leastSafeArc_16 (by decide) ?_
    refine lv_icmp_ne (tgt := 41) hx hb dX2_leastSafeArc_17 (by decide) (fun b17 => ?_) (fun b17 => ?_)
    -- if_icmpne at 17, t
    · refine lv_iinc (k := 3) (v := nI (i + 1)) (lv' := [(3, .int (nI (i + 1))), (0, .ref (ad 6)), (1, .ref (ad 1)), (2, .int (nI had))]) hx hb dX2_leastSafeArc_41 hl rfl (ii_1 _) (by decide) rfl (fun ls hl => ?_)
      refine lv_goto (tgt := 2) hx hb dX2_leastSafeArc_44 (by decide) ?_
      have hno2 : ∀ j, j < i + 1 → ru_good n a b T H R k had (ow_u O) j = false := by
        intro j hj
        rcases Nat.lt_or_ge j i with y3 | y3
        · exact hno j y3
        · have y4 : j = i := by omega
          rw [y4]
          rw [ru_good, ru_gr, show ow_u O i = true from decide_eq_true b17]; rfl
      exact ih_2 _ _ (by omega) ⟨i + 1, rfl, by omega, hno2, lv_sub hl [1, 2, 3, 0] rfl⟩
    -- if_icmpne at 17, f
    · have hu : ow_u O i = false := decide_eq_false (fun z => z b17)
      refine lv_aload_n hx hb dX2_leastSafeArc_20 rfl (lv_at hl 1 rfl) ?_
      refine lv_iload_n hx hb dX2_leastSafeArc_21 rfl (lv_at hl 3 rfl) ?_
      refine lv_iload_n hx hb dX2_leastSafeArc_22 rfl (lv_at hl 2 rfl) ?_
      refine ro_S (As := [.ref (ad 1), .int (nI i), .int (nI had)]) (rest := []) ⟨hx, hb, hml, hown, hts⟩ (c_X2_leadsOut l dC dI cI ad n a T H b R st O S i had (by omega) hh hT) (cwS 3 hts (bw_S mq_ml_X2_75 mq_st_X2_leadsOut mq_in_X2 mq_co_X2_leadsOut) rfl rfl rfl (by decide +kernel) ⟨Nat.le_of_ble_eq_true rfl, Nat.le_of_ble_eq_true rfl⟩) hP hK hN rfl hl.1 rfl (Nat.le_of_ble_eq_true rfl) dX2_leastSafeArc_23 ⟨Nat.zero_le _, Nat.zero_le _⟩ (fun r9 h9 => ?_)
      obtain rfl : r9 = nI (ed_b (had.testBit (T i) && !had.testBit (H i))) := h9
      refine lv_if_eq (tgt := 41) hx hb dX2_leastSafeArc_26 (by decide) (fun b26 => ?_) (fun b26 => ?_)
      -- ifeq at 26, t
      · have t26 := zb_0.mp b26
        refine lv_iinc (k := 3) (v := nI (i + 1)) (lv' := [(3, .int (nI (i + 1))), (0, .ref (ad 6)), (1, .ref (ad 1)), (2, .int (nI had))]) hx hb dX2_leastSafeArc_41 hl rfl (ii_1 _) (by decide) rfl (fun ls hl => ?_)
        refine lv_goto (tgt := 2) hx hb dX2_leastSafeArc_44 (by decide) ?_
        have hno2 : ∀ j, j < i + 1 → ru_good n a b T H R k had (ow_u O) j = false := by
          intro j hj
          rcases Nat.lt_or_ge j i with y3 | y3
          · exact hno j y3
          · have y4 : j = i := by omega
            rw [y4]
            rw [ru_good, ru_gr, t26, Bool.and_false, Bool.false_and]
        exact ih_2 _ _ (by omega) ⟨i + 1, rfl, by omega, hno2, lv_sub hl [1, 2, 3, 0] rfl⟩
      -- ifeq at 26, f
      · have t26 := zb_n0.mp b26
        refine lv_aload_n hx hb dX2_leastSafeArc_29 rfl (lv_at hl 0 rfl) ?_
        refine lv_aload_n hx hb dX2_leastSafeArc_30 rfl (lv_at hl 1 rfl) ?_
        refine lv_iload_n hx hb dX2_leastSafeArc_31 rfl (lv_at hl 3 rfl) ?_
        refine lv_iload_n hx hb dX2_leastSafeArc_32 rfl (lv_at hl 2 rfl) ?_
        refine ro_V (As := [.ref (ad 1), .int (nI i), .int (nI had)]) (rest := []) (b := ad 6) ⟨hx, hb, hml, hown, hts⟩ (c_X2_isSafe l dC dI cI ad n a T H b R st O S k had i n7 a14 hT t7 hh hok hSu hu) (cwV 3 hts (bw_V mq_ml_X2_79 mq_im_X2_isSafe mq_se_X2_isSafe mq_in_X2 mq_co_X2_isSafe) rfl rfl rfl (by decide +kernel) ⟨Nat.le_of_ble_eq_true rfl, Nat.le_of_ble_eq_true rfl⟩) hP hK hN 6 rfl rfl rfl hl.1 rfl (Nat.le_of_ble_eq_true rfl) dX2_leastSafeArc_33 ⟨Nat.zero_le _, Nat.zero_le _⟩ (fun r9 h9 => ?_)
        obtain rfl : r9 = nI (ed_b (ru_ok n a b T H R k (had ||| 2 ^ H i) (ru_use (ow_u O) i))) := h9
        refine lv_if_eq (tgt := 41) hx hb dX2_leastSafeArc_36 (by decide) (fun b36 => ?_) (fun b36 => ?_)
        -- ifeq at 36, t
        · have t36 := zb_0.mp b36
          refine lv_iinc (k := 3) (v := nI (i + 1)) (lv' := [(3, .int (nI (i + 1))), (0, .ref (ad 6)), (1, .ref (ad 1)), (2, .int (nI had))]) hx hb dX2_leastSafeArc_41 hl rfl (ii_1 _) (by decide) rfl (fun ls hl => ?_)
          refine lv_goto (tgt := 2) hx hb dX2_leastSafeArc_44 (by decide) ?_
          have hno2 : ∀ j, j < i + 1 → ru_good n a b T H R k had (ow_u O) j = false := by
            intro j hj
            rcases Nat.lt_or_ge j i with y3 | y3
            · exact hno j y3
            · have y4 : j = i := by omega
              rw [y4]
              rw [ru_good, t36, Bool.and_false]
          exact ih_2 _ _ (by omega) ⟨i + 1, rfl, by omega, hno2, lv_sub hl [1, 2, 3, 0] rfl⟩
        -- ifeq at 36, f
        · have t36 := zb_n0.mp b36
          refine lv_iload_n hx hb dX2_leastSafeArc_39 rfl (lv_at hl 3 rfl) ?_
          exact W.iret (v := nI i) hx hb hr (fun t ht hW => ⟨_, rfl, (by rw [ru_pick, ed_fd_eq (e := i) t7 (by rw [ru_good, ru_gr, hu, t26, t36]; rfl) hno, if_pos t7]), ht⟩) (fun _ h => by cases h) dX2_leastSafeArc_40
set_option maxHeartbeats 4000000 in
set_option maxRecDepth 100000 in
theorem c_X2_use (l : Launch) (dC : Nat → ClassId) (dI : Nat → Nat → Nat) (cI : ClassId) (ad : Nat → Nat) (n a : Nat) (T H : Nat → Nat) (b : Nat) (R : Nat → Nat) (st : Int32) (O S : Nat → Int32) (sz : Nat) (j k had : Nat) (n7 : n ≤ 7) (hj : j < 14) (hT : ∀ i, T i < 7 ∧ H i < 7) : Met l yX2_use (wq yX2_use cX2_use 6 none) ({ frames := 2, cells := 0, slots := 0, locals := 45 }) (mu_P (dC, dI) classes [(cI, .int)] (cw ad cI n a T H b R st O S) sz [.ref (ad 6), .ref (ad 1), .int (nI j), .int (nI k), .int (nI had)]) (va_Qv (fun _ : Unit => True) (mu_B (dC, dI) classes [(cI, .int)] (cw ad cI n a T H b R st O S) sz (fun _ => cw ad cI n a T H b R st (upd O j (nI k)) (us_S T H had j S (2 ^ n)))) (va_A (cw ad cI n a T H b R st O S) sz)) 0 0 (va_A (cw ad cI n a T H b R st O S) sz) := by
  have p7 := bi_p7 n7
  have p0 := Nat.two_pow_pos n
  refine Met.ofW (cc := cX2_use) (maxL := 6) (ret := none) (by decide) rfl ?_
  intro p e s m args below meth c s₁ B hml hv
  obtain ⟨rfl, hsz, hP, hK, hN, hD0⟩ := hv
  have hx := B.exec
  have hb := B.bytes
  have hr := B.returns
  have hlocks := B.notSynchronized
  have hts := atoms_spec (ws := (wq yX2_use cX2_use 6 none)) B.pre
  have hw : ∀ w ∈ bigW, w.before _ s = true := fun w h => hts w (List.mem_cons_of_mem _ h)
  have hown : s.vm.findClass RX2 = some m.cls := findClass_of_methodNamed B.named
  subst hsz
  have hD := hD0.self (sz := s.heap.size)
  generalize hAe : va_A (cw ad cI n a T H b R st O S) s.heap.size = A at hD ⊢
  have hA : ∀ q : Nat, s.heap.size ≤ q → A q := fun q h => by rw [← hAe]; exact Or.inr h
  have hS : va_S A s.heap s.heap [] := va_S.rf
  have hl := lv_entry ([.ref (ad 6), .ref (ad 1), .int (nI j), .int (nI k), .int (nI had)]) (n := 6) (Nat.le_of_ble_eq_true rfl)
  rw [lg_entry_eq]
  generalize (lg_sl ([.ref (ad 6), .ref (ad 1), .int (nI j), .int (nI k), .int (nI had)]) ++ List.replicate (6 - (lg_sl ([.ref (ad 6), .ref (ad 1), .int (nI j), .int (nI k), .int (nI had)])).length) Slot.unset).toArray = ls at hl ⊢
  have hl : lv_has ls 6 [(0, .ref (ad 6)), (1, .ref (ad 1)), (2, .int (nI j)), (3, .int (nI k)), (4, .int (nI had))] := hl
  refine lv_aload_n hx hb dX2_use_0 rfl (lv_at hl 0 rfl) ?_
  refine va_get (D := (dC, dI)) (ci := 2) (v := .ref (ad 7)) (C := RX2) (T := TX2) (N := 3) hx hb hw in_X2 hown hK hP 6 rfl rfl 0 (by decide) (hw _ mq_fl_X2_9) (fun _ h9 => h9) rfl dX2_use_1 ?_
  refine lv_iload_n hx hb dX2_use_4 rfl (lv_at hl 2 rfl) ?_
  refine lv_iload_n hx hb dX2_use_5 rfl (lv_at hl 3 rfl) ?_
  refine va_iast hx hb hK hP hD hS 7 0 rfl rfl (vp_in_nI hj (by decide)) dX2_use_6 (fun Hp locs hP hD hS => ?_)
  rw [nI_clamp (show j < 2 ^ 31 by omega)] at hP hD
  have hP : va_P (dC, dI) classes (cw ad cI n a T H b R st (upd O j (nI k)) S) Hp := hP
  have hD : va_D A (cw ad cI n a T H b R st (upd O j (nI k)) S) := hD
  refine lv_iconst (v := nI 1) hx hb dX2_use_7 (by decide) ?_
  refine lv_istore (lv' := [(5, .int (nI 1)), (0, .ref (ad 6)), (1, .ref (ad 1)), (2, .int (nI j)), (3, .int (nI k)), (4, .int (nI had))]) hx hb dX2_use_8 hl (by decide) rfl (fun ls hl => ?_)
  rw [← us_1 T H had j S] at hP hD
  refine wl_loopH (fun k9 Hp locs ls => ∃ (X : Nat), 2 ^ n - X = k9 ∧ (0 < X ∧ X ≤ 2 ^ n) ∧ lv_has ls 6 [(0, .ref (ad 6)), (1, .ref (ad 1)), (2, .int (nI j)), (3, .int (nI k)), (4, .int (nI had)), (5, .int (nI X))] ∧ va_P (dC, dI) classes (cw ad cI n a T H b R st (upd O j (nI k)) (us_S T H had j S X)) Hp ∧ va_D A (cw ad cI n a T H b R st (upd O j (nI k)) (us_S T H had j S X)) ∧ va_S A s.heap Hp locs) ?_ _ ⟨1, rfl, ⟨by omega, by omega⟩, lv_sub hl [1, 2, 3, 4, 5, 0] rfl, hP, hD, hS⟩
  clear hP hD hS hl
  intro k9 Hp locs ls ih9 h9
  obtain ⟨X, k9e, hX, hl, hP, hD, hS⟩ := h9
  have ih_10 := ih9
  clear ih9
  subst k9e
  refine lv_iload hx hb dX2_use_10 (lv_at hl 5 rfl) ?_
  refine lv_aload_n hx hb dX2_use_12 rfl (lv_at hl 1 rfl) ?_
  refine ro_V (As := []) (rest := [.int (nI X)]) (b := ad 1) ⟨hx, hb, hml, hown, hts⟩ (c_X1_allVertices l dC dI cI ad n a T H b R st (upd O j (nI k)) (us_S T H had j S X) n7) (cwV 0 hts (bw_V mq_ml_X2_45 mq_im_X1_allVertices mq_se_X1_allVertices mq_in_X1 mq_co_X1_allVertices) rfl rfl rfl (by decide +kernel) ⟨Nat.le_of_ble_eq_true rfl, Nat.le_of_ble_eq_true rfl⟩) hP hK hN 1 rfl rfl rfl hl.1 rfl (Nat.le_of_ble_eq_true rfl) dX2_use_13 ⟨Nat.zero_le _, Nat.zero_le _⟩ (fun r9 h9 => ?_)
  obtain rfl : r9 = nI (2 ^ n - 1) := h9
  refine lv_icmp_gt (tgt := 48) hx hb dX2_use_16 (by decide) (fun b16 => ?_) (fun b16 => ?_)
  -- if_icmpgt at 16, t
  · have t16 := (nI_ltI (by omega) (by omega)).mp b16
    have e16 : X = 2 ^ n := by omega
    rw [e16] at hP hD
    exact W.vret hx hb hr (fun t ht hW => ⟨⟨(), rfl, trivial, by rw [ht]; exact hP, va_K.moved hW.alike hK, by rw [hAe]; exact hD⟩, hS.F ht⟩) hS.2.2 dX2_use_48
  -- if_icmpgt at 16, f
  · have t16 : X ≤ 2 ^ n - 1 := Nat.le_of_not_lt (fun z => b16 (nI_lt z (by omega)))
    refine lv_aload_n hx hb dX2_use_19 rfl (lv_at hl 1 rfl) ?_
    refine lv_iload_n hx hb dX2_use_20 rfl (lv_at hl 2 rfl) ?_
    refine lv_iload hx hb dX2_use_21 (lv_at hl 4 rfl) ?_
    refine lv_iload hx hb dX2_use_23 (lv_at hl 5 rfl) ?_
    refine ro_S (As := [.ref (ad 1), .int (nI j), .int (nI had), .int (nI X)]) (rest := []) ⟨hx, hb, hml, hown, hts⟩ (c_X2_takesFrom l dC dI cI ad n a T H b R st (upd O j (nI k)) (us_S T H had j S X) j had X hj (by omega) hT) (cwS 4 hts (bw_S mq_ml_X2_85 mq_st_X2_takesFrom mq_in_X2 mq_co_X2_takesFrom) rfl rfl rfl (by decide +kernel) ⟨Nat.le_of_ble_eq_true rfl, Nat.le_of_ble_eq_true rfl⟩) hP hK hN rfl hl.1 rfl (Nat.le_of_ble_eq_true rfl) dX2_use_25 ⟨Nat.zero_le _, Nat.zero_le _⟩ (fun r9 h9 => ?_)
    obtain rfl : r9 = nI (ed_b (su_tk T H had j X)) := h9
    refine lv_if_eq (tgt := 42) hx hb dX2_use_28 (by decide) (fun b28 => ?_) (fun b28 => ?_)
    -- ifeq at 28, t
    · have t28 := zb_0.mp b28
      refine lv_iinc (k := 5) (v := nI (X + 1)) (lv' := [(5, .int (nI (X + 1))), (0, .ref (ad 6)), (1, .ref (ad 1)), (2, .int (nI j)), (3, .int (nI k)), (4, .int (nI had))]) hx hb dX2_use_42 hl rfl (ii_1 _) (by decide) rfl (fun ls hl => ?_)
      refine lv_goto (tgt := 10) hx hb dX2_use_45 (by decide) ?_
      rw [← us_n t28] at hP hD
      exact ih_10 _ _ _ _ (by omega) ⟨X + 1, rfl, by omega, lv_sub hl [1, 2, 3, 4, 5, 0] rfl, hP, hD, hS⟩
    -- ifeq at 28, f
    · have t28 := zb_n0.mp b28
      refine lv_aload_n hx hb dX2_use_31 rfl (lv_at hl 0 rfl) ?_
      refine va_get (D := (dC, dI)) (ci := 2) (v := .ref (ad 8)) (C := RX2) (T := TX2) (N := 3) hx hb hw in_X2 hown hK hP 6 rfl rfl 1 (by decide) (hw _ mq_fl_X2_15) (fun _ h9 => h9) rfl dX2_use_32 ?_
      refine lv_iload hx hb dX2_use_35 (lv_at hl 5 rfl) ?_
      refine lv_dup2_11 hx hb dX2_use_37 rfl rfl ?_
      refine va_iald hx hb hK hP 8 0 rfl rfl (vp_in_nI (by omega) (by decide)) dX2_use_38 ?_
      refine lv_topi (fun z9 e9 => ?_)
      obtain rfl : z9 = S X := e9.trans (by rw [nI_clamp (by omega), us_at])
      refine lv_iconst (v := 1) hx hb dX2_use_39 (by decide) ?_
      refine lv_isub hx hb dX2_use_40 ?_
      refine va_iast hx hb hK hP hD hS 8 0 rfl rfl (vp_in_nI (by omega) (by decide)) dX2_use_41 (fun Hp locs hP hD hS => ?_)
      rw [nI_clamp (show X < 2 ^ 31 by omega), us_s hX.1 t28] at hP hD
      have hP : va_P (dC, dI) classes (cw ad cI n a T H b R st (upd O j (nI k)) (us_S T H had j S (X + 1))) Hp := hP
      have hD : va_D A (cw ad cI n a T H b R st (upd O j (nI k)) (us_S T H had j S (X + 1))) := hD
      refine lv_iinc (k := 5) (v := nI (X + 1)) (lv' := [(5, .int (nI (X + 1))), (0, .ref (ad 6)), (1, .ref (ad 1)), (2, .int (nI j)), (3, .int (nI k)), (4, .int (nI had))]) hx hb dX2_use_42 hl rfl (ii_1 _) (by decide) rfl (fun ls hl => ?_)
      refine lv_goto (tgt := 10) hx hb dX2_use_45 (by decide) ?_
      exact ih_10 _ _ _ _ (by omega) ⟨X + 1, rfl, by omega, lv_sub hl [1, 2, 3, 4, 5, 0] rfl, hP, hD, hS⟩
set_option maxHeartbeats 4000000 in
set_option maxRecDepth 100000 in
theorem c_X2_growToAll (l : Launch) (dC : Nat → ClassId) (dI : Nat → Nat → Nat) (cI : ClassId) (ad : Nat → Nat) (n a : Nat) (T H : Nat → Nat) (b : Nat) (R : Nat → Nat) (st : Int32) (O S : Nat → Int32) (sz : Nat) (k : Nat) (n7 : n ≤ 7) (a14 : a ≤ 14) (hT : ∀ i, T i < 7 ∧ H i < 7) (n1 : 1 ≤ n) (hT2 : ∀ e, e < a → T e < n ∧ H e < n) (hk : k < b) (hb3 : b ≤ 3) (hR : ∀ k, R k < 128) (hI : ru_I n a b T H R k (R k, O)) (hSu : su_ok n a b T H R k (R k) (ow_u O) S) : Met l yX2_growToAll (wq yX2_growToAll cX2_growToAll 7 none) ({ frames := 4, cells := 0, slots := 0, locals := 92 }) (mu_P (dC, dI) classes [(cI, .int)] (cw ad cI n a T H b R st O S) sz [.ref (ad 6), .ref (ad 1), .int (nI k), .int (nI (R k))]) (va_Qv (fun S2 : Nat → Int32 => su_ok n a b T H R k (2 ^ n - 1) (ow_u (ru_it n a b T H R k (n - 1) (R k, O)).2) S2) (mu_B (dC, dI) classes [(cI, .int)] (cw ad cI n a T H b R st O S) sz (fun S2 => cw ad cI n a T H b R st ((ru_it n a b T H R k (n - 1) (R k, O)).2) S2)) (va_A (cw ad cI n a T H b R st O S) sz)) 0 0 (va_A (cw ad cI n a T H b R st O S) sz) := by
  have p7 := bi_p7 n7
  have p0 := Nat.two_pow_pos n
  refine Met.ofW (cc := cX2_growToAll) (maxL := 7) (ret := none) (by decide) rfl ?_
  intro p e s m args below meth c s₁ B hml hv
  obtain ⟨rfl, hsz, hP, hK, hN, hD0⟩ := hv
  have hx := B.exec
  have hb := B.bytes
  have hr := B.returns
  have hlocks := B.notSynchronized
  have hts := atoms_spec (ws := (wq yX2_growToAll cX2_growToAll 7 none)) B.pre
  have hw : ∀ w ∈ bigW, w.before _ s = true := fun w h => hts w (List.mem_cons_of_mem _ h)
  have hown : s.vm.findClass RX2 = some m.cls := findClass_of_methodNamed B.named
  subst hsz
  have hD := hD0.self (sz := s.heap.size)
  generalize hAe : va_A (cw ad cI n a T H b R st O S) s.heap.size = A at hD ⊢
  have hA : ∀ q : Nat, s.heap.size ≤ q → A q := fun q h => by rw [← hAe]; exact Or.inr h
  have hS : va_S A s.heap s.heap [] := va_S.rf
  have hl := lv_entry ([.ref (ad 6), .ref (ad 1), .int (nI k), .int (nI (R k))]) (n := 7) (Nat.le_of_ble_eq_true rfl)
  rw [lg_entry_eq]
  generalize (lg_sl ([.ref (ad 6), .ref (ad 1), .int (nI k), .int (nI (R k))]) ++ List.replicate (7 - (lg_sl ([.ref (ad 6), .ref (ad 1), .int (nI k), .int (nI (R k))])).length) Slot.unset).toArray = ls at hl ⊢
  have hl : lv_has ls 7 [(0, .ref (ad 6)), (1, .ref (ad 1)), (2, .int (nI k)), (3, .int (nI (R k)))] := hl
  refine lv_iload_n hx hb dX2_growToAll_0 rfl (lv_at hl 3 rfl) ?_
  refine lv_istore (lv' := [(4, .int (nI (R k))), (0, .ref (ad 6)), (1, .ref (ad 1)), (2, .int (nI k)), (3, .int (nI (R k)))]) hx hb dX2_growToAll_1 hl (by decide) rfl (fun ls hl => ?_)
  refine lv_iconst (v := nI (0 + 1)) hx hb dX2_growToAll_3 (by decide) ?_
  refine lv_istore (lv' := [(5, .int (nI (0 + 1))), (4, .int (nI (R k))), (0, .ref (ad 6)), (1, .ref (ad 1)), (2, .int (nI k)), (3, .int (nI (R k)))]) hx hb dX2_growToAll_4 hl (by decide) rfl (fun ls hl => ?_)
  refine wl_loopH (fun k9 Hp locs ls => ∃ (i : Nat) (S1 : Nat → Int32), n - i = k9 ∧ (i ≤ n - 1) ∧ (su_ok n a b T H R k (ru_it n a b T H R k i (R k, O)).1 (ow_u (ru_it n a b T H R k i (R k, O)).2) S1) ∧ lv_has ls 7 [(0, .ref (ad 6)), (1, .ref (ad 1)), (2, .int (nI k)), (4, .int (nI (ru_it n a b T H R k i (R k, O)).1)), (5, .int (nI (i + 1)))] ∧ va_P (dC, dI) classes (cw ad cI n a T H b R st ((ru_it n a b T H R k i (R k, O)).2) S1) Hp ∧ va_D A (cw ad cI n a T H b R st ((ru_it n a b T H R k i (R k, O)).2) S1) ∧ va_S A s.heap Hp locs) ?_ _ ⟨0, S, rfl, by omega, hSu, lv_sub hl [2, 3, 4, 1, 0] rfl, hP, hD, hS⟩
  clear hP hD hS hl
  intro k9 Hp locs ls ih9 h9
  obtain ⟨i, S1, k9e, hi, hS1, hl, hP, hD, hS⟩ := h9
  have ih_6 := ih9
  clear ih9
  subst k9e
  refine lv_iload hx hb dX2_growToAll_6 (lv_at hl 4 rfl) ?_
  refine lv_aload_n hx hb dX2_growToAll_8 rfl (lv_at hl 1 rfl) ?_
  refine va_getN (D := (dC, dI)) (ci := 1) (v := .int (nI n)) (C := RX1) (T := TX1) (N := 4) hx hb hw in_X1 hown hK hP 1 rfl rfl 2 (by decide) (nf_X2_58 hN) (fun _ h9 => h9) rfl dX2_growToAll_9 ?_
  refine lv_icmp_ge (tgt := 61) hx hb dX2_growToAll_12 (by decide) (fun b12 => ?_) (fun b12 => ?_)
  -- if_icmpge at 12, t
  · have t12 := (nI_leI (by omega) (by omega)).mp b12
    obtain rfl : i = n - 1 := by omega
    have e8 := ru_it_all hT2 (by omega : k < 3) hI
    rw [e8] at hS1
    exact W.vret hx hb hr (fun t ht hW => ⟨⟨_, rfl, hS1, by rw [ht]; exact hP, va_K.moved hW.alike hK, by rw [hAe]; exact hD⟩, hS.F ht⟩) hS.2.2 dX2_growToAll_61
  -- if_icmpge at 12, f
  · have t12 : i + 1 < n := Nat.lt_of_not_le (fun z => b12 (nI_le z (by omega)))
    refine lv_aload_n hx hb dX2_growToAll_15 rfl (lv_at hl 0 rfl) ?_
    refine lv_aload_n hx hb dX2_growToAll_16 rfl (lv_at hl 1 rfl) ?_
    refine lv_iload hx hb dX2_growToAll_17 (lv_at hl 3 rfl) ?_
    refine ro_V (As := [.ref (ad 1), .int (nI (ru_it n a b T H R k i (R k, O)).1)]) (rest := []) (b := ad 6) ⟨hx, hb, hml, hown, hts⟩ (c_X2_leastSafeArc l dC dI cI ad n a T H b R st ((ru_it n a b T H R k i (R k, O)).2) S1 k (ru_it n a b T H R k i (R k, O)).1 n7 a14 hT (Nat.lt_of_lt_of_le (ru_I_it hT2 (by omega : k < 3) hI i).2.1 p7) (ru_I_it hT2 (by omega : k < 3) hI i).1 hS1) (cwV 2 hts (bw_V mq_ml_X2_61 mq_im_X2_leastSafeArc mq_se_X2_leastSafeArc mq_in_X2 mq_co_X2_leastSafeArc) rfl rfl rfl (by decide +kernel) ⟨Nat.le_of_ble_eq_true rfl, Nat.le_of_ble_eq_true rfl⟩) hP hK hN 6 rfl rfl rfl hl.1 rfl (Nat.le_of_ble_eq_true rfl) dX2_growToAll_19 ⟨Nat.zero_le _, Nat.zero_le _⟩ (fun r9 h9 => ?_)
    obtain ⟨I1, I2, I3, I4, I5⟩ := ru_I_it hT2 (by omega : k < 3) hI i
    by_cases hf : (ru_it n a b T H R k i (R k, O)).1 = 2 ^ n - 1
    · obtain rfl : r9 = -1 := by
        rw [h9, gr_none n7 hT2 hf, if_neg (Nat.lt_irrefl _)]
      refine lv_istore (lv' := [(6, .int (-1)), (0, .ref (ad 6)), (1, .ref (ad 1)), (2, .int (nI k)), (4, .int (nI (ru_it n a b T H R k i (R k, O)).1)), (5, .int (nI (i + 1)))]) hx hb dX2_growToAll_22 hl (by decide) rfl (fun ls hl => ?_)
      refine lv_iload hx hb dX2_growToAll_24 (lv_at hl 0 rfl) ?_
      refine lv_iconst (v := -1) hx hb dX2_growToAll_26 (by decide) ?_
      refine lv_icmp_ne (tgt := 31) hx hb dX2_growToAll_27 (by decide) (fun b9 => absurd (rfl) b9) (fun _ => ?_)
      have e8 := ru_it_two hf (ru_it_all hT2 (by omega : k < 3) hI)
      rw [hf, e8] at hS1
      rw [e8] at hP hD
      exact W.vret hx hb hr (fun t ht hW => ⟨⟨_, rfl, hS1, by rw [ht]; exact hP, va_K.moved hW.alike hK, by rw [hAe]; exact hD⟩, hS.F ht⟩) hS.2.2 dX2_growToAll_30
    · obtain ⟨p1, p2, p3, p4⟩ := ru_pick_at I1 (fun e he => (hT2 e he).1) I2 hf
      obtain ⟨j, hj⟩ : ∃ j, j = ru_pick n a b T H R k (ru_it n a b T H R k i (R k, O)).1 (ow_u (ru_it n a b T H R k i (R k, O)).2) := ⟨_, rfl⟩
      rw [← hj] at p1 p2 p3 p4
      obtain rfl : r9 = nI j := by
        rw [h9, ← hj, if_pos p1]
      have q7 := hT j
      refine lv_istore (lv' := [(6, .int (nI j)), (0, .ref (ad 6)), (1, .ref (ad 1)), (2, .int (nI k)), (4, .int (nI (ru_it n a b T H R k i (R k, O)).1)), (5, .int (nI (i + 1)))]) hx hb dX2_growToAll_22 hl (by decide) rfl (fun ls hl => ?_)
      refine lv_iload hx hb dX2_growToAll_24 (lv_at hl 0 rfl) ?_
      refine lv_iconst (v := -1) hx hb dX2_growToAll_26 (by decide) ?_
      refine lv_icmp_ne (tgt := 31) hx hb dX2_growToAll_27 (by decide) (fun _ => ?_) (fun b9 => absurd b9 (ow_n14 j (by omega)))
      refine lv_aload_n hx hb dX2_growToAll_31 rfl (lv_at hl 1 rfl) ?_
      refine lv_aload_n hx hb dX2_growToAll_32 rfl (lv_at hl 2 rfl) ?_
      refine lv_iload hx hb dX2_growToAll_33 (lv_at hl 0 rfl) ?_
      refine lv_iload_n hx hb dX2_growToAll_35 rfl (lv_at hl 3 rfl) ?_
      refine lv_iload hx hb dX2_growToAll_36 (lv_at hl 4 rfl) ?_
      refine mu_Vv (As := [.ref (ad 1), .int (nI j), .int (nI k), .int (nI (ru_it n a b T H R k i (R k, O)).1)]) (rest := []) (b := ad 6) ⟨hx, hb, hml, hown, hts⟩ (c_X2_use l dC dI cI ad n a T H b R st ((ru_it n a b T H R k i (R k, O)).2) S1 _ j k (ru_it n a b T H R k i (R k, O)).1 n7 (by omega) hT) (cwV 4 hts (bw_V mq_ml_X2_65 mq_im_X2_use mq_se_X2_use mq_in_X2 mq_co_X2_use) rfl rfl rfl (by decide +kernel) ⟨Nat.le_of_ble_eq_true rfl, Nat.le_of_ble_eq_true rfl⟩) hP hK hN hD hS hA 6 rfl rfl rfl hl.1 rfl (Nat.le_of_ble_eq_true rfl) dX2_growToAll_38 ⟨Nat.zero_le _, Nat.zero_le _⟩ (fun u9 Hp locs h9 hP hD hS => ?_)
      have hP : va_P (dC, dI) classes (cw ad cI n a T H b R st (upd (ru_it n a b T H R k i (R k, O)).2 j (nI k)) (us_S T H (ru_it n a b T H R k i (R k, O)).1 j S1 (2 ^ n))) Hp := hP
      have hD : va_D A (cw ad cI n a T H b R st (upd (ru_it n a b T H R k i (R k, O)).2 j (nI k)) (us_S T H (ru_it n a b T H R k i (R k, O)).1 j S1 (2 ^ n))) := hD
      refine lv_iload hx hb dX2_growToAll_41 (lv_at hl 4 rfl) ?_
      refine lv_iconst (v := 1) hx hb dX2_growToAll_43 (by decide) ?_
      refine lv_aload_n hx hb dX2_growToAll_44 rfl (lv_at hl 2 rfl) ?_
      refine va_getN (D := (dC, dI)) (ci := 1) (v := .ref (ad 3)) (C := RX1) (T := TX1) (N := 4) hx hb hw in_X1 hown hK hP 1 rfl rfl 1 (by decide) (nf_X2_69 hN) (fun _ h9 => h9) rfl dX2_growToAll_45 ?_
      refine lv_iload hx hb dX2_growToAll_48 (lv_at hl 0 rfl) ?_
      refine va_iald hx hb hK hP 3 0 rfl rfl (vp_in_nI (by omega) (by decide)) dX2_growToAll_50 ?_
      refine lv_topi (fun z9 e9 => ?_)
      obtain rfl : z9 = nI (H j) := e9.trans (ar_at H (by omega))
      refine lv_ishl hx hb dX2_growToAll_51 ?_
      refine lv_ior hx hb dX2_growToAll_52 ?_
      refine lv_topi (fun z9 e9 => ?_)
      obtain rfl : z9 = nI ((ru_it n a b T H R k i (R k, O)).1 ||| 2 ^ H j) := e9.trans (by rw [bi_sh _ (by omega), bi_or])
      refine lv_istore (lv' := [(4, .int (nI ((ru_it n a b T H R k i (R k, O)).1 ||| 2 ^ H j))), (6, .int (nI j)), (0, .ref (ad 6)), (1, .ref (ad 1)), (2, .int (nI k)), (5, .int (nI (i + 1)))]) hx hb dX2_growToAll_53 hl (by decide) rfl (fun ls hl => ?_)
      refine lv_iinc (k := 5) (v := nI (i + 1 + 1)) (lv' := [(5, .int (nI (i + 1 + 1))), (4, .int (nI ((ru_it n a b T H R k i (R k, O)).1 ||| 2 ^ H j))), (6, .int (nI j)), (0, .ref (ad 6)), (1, .ref (ad 1)), (2, .int (nI k))]) hx hb dX2_growToAll_55 hl rfl (ii_1 _) (by decide) rfl (fun ls hl => ?_)
      refine lv_goto (tgt := 6) hx hb dX2_growToAll_58 (by decide) ?_
      have e8 : ru_it n a b T H R k (i + 1) (R k, O) = ((ru_it n a b T H R k i (R k, O)).1 ||| 2 ^ H j, upd (ru_it n a b T H R k i (R k, O)).2 j (nI k)) := by rw [ru_it_s, ru_st_go hf, ← hj]
      have e81 : (ru_it n a b T H R k (i + 1) (R k, O)).1 = (ru_it n a b T H R k i (R k, O)).1 ||| 2 ^ H j := by rw [e8]
      have e82 : (ru_it n a b T H R k (i + 1) (R k, O)).2 = upd (ru_it n a b T H R k i (R k, O)).2 j (nI k) := by rw [e8]
      rw [← e81] at hl
      rw [← e82] at hP hD
      have hS2 : su_ok n a b T H R k (ru_it n a b T H R k (i + 1) (R k, O)).1 (ow_u (ru_it n a b T H R k (i + 1) (R k, O)).2) (us_S T H (ru_it n a b T H R k i (R k, O)).1 j S1 (2 ^ n)) := by
        rw [e81, e82, ow_upd _ _ (by omega)]
        exact su_use I1 p1 p2 (ru_ok_iff.mpr p3) hS1 (fun X h0 h1 => us_val h0 h1)
      exact ih_6 _ _ _ _ (by omega) ⟨i + 1, _, rfl, by omega, hS2, lv_sub hl [3, 4, 5, 1, 0] rfl, hP, hD, hS⟩
set_option maxHeartbeats 4000000 in
set_option maxRecDepth 100000 in
theorem c_X2_measureSurplus (l : Launch) (dC : Nat → ClassId) (dI : Nat → Nat → Nat) (cI : ClassId) (ad : Nat → Nat) (n a : Nat) (T H : Nat → Nat) (b : Nat) (R : Nat → Nat) (st : Int32) (O S : Nat → Int32) (sz : Nat) (n7 : n ≤ 7) (a14 : a ≤ 14) (hT : ∀ i, T i < 7 ∧ H i < 7) (hb3 : b ≤ 3) (hR : ∀ k, R k < 128) : Met l yX2_measureSurplus (wq yX2_measureSurplus cX2_measureSurplus 4 (some .boolean)) ({ frames := 2, cells := 0, slots := 0, locals := 45 }) (mu_P (dC, dI) classes [(cI, .int)] (cw ad cI n a T H b R st O S) sz [.ref (ad 6), .ref (ad 1), .ref (ad 4)]) (va_Qi (fun (r : Int32) (S2 : Nat → Int32) => r = nI (ed_b (paF n a T H b R)) ∧ (paF n a T H b R = true → ∀ X, 0 < X → X < 2 ^ n → S2 X = nI (rho0 T H a X - ed_mis R b X))) (mu_B (dC, dI) classes [(cI, .int)] (cw ad cI n a T H b R st O S) sz (fun S2 => cw ad cI n a T H b R st O S2)) (va_A (cw ad cI n a T H b R st O S) sz)) 0 0 (va_A (cw ad cI n a T H b R st O S) sz) := by
  have p7 := bi_p7 n7
  have p0 := Nat.two_pow_pos n
  refine Met.ofW (cc := cX2_measureSurplus) (maxL := 4) (ret := (some .boolean)) (by decide) rfl ?_
  intro p e s m args below meth c s₁ B hml hv
  obtain ⟨rfl, hsz, hP, hK, hN, hD0⟩ := hv
  have hx := B.exec
  have hb := B.bytes
  have hr := B.returns
  have hlocks := B.notSynchronized
  have hts := atoms_spec (ws := (wq yX2_measureSurplus cX2_measureSurplus 4 (some .boolean))) B.pre
  have hw : ∀ w ∈ bigW, w.before _ s = true := fun w h => hts w (List.mem_cons_of_mem _ h)
  have hown : s.vm.findClass RX2 = some m.cls := findClass_of_methodNamed B.named
  subst hsz
  have hD := hD0.self (sz := s.heap.size)
  generalize hAe : va_A (cw ad cI n a T H b R st O S) s.heap.size = A at hD ⊢
  have hA : ∀ q : Nat, s.heap.size ≤ q → A q := fun q h => by rw [← hAe]; exact Or.inr h
  have hS : va_S A s.heap s.heap [] := va_S.rf
  have hl := lv_entry ([.ref (ad 6), .ref (ad 1), .ref (ad 4)]) (n := 4) (Nat.le_of_ble_eq_true rfl)
  rw [lg_entry_eq]
  generalize (lg_sl ([.ref (ad 6), .ref (ad 1), .ref (ad 4)]) ++ List.replicate (4 - (lg_sl ([.ref (ad 6), .ref (ad 1), .ref (ad 4)])).length) Slot.unset).toArray = ls at hl ⊢
  have hl : lv_has ls 4 [(0, .ref (ad 6)), (1, .ref (ad 1)), (2, .ref (ad 4))] := hl
  refine lv_iconst (v := nI 1) hx hb dX2_measureSurplus_0 (by decide) ?_
  refine lv_istore_n (lv' := [(3, .int (nI 1)), (0, .ref (ad 6)), (1, .ref (ad 1)), (2, .ref (ad 4))]) hx hb dX2_measureSurplus_1 rfl hl (by decide) rfl (fun ls hl => ?_)
  refine wl_loopH (fun k9 Hp locs ls => ∃ (X : Nat) (S1 : Nat → Int32), 2 ^ n - X = k9 ∧ (0 < X ∧ X ≤ 2 ^ n) ∧ (∀ Y, 0 < Y → Y < X → ed_mis R b Y ≤ rho0 T H a Y ∧ S1 Y = nI (rho0 T H a Y - ed_mis R b Y)) ∧ lv_has ls 4 [(0, .ref (ad 6)), (1, .ref (ad 1)), (2, .ref (ad 4)), (3, .int (nI X))] ∧ va_P (dC, dI) classes (cw ad cI n a T H b R st O S1) Hp ∧ va_D A (cw ad cI n a T H b R st O S1) ∧ va_S A s.heap Hp locs) ?_ _ ⟨1, S, rfl, ⟨by omega, by omega⟩, fun Y y0 y1 => by omega, lv_sub hl [1, 2, 3, 0] rfl, hP, hD, hS⟩
  clear hP hD hS hl
  intro k9 Hp locs ls ih9 h9
  obtain ⟨X, S1, k9e, hX, hall, hl, hP, hD, hS⟩ := h9
  have ih_2 := ih9
  clear ih9
  subst k9e
  refine lv_iload_n hx hb dX2_measureSurplus_2 rfl (lv_at hl 3 rfl) ?_
  refine lv_aload_n hx hb dX2_measureSurplus_3 rfl (lv_at hl 1 rfl) ?_
  refine ro_V (As := []) (rest := [.int (nI X)]) (b := ad 1) ⟨hx, hb, hml, hown, hts⟩ (c_X1_allVertices l dC dI cI ad n a T H b R st O S1 n7) (cwV 0 hts (bw_V mq_ml_X2_45 mq_im_X1_allVertices mq_se_X1_allVertices mq_in_X1 mq_co_X1_allVertices) rfl rfl rfl (by decide +kernel) ⟨Nat.le_of_ble_eq_true rfl, Nat.le_of_ble_eq_true rfl⟩) hP hK hN 1 rfl rfl rfl hl.1 rfl (Nat.le_of_ble_eq_true rfl) dX2_measureSurplus_4 ⟨Nat.zero_le _, Nat.zero_le _⟩ (fun r9 h9 => ?_)
  obtain rfl : r9 = nI (2 ^ n - 1) := h9
  refine lv_icmp_gt (tgt := 44) hx hb dX2_measureSurplus_7 (by decide) (fun b7 => ?_) (fun b7 => ?_)
  -- if_icmpgt at 7, t
  · have t7 := (nI_ltI (by omega) (by omega)).mp b7
    refine lv_iconst (v := 1) hx hb dX2_measureSurplus_44 (by decide) ?_
    have e8 : paF n a T H b R = true := pa_t (fun Y y0 y1 => (hall Y y0 (by omega)).1)
    exact W.zret (v := 1) hx hb hr rfl (fun t ht hW => ⟨⟨_, _, rfl, ⟨zb_T e8, fun _ Y y0 y1 => (hall Y y0 (by omega)).2⟩, by rw [ht]; exact hP, va_K.moved hW.alike hK, by rw [hAe]; exact hD⟩, hS.F ht⟩) hS.2.2 dX2_measureSurplus_45
  -- if_icmpgt at 7, f
  · have t7 : X ≤ 2 ^ n - 1 := Nat.le_of_not_lt (fun z => b7 (nI_lt z (by omega)))
    have z9 : rho0 T H a X ≤ a := ed_ct_le _ _
    have z8 : ed_mis R b X ≤ b := ed_ct_le _ _
    refine lv_aload_n hx hb dX2_measureSurplus_10 rfl (lv_at hl 0 rfl) ?_
    refine va_get (D := (dC, dI)) (ci := 2) (v := .ref (ad 8)) (C := RX2) (T := TX2) (N := 3) hx hb hw in_X2 hown hK hP 6 rfl rfl 1 (by decide) (hw _ mq_fl_X2_15) (fun _ h9 => h9) rfl dX2_measureSurplus_11 ?_
    refine lv_iload_n hx hb dX2_measureSurplus_14 rfl (lv_at hl 3 rfl) ?_
    refine lv_aload_n hx hb dX2_measureSurplus_15 rfl (lv_at hl 1 rfl) ?_
    refine lv_iload_n hx hb dX2_measureSurplus_16 rfl (lv_at hl 3 rfl) ?_
    refine ro_V (As := [.int (nI X)]) (rest := [.int (nI X), .ref (ad 8)]) (b := ad 1) ⟨hx, hb, hml, hown, hts⟩ (c_X1_entrySize l dC dI cI ad n a T H b R st O S1 X a14 (by omega) hT) (cwV 1 hts (bw_V mq_ml_X2_51 mq_im_X1_entrySize mq_se_X1_entrySize mq_in_X1 mq_co_X1_entrySize) rfl rfl rfl (by decide +kernel) ⟨Nat.le_of_ble_eq_true rfl, Nat.le_of_ble_eq_true rfl⟩) hP hK hN 1 rfl rfl rfl hl.1 rfl (Nat.le_of_ble_eq_true rfl) dX2_measureSurplus_17 ⟨Nat.zero_le _, Nat.zero_le _⟩ (fun r9 h9 => ?_)
    obtain rfl : r9 = nI (rho0 T H a X) := h9
    refine lv_aload_n hx hb dX2_measureSurplus_20 rfl (lv_at hl 2 rfl) ?_
    refine lv_iload_n hx hb dX2_measureSurplus_21 rfl (lv_at hl 3 rfl) ?_
    refine ro_V (As := [.int (nI X)]) (rest := [.int (nI (rho0 T H a X)), .int (nI X), .ref (ad 8)]) (b := ad 4) ⟨hx, hb, hml, hown, hts⟩ (c_X0_missing l dC dI cI ad n a T H b R st O S1 X hb3 hR) (cwV 1 hts (bw_V mq_ml_X2_55 mq_im_X0_missing mq_se_X0_missing mq_in_X0 mq_co_X0_missing) rfl rfl rfl (by decide +kernel) ⟨Nat.le_of_ble_eq_true rfl, Nat.le_of_ble_eq_true rfl⟩) hP hK hN 4 rfl rfl rfl hl.1 rfl (Nat.le_of_ble_eq_true rfl) dX2_measureSurplus_22 ⟨Nat.zero_le _, Nat.zero_le _⟩ (fun r9 h9 => ?_)
    obtain rfl : r9 = nI (ed_mis R b X) := h9
    refine lv_isub hx hb dX2_measureSurplus_25 ?_
    refine va_iast hx hb hK hP hD hS 8 0 rfl rfl (vp_in_nI (by omega) (by decide)) dX2_measureSurplus_26 (fun Hp locs hP hD hS => ?_)
    rw [nI_clamp (show X < 2 ^ 31 by omega)] at hP hD
    have hP : va_P (dC, dI) classes (cw ad cI n a T H b R st O (upd S1 X (nI (rho0 T H a X) - nI (ed_mis R b X)))) Hp := hP
    have hD : va_D A (cw ad cI n a T H b R st O (upd S1 X (nI (rho0 T H a X) - nI (ed_mis R b X)))) := hD
    refine lv_aload_n hx hb dX2_measureSurplus_27 rfl (lv_at hl 0 rfl) ?_
    refine va_get (D := (dC, dI)) (ci := 2) (v := .ref (ad 8)) (C := RX2) (T := TX2) (N := 3) hx hb hw in_X2 hown hK hP 6 rfl rfl 1 (by decide) (hw _ mq_fl_X2_15) (fun _ h9 => h9) rfl dX2_measureSurplus_28 ?_
    refine lv_iload_n hx hb dX2_measureSurplus_31 rfl (lv_at hl 3 rfl) ?_
    refine va_iald hx hb hK hP 8 0 rfl rfl (vp_in_nI (by omega) (by decide)) dX2_measureSurplus_32 ?_
    refine lv_topi (fun z9 e9 => ?_)
    obtain rfl : z9 = nI (rho0 T H a X) - nI (ed_mis R b X) := e9.trans (by rw [nI_clamp (by omega)]; exact pk_us)
    refine lv_if_ge (tgt := 38) hx hb dX2_measureSurplus_33 (by decide) (fun b33 => ?_) (fun b33 => ?_)
    -- ifge at 33, t
    · have t33 := (ms_ge (by omega) (by omega)).mp b33
      refine lv_iinc (k := 3) (v := nI (X + 1)) (lv' := [(3, .int (nI (X + 1))), (0, .ref (ad 6)), (1, .ref (ad 1)), (2, .ref (ad 4))]) hx hb dX2_measureSurplus_38 hl rfl (ii_1 _) (by decide) rfl (fun ls hl => ?_)
      refine lv_goto (tgt := 2) hx hb dX2_measureSurplus_41 (by decide) ?_
      have hall2 : ∀ Y, 0 < Y → Y < X + 1 → ed_mis R b Y ≤ rho0 T H a Y ∧ upd S1 X (nI (rho0 T H a X) - nI (ed_mis R b X)) Y = nI (rho0 T H a Y - ed_mis R b Y) := by
        intro Y y0 y1
        by_cases y3 : Y = X
        · subst y3
          rw [pk_us]
          exact ⟨t33, pk_sub t33⟩
        · rw [pk_un y3]
          exact hall Y y0 (by omega)
      exact ih_2 _ _ _ _ (by omega) ⟨X + 1, _, rfl, by omega, hall2, lv_sub hl [1, 2, 3, 0] rfl, hP, hD, hS⟩
    -- ifge at 33, f
    · have t33 : ¬ ed_mis R b X ≤ rho0 T H a X := fun z => b33 ((ms_ge (by omega) (by omega)).mpr z)
      refine lv_iconst (v := 0) hx hb dX2_measureSurplus_36 (by decide) ?_
      have e8 : paF n a T H b R = false := pa_f hX.1 (by omega) t33
      exact W.zret (v := 0) hx hb hr rfl (fun t ht hW => ⟨⟨_, _, rfl, ⟨zb_F e8, fun z => by rw [e8] at z; cases z⟩, by rw [ht]; exact hP, va_K.moved hW.alike hK, by rw [hAe]; exact hD⟩, hS.F ht⟩) hS.2.2 dX2_measureSurplus_37
set_option maxHeartbeats 4000000 in
set_option maxRecDepth 100000 in
theorem c_J7_fill (l : Launch) (dC : Nat → ClassId) (dI : Nat → Nat → Nat) (cI : ClassId) (ad : Nat → Nat) (n a : Nat) (T H : Nat → Nat) (b : Nat) (R : Nat → Nat) (st : Int32) (O S : Nat → Int32) (sz : Nat)  : Met l yJ7_fill (wq yJ7_fill cJ7_fill 4 none) ({ frames := 0, cells := 0, slots := 0, locals := 0 }) (mu_P (dC, dI) classes [(cI, .int)] (cw ad cI n a T H b R st O S) sz [.ref (ad 7), .int (-1)]) (va_Qv (fun _ : Unit => True) (mu_B (dC, dI) classes [(cI, .int)] (cw ad cI n a T H b R st O S) sz (fun _ => cw ad cI n a T H b R st (fun _ => -1) S)) (va_A (cw ad cI n a T H b R st O S) sz)) 0 0 (va_A (cw ad cI n a T H b R st O S) sz) := by
  refine Met.ofW (cc := cJ7_fill) (maxL := 4) (ret := none) (by decide) rfl ?_
  intro p e s m args below meth c s₁ B hml hv
  obtain ⟨rfl, hsz, hP, hK, hN, hD0⟩ := hv
  have hx := B.exec
  have hb := B.bytes
  have hr := B.returns
  have hlocks := B.notSynchronized
  have hts := atoms_spec (ws := (wq yJ7_fill cJ7_fill 4 none)) B.pre
  have hw : ∀ w ∈ bigW, w.before _ s = true := fun w h => hts w (List.mem_cons_of_mem _ h)
  have hown : s.vm.findClass RJ7 = some m.cls := findClass_of_methodNamed B.named
  subst hsz
  have hD := hD0.self (sz := s.heap.size)
  generalize hAe : va_A (cw ad cI n a T H b R st O S) s.heap.size = A at hD ⊢
  have hA : ∀ q : Nat, s.heap.size ≤ q → A q := fun q h => by rw [← hAe]; exact Or.inr h
  have hS : va_S A s.heap s.heap [] := va_S.rf
  have hl := lv_entry ([.ref (ad 7), .int (-1)]) (n := 4) (Nat.le_of_ble_eq_true rfl)
  rw [lg_entry_eq]
  generalize (lg_sl ([.ref (ad 7), .int (-1)]) ++ List.replicate (4 - (lg_sl ([.ref (ad 7), .int (-1)])).length) Slot.unset).toArray = ls at hl ⊢
  have hl : lv_has ls 4 [(0, .ref (ad 7)), (1, .int (-1))] := hl
  refine lv_iconst (v := nI 0) hx hb dJ7_fill_0 (by decide) ?_
  refine lv_istore_n (lv' := [(2, .int (nI 0)), (0, .ref (ad 7)), (1, .int (-1))]) hx hb dJ7_fill_1 rfl hl (by decide) rfl (fun ls hl => ?_)
  refine lv_aload_n hx hb dJ7_fill_2 rfl (lv_at hl 1 rfl) ?_
  refine va_alen (v := nI 14) hx hb hK hP 7 0 rfl rfl rfl dJ7_fill_3 ?_
  refine lv_istore_n (lv' := [(3, .int (nI 14)), (2, .int (nI 0)), (0, .ref (ad 7)), (1, .int (-1))]) hx hb dJ7_fill_4 rfl hl (by decide) rfl (fun ls hl => ?_)
  refine wl_loopH (fun k9 Hp locs ls => ∃ (i : Nat) (O1 : Nat → Int32), 14 - i = k9 ∧ (i ≤ 14) ∧ (∀ j, j < i → O1 j = -1) ∧ lv_has ls 4 [(0, .ref (ad 7)), (1, .int (-1)), (2, .int (nI i)), (3, .int (nI 14))] ∧ va_P (dC, dI) classes (cw ad cI n a T H b R st O1 S) Hp ∧ va_D A (cw ad cI n a T H b R st O1 S) ∧ va_S A s.heap Hp locs) ?_ _ ⟨0, O, rfl, by omega, fun j hj => by omega, lv_sub hl [2, 3, 1, 0] rfl, hP, hD, hS⟩
  clear hP hD hS hl
  intro k9 Hp locs ls ih9 h9
  obtain ⟨i, O1, k9e, hi, hO, hl, hP, hD, hS⟩ := h9
  have ih_5 := ih9
  clear ih9
  subst k9e
  refine lv_iload_n hx hb dJ7_fill_5 rfl (lv_at hl 2 rfl) ?_
  refine lv_iload_n hx hb dJ7_fill_6 rfl (lv_at hl 3 rfl) ?_
  refine lv_icmp_ge (tgt := 20) hx hb dJ7_fill_7 (by decide) (fun b7 => ?_) (fun b7 => ?_)
  -- if_icmpge at 7, t
  · have t7 := (nI_leI (by omega) (by omega)).mp b7
    have hP : va_P (dC, dI) classes (cw ad cI n a T H b R st (fun _ => -1) S) Hp := cw_O (fun j hj => hO j (by omega)) hP
    have hD : va_D A (cw ad cI n a T H b R st (fun _ => -1) S) := cw_D hD
    exact W.vret hx hb hr (fun t ht hW => ⟨⟨(), rfl, trivial, by rw [ht]; exact hP, va_K.moved hW.alike hK, by rw [hAe]; exact hD⟩, hS.F ht⟩) hS.2.2 dJ7_fill_20
  -- if_icmpge at 7, f
  · have t7 : i < 14 := Nat.lt_of_not_le (fun z => b7 (nI_le z (by omega)))
    refine lv_aload_n hx hb dJ7_fill_10 rfl (lv_at hl 0 rfl) ?_
    refine lv_iload_n hx hb dJ7_fill_11 rfl (lv_at hl 2 rfl) ?_
    refine lv_iload_n hx hb dJ7_fill_12 rfl (lv_at hl 1 rfl) ?_
    refine va_iast hx hb hK hP hD hS 7 0 rfl rfl (vp_in_nI (by omega) (by decide)) dJ7_fill_13 (fun Hp locs hP hD hS => ?_)
    rw [nI_clamp (show i < 2 ^ 31 by omega)] at hP hD
    have hP : va_P (dC, dI) classes (cw ad cI n a T H b R st (upd O1 i (-1)) S) Hp := hP
    have hD : va_D A (cw ad cI n a T H b R st (upd O1 i (-1)) S) := hD
    refine lv_iinc (k := 2) (v := nI (i + 1)) (lv' := [(2, .int (nI (i + 1))), (0, .ref (ad 7)), (1, .int (-1)), (3, .int (nI 14))]) hx hb dJ7_fill_14 hl rfl (ii_1 _) (by decide) rfl (fun ls hl => ?_)
    refine lv_goto (tgt := 5) hx hb dJ7_fill_17 (by decide) ?_
    have hO2 : ∀ j, j < i + 1 → upd O1 i (-1) j = -1 := by
      intro j hj
      by_cases h : j = i
      · rw [h, pk_us]
      · rw [pk_un h]
        exact hO j (by omega)
    exact ih_5 _ _ _ _ (by omega) ⟨i + 1, _, rfl, by omega, hO2, lv_sub hl [1, 2, 0, 3] rfl, hP, hD, hS⟩
set_option maxHeartbeats 4000000 in
set_option maxRecDepth 100000 in
theorem c_X2_refresh (l : Launch) (dC : Nat → ClassId) (dI : Nat → Nat → Nat) (cI : ClassId) (ad : Nat → Nat) (n a : Nat) (T H : Nat → Nat) (b : Nat) (R : Nat → Nat) (st : Int32) (O S : Nat → Int32) (sz : Nat) (n7 : n ≤ 7) (a14 : a ≤ 14) (hT : ∀ i, T i < 7 ∧ H i < 7) (n1 : 1 ≤ n) (hT2 : ∀ e, e < a → T e < n ∧ H e < n) (hb3 : b ≤ 3) (hR : ∀ k, R k < 128) (hR3 : ∀ k, k < b → R k ≠ 0 ∧ R k < 2 ^ n) (hst : st = 1 ∨ (st = 0 ∧ O = pg_all n a b T H R)) : Met l yX2_refresh (wq yX2_refresh cX2_refresh 4 none) ({ frames := 5, cells := 0, slots := 0, locals := 118 }) (mu_P (dC, dI) classes [(cI, .int)] (cw ad cI n a T H b R st O S) sz [.ref (ad 6), .ref (ad 1), .ref (ad 4)]) (va_Qv (fun S2 : Nat → Int32 => True) (mu_B (dC, dI) classes [(cI, .int)] (cw ad cI n a T H b R st O S) sz (fun S2 => cw ad cI n a T H b R 0 (pg_all n a b T H R) S2)) (va_A (cw ad cI n a T H b R st O S) sz)) 0 0 (va_A (cw ad cI n a T H b R st O S) sz) := by
  refine Met.ofW (cc := cX2_refresh) (maxL := 4) (ret := none) (by decide) rfl ?_
  intro p e s m args below meth c s₁ B hml hv
  obtain ⟨rfl, hsz, hP, hK, hN, hD0⟩ := hv
  have hx := B.exec
  have hb := B.bytes
  have hr := B.returns
  have hlocks := B.notSynchronized
  have hts := atoms_spec (ws := (wq yX2_refresh cX2_refresh 4 none)) B.pre
  have hw : ∀ w ∈ bigW, w.before _ s = true := fun w h => hts w (List.mem_cons_of_mem _ h)
  have hown : s.vm.findClass RX2 = some m.cls := findClass_of_methodNamed B.named
  subst hsz
  have hD := hD0.self (sz := s.heap.size)
  generalize hAe : va_A (cw ad cI n a T H b R st O S) s.heap.size = A at hD ⊢
  have hA : ∀ q : Nat, s.heap.size ≤ q → A q := fun q h => by rw [← hAe]; exact Or.inr h
  have hS : va_S A s.heap s.heap [] := va_S.rf
  have hl := lv_entry ([.ref (ad 6), .ref (ad 1), .ref (ad 4)]) (n := 4) (Nat.le_of_ble_eq_true rfl)
  rw [lg_entry_eq]
  generalize (lg_sl ([.ref (ad 6), .ref (ad 1), .ref (ad 4)]) ++ List.replicate (4 - (lg_sl ([.ref (ad 6), .ref (ad 1), .ref (ad 4)])).length) Slot.unset).toArray = ls at hl ⊢
  have hl : lv_has ls 4 [(0, .ref (ad 6)), (1, .ref (ad 1)), (2, .ref (ad 4))] := hl
  refine lv_aload_n hx hb dX2_refresh_0 rfl (lv_at hl 0 rfl) ?_
  refine va_get (D := (dC, dI)) (ci := 2) (v := .int st) (C := RX2) (T := TX2) (N := 3) hx hb hw in_X2 hown hK hP 6 rfl rfl 2 (by decide) (hw _ mq_fl_X2_18) (fun _ h9 => h9) rfl dX2_refresh_1 ?_
  refine lv_if_ne (tgt := 8) hx hb dX2_refresh_4 (by decide) (fun b4 => ?_) (fun b4 => ?_)
  -- ifne at 4, t
  · refine lv_aload_n hx hb dX2_refresh_8 rfl (lv_at hl 0 rfl) ?_
    refine lv_iconst (v := 0) hx hb dX2_refresh_9 (by decide) ?_
    refine va_put (D := (dC, dI)) (ci := 2) (v := .int 0) (ty := .boolean) (C := RX2) (T := TX2) (N := 3) hx hb hw in_X2 tyX2 tyX2_ok nmX2 hown hK hP hD hS 6 rfl rfl 2 (by decide) (hw _ mq_fl_X2_18) (fun _ h9 => h9) rfl (by decide +kernel) rfl rfl (Nat.le_of_ble_eq_true rfl) dX2_refresh_10 (fun Hp locs hP hD hS => ?_)
    have hP : va_P (dC, dI) classes (cw ad cI n a T H b R 0 O S) Hp := hP
    have hD : va_D A (cw ad cI n a T H b R 0 O S) := hD
    refine lv_aload_n hx hb dX2_refresh_13 rfl (lv_at hl 0 rfl) ?_
    refine va_get (D := (dC, dI)) (ci := 2) (v := .ref (ad 7)) (C := RX2) (T := TX2) (N := 3) hx hb hw in_X2 hown hK hP 6 rfl rfl 0 (by decide) (hw _ mq_fl_X2_9) (fun _ h9 => h9) rfl dX2_refresh_14 ?_
    refine lv_iconst (v := -1) hx hb dX2_refresh_17 (by decide) ?_
    refine mu_Sv (As := [.ref (ad 7), .int (-1)]) (rest := []) ⟨hx, hb, hml, hown, hts⟩ (c_J7_fill l dC dI cI ad n a T H b R 0 O S _ ) ⟨callB_of 2 hts (bw_c mq_co_J7_fill) rfl rfl rfl (hw _ mq_in_J7) (hw _ mq_ml_X2_22) (by decide +kernel) ⟨Nat.le_of_ble_eq_true rfl, Nat.le_of_ble_eq_true rfl⟩, hw _ mq_st_J7_fill⟩ hP hK hN hD hS hA rfl hl.1 rfl (Nat.le_of_ble_eq_true rfl) dX2_refresh_18 ⟨Nat.zero_le _, Nat.zero_le _⟩ (fun u9 Hp locs h9 hP hD hS => ?_)
    have hP : va_P (dC, dI) classes (cw ad cI n a T H b R 0 (fun _ => -1) S) Hp := hP
    have hD : va_D A (cw ad cI n a T H b R 0 (fun _ => -1) S) := hD
    refine lv_aload_n hx hb dX2_refresh_21 rfl (lv_at hl 0 rfl) ?_
    refine lv_aload_n hx hb dX2_refresh_22 rfl (lv_at hl 1 rfl) ?_
    refine lv_aload_n hx hb dX2_refresh_23 rfl (lv_at hl 2 rfl) ?_
    refine mu_Vi (As := [.ref (ad 1), .ref (ad 4)]) (rest := []) (b := ad 6) ⟨hx, hb, hml, hown, hts⟩ (c_X2_measureSurplus l dC dI cI ad n a T H b R 0 (fun _ => -1) S _ n7 a14 hT hb3 hR) (cwV 2 hts (bw_V mq_ml_X2_28 mq_im_X2_measureSurplus mq_se_X2_measureSurplus mq_in_X2 mq_co_X2_measureSurplus) rfl rfl rfl (by decide +kernel) ⟨Nat.le_of_ble_eq_true rfl, Nat.le_of_ble_eq_true rfl⟩) hP hK hN hD hS hA 6 rfl rfl rfl hl.1 rfl (Nat.le_of_ble_eq_true rfl) dX2_refresh_24 ⟨Nat.zero_le _, Nat.zero_le _⟩ (fun r9 u9 Hp locs h9 hP hD hS => ?_)
    obtain ⟨S2, rfl⟩ : ∃ z, z = u9 := ⟨_, rfl⟩
    obtain rfl : r9 = nI (ed_b (paF n a T H b R)) := h9.1
    have hP : va_P (dC, dI) classes (cw ad cI n a T H b R 0 (fun _ => -1) S2) Hp := hP
    have hD : va_D A (cw ad cI n a T H b R 0 (fun _ => -1) S2) := hD
    refine lv_if_ne (tgt := 31) hx hb dX2_refresh_27 (by decide) (fun b27 => ?_) (fun b27 => ?_)
    -- ifne at 27, t
    · have t27 := zb_n0.mp b27
      refine lv_iconst (v := nI 0) hx hb dX2_refresh_31 (by decide) ?_
      refine lv_istore_n (lv' := [(3, .int (nI 0)), (0, .ref (ad 6)), (1, .ref (ad 1)), (2, .ref (ad 4))]) hx hb dX2_refresh_32 rfl hl (by decide) rfl (fun ls hl => ?_)
      have hI0 : pg_I n a b T H R 0 (pg_O n a b T H R 0) := ⟨fun z => by rw [show ow_u (pg_O n a b T H R 0) = fun _ => false from ow_m1]; exact ru_ok_iff.mp ((pa_ok z).symm.trans t27), fun e => Or.inl rfl⟩
      have hS0 : 0 < b → su_ok n a b T H R 0 (R 0) (ow_u (pg_O n a b T H R 0)) S2 := fun z => by rw [show ow_u (pg_O n a b T H R 0) = fun _ => false from ow_m1]; exact su_start z (h9.2 t27)
      refine wl_loopH (fun k9 Hp locs ls => ∃ (i : Nat) (S1 : Nat → Int32), b - i = k9 ∧ (i ≤ b) ∧ (pg_I n a b T H R i (pg_O n a b T H R i)) ∧ (i < b → su_ok n a b T H R i (R i) (ow_u (pg_O n a b T H R i)) S1) ∧ lv_has ls 4 [(0, .ref (ad 6)), (1, .ref (ad 1)), (2, .ref (ad 4)), (3, .int (nI i))] ∧ va_P (dC, dI) classes (cw ad cI n a T H b R 0 (pg_O n a b T H R i) S1) Hp ∧ va_D A (cw ad cI n a T H b R 0 (pg_O n a b T H R i) S1) ∧ va_S A s.heap Hp locs) ?_ _ ⟨0, S2, rfl, by omega, hI0, hS0, lv_sub hl [1, 2, 3, 0] rfl, hP, hD, hS⟩
      clear hP hD hS hl
      intro k9 Hp locs ls ih9 h9
      obtain ⟨i, S1, k9e, hi, hI, hS1, hl, hP, hD, hS⟩ := h9
      have ih_33 := ih9
      clear ih9
      subst k9e
      refine lv_iload_n hx hb dX2_refresh_33 rfl (lv_at hl 3 rfl) ?_
      refine lv_aload_n hx hb dX2_refresh_34 rfl (lv_at hl 2 rfl) ?_
      refine va_getN (D := (dC, dI)) (ci := 0) (v := .int (nI b)) (C := RX0) (T := TX0) (N := 2) hx hb hw in_X0 hown hK hP 4 rfl rfl 1 (by decide) (nf_X2_32 hN) (fun _ h9 => h9) rfl dX2_refresh_35 ?_
      refine lv_icmp_ge (tgt := 59) hx hb dX2_refresh_38 (by decide) (fun b38 => ?_) (fun b38 => ?_)
      -- if_icmpge at 38, t
      · have t38 := (nI_leI (by omega) (by omega)).mp b38
        obtain rfl : i = b := by omega
        rw [← pg_yes t27] at hP hD
        exact W.vret hx hb hr (fun t ht hW => ⟨⟨_, rfl, trivial, by rw [ht]; exact hP, va_K.moved hW.alike hK, by rw [hAe]; exact hD⟩, hS.F ht⟩) hS.2.2 dX2_refresh_59
      -- if_icmpge at 38, f
      · have t38 : i < b := Nat.lt_of_not_le (fun z => b38 (nI_le z (by omega)))
        refine lv_aload_n hx hb dX2_refresh_41 rfl (lv_at hl 0 rfl) ?_
        refine lv_aload_n hx hb dX2_refresh_42 rfl (lv_at hl 1 rfl) ?_
        refine lv_iload_n hx hb dX2_refresh_43 rfl (lv_at hl 3 rfl) ?_
        refine lv_aload_n hx hb dX2_refresh_44 rfl (lv_at hl 2 rfl) ?_
        refine va_getN (D := (dC, dI)) (ci := 0) (v := .ref (ad 5)) (C := RX0) (T := TX0) (N := 2) hx hb hw in_X0 hown hK hP 4 rfl rfl 0 (by decide) (nf_X2_38 hN) (fun _ h9 => h9) rfl dX2_refresh_45 ?_
        refine lv_iload_n hx hb dX2_refresh_48 rfl (lv_at hl 3 rfl) ?_
        refine va_iald hx hb hK hP 5 0 rfl rfl (vp_in_nI (by omega) (by decide)) dX2_refresh_49 ?_
        refine lv_topi (fun z9 e9 => ?_)
        obtain rfl : z9 = nI (R i) := e9.trans (ar_at R (by omega))
        refine mu_Vv (As := [.ref (ad 1), .int (nI i), .int (nI (R i))]) (rest := []) (b := ad 6) ⟨hx, hb, hml, hown, hts⟩ (c_X2_growToAll l dC dI cI ad n a T H b R 0 (pg_O n a b T H R i) S1 _ i n7 a14 hT n1 hT2 t38 hb3 hR (pg_start hR3 hb3 t38 hI) (hS1 t38)) (cwV 3 hts (bw_V mq_ml_X2_41 mq_im_X2_growToAll mq_se_X2_growToAll mq_in_X2 mq_co_X2_growToAll) rfl rfl rfl (by decide +kernel) ⟨Nat.le_of_ble_eq_true rfl, Nat.le_of_ble_eq_true rfl⟩) hP hK hN hD hS hA 6 rfl rfl rfl hl.1 rfl (Nat.le_of_ble_eq_true rfl) dX2_refresh_50 ⟨Nat.zero_le _, Nat.zero_le _⟩ (fun u9 Hp locs h9 hP hD hS => ?_)
        obtain ⟨S2, rfl⟩ : ∃ z, z = u9 := ⟨_, rfl⟩
        have hP : va_P (dC, dI) classes (cw ad cI n a T H b R 0 (pg_O n a b T H R (i + 1)) S2) Hp := hP
        have hD : va_D A (cw ad cI n a T H b R 0 (pg_O n a b T H R (i + 1)) S2) := hD
        refine lv_iinc (k := 3) (v := nI (i + 1)) (lv' := [(3, .int (nI (i + 1))), (0, .ref (ad 6)), (1, .ref (ad 1)), (2, .ref (ad 4))]) hx hb dX2_refresh_53 hl rfl (ii_1 _) (by decide) rfl (fun ls hl => ?_)
        refine lv_goto (tgt := 33) hx hb dX2_refresh_56 (by decide) ?_
        have hI2 := pg_step hT2 hR3 hb3 t38 hI
        have hS2 : i + 1 < b → su_ok n a b T H R (i + 1) (R (i + 1)) (ow_u (pg_O n a b T H R (i + 1))) S2 := fun z => su_next z h9
        exact ih_33 _ _ _ _ (by omega) ⟨i + 1, S2, rfl, by omega, hI2, hS2, lv_sub hl [1, 2, 3, 0] rfl, hP, hD, hS⟩
    -- ifne at 27, f
    · have t27 := zb_0.mp b27
      rw [← pg_no t27 hb3] at hP hD
      exact W.vret hx hb hr (fun t ht hW => ⟨⟨_, rfl, trivial, by rw [ht]; exact hP, va_K.moved hW.alike hK, by rw [hAe]; exact hD⟩, hS.F ht⟩) hS.2.2 dX2_refresh_30
  -- ifne at 4, f
  · obtain ⟨rfl, rfl⟩ : st = 0 ∧ O = pg_all n a b T H R := by
      rcases hst with z | z
      · exact absurd (z.symm.trans b4) (by decide)
      · exact z
    exact W.vret hx hb hr (fun t ht hW => ⟨⟨_, rfl, trivial, by rw [ht]; exact hP, va_K.moved hW.alike hK, by rw [hAe]; exact hD⟩, hS.F ht⟩) hS.2.2 dX2_refresh_7
end
section
/-! BranchPacker's own methods -/
def bc1 (x : Int32) : Int32 := x - ((x.toUInt32 >>> ((1 : Int32).toUInt32 &&& Int32.toUInt32 31)).toInt32 &&& 1431655765)
def bc2 (x : Int32) : Int32 := (x &&& 858993459) + ((x.toUInt32 >>> ((2 : Int32).toUInt32 &&& Int32.toUInt32 31)).toInt32 &&& 858993459)
def bc3 (x : Int32) : Int32 := (x + (x.toUInt32 >>> ((4 : Int32).toUInt32 &&& Int32.toUInt32 31)).toInt32) &&& 252645135
def bc4 (x : Int32) : Int32 := x + (x.toUInt32 >>> ((8 : Int32).toUInt32 &&& Int32.toUInt32 31)).toInt32
def bc5 (x : Int32) : Int32 := x + (x.toUInt32 >>> ((16 : Int32).toUInt32 &&& Int32.toUInt32 31)).toInt32
theorem bc_ok : ∀ X, X < 128 → bc5 (bc4 (bc3 (bc2 (bc1 (nI X))))) &&& 63 = nI (or_pop X) := by decide +kernel
theorem ts_ne {x : Bool} (h : ¬ x = false) : x = true := by cases x <;> first | rfl | exact absurd rfl h
theorem rho0_pos {T H : Nat → Nat} {a X j : Nat} (hj : j < a) (h : ed_en T H X j = true) : 0 < rho0 T H a X := ed_ct_pos hj h
theorem tb_out {x : Int32} (z0 : ¬ x = 0) (z1 : ¬ x = 1) (z2 : ¬ x = 2) : x.toInt < 0 ∨ 2 < x.toInt := by
  have h0 : ¬ x.toInt = 0 := fun z => z0 (Int32.toInt_inj.mp (z.trans (by decide)))
  have h1 : ¬ x.toInt = 1 := fun z => z1 (Int32.toInt_inj.mp (z.trans (by decide)))
  have h2 : ¬ x.toInt = 2 := fun z => z2 (Int32.toInt_inj.mp (z.trans (by decide)))
  omega
theorem y_one {y : Int32} (h0 : ¬ y < 0) (h1 : y ≤ 1) (h2 : ¬ y = 0) : y = 1 := by
  obtain ⟨j, hj, rfl⟩ := nI_of2 (x := y) (M := 1) (n := 1) (by decide) h0 h1
  rcases Nat.lt_or_ge j 1 with z | z
  · exact absurd (by rw [show j = 0 by omega]; exact nI_0) h2
  · rw [show j = 1 by omega]
    rfl
theorem mo_s (T H : Nat → Nat) (a Y m : Nat) : mo_at T H a Y (m + 1) = if (m + 1) &&& Y = 0 then min (mo_at T H a Y m) (rho0 T H a (m + 1)) else mo_at T H a Y m := rfl
theorem mo_le (T H : Nat → Nat) (a Y m : Nat) : mo_at T H a Y m ≤ 99 := by
  induction m with
  | zero => exact Nat.le_refl _
  | succ m ih =>
    rw [mo_s]
    split
    · omega
    · exact ih
theorem mn_nI {u v : Nat} (hu : u < 2 ^ 31) (hv : v < 2 ^ 31) : (if nI v < nI u then nI v else nI u) = nI (min u v) := by
  by_cases h : v < u
  · rw [if_pos (nI_lt h hu), show min u v = v by omega]
  · rw [if_neg (nI_nlt (by omega) hv), show min u v = u by omega]
set_option maxHeartbeats 4000000 in
set_option maxRecDepth 100000 in
theorem c_J6_bitCount (l : Launch) (dC : Nat → ClassId) (dI : Nat → Nat → Nat) (cI : ClassId) (ad : Nat → Nat) (n a : Nat) (T H : Nat → Nat) (b : Nat) (R : Nat → Nat) (st : Int32) (O S : Nat → Int32) (X : Nat) (hX : X < 128) : Met l yJ6_bitCount (wq yJ6_bitCount cJ6_bitCount 1 (some .int)) ({ frames := 0, cells := 0, slots := 0, locals := 0 }) (ro_P (dC, dI) classes [(cI, .int)] (cw ad cI n a T H b R st O S) [.int (nI X)]) (vp_Si (fun r => r = nI (or_pop X))) 0 0 (fun _ => False) := by
  refine Met.ofW (cc := cJ6_bitCount) (maxL := 1) (ret := (some .int)) (by decide) rfl ?_
  intro p e s m args below meth c s₁ B hml hv
  obtain ⟨rfl, hP, hK, hN⟩ := hv
  have hx := B.exec
  have hb := B.bytes
  have hr := B.returns
  have hlocks := B.notSynchronized
  have hts := atoms_spec (ws := (wq yJ6_bitCount cJ6_bitCount 1 (some .int))) B.pre
  have hw : ∀ w ∈ bigW, w.before _ s = true := fun w h => hts w (List.mem_cons_of_mem _ h)
  have hown : s.vm.findClass RJ6 = some m.cls := findClass_of_methodNamed B.named
  have hl := lv_entry ([.int (nI X)]) (n := 1) (Nat.le_of_ble_eq_true rfl)
  rw [lg_entry_eq]
  generalize (lg_sl ([.int (nI X)]) ++ List.replicate (1 - (lg_sl ([.int (nI X)])).length) Slot.unset).toArray = ls at hl ⊢
  have hl : lv_has ls 1 [(0, .int (nI X))] := hl
  refine lv_iload_n hx hb dJ6_bitCount_0 rfl (lv_at hl 0 rfl) ?_
  refine lv_iload_n hx hb dJ6_bitCount_1 rfl (lv_at hl 0 rfl) ?_
  refine lv_iconst (v := 1) hx hb dJ6_bitCount_2 (by decide) ?_
  refine lv_iushr hx hb dJ6_bitCount_3 rfl ?_
  refine lv_ldcw (v := 1431655765) hx hb hown (hw _ mq_k_J6_265) dJ6_bitCount_4 ?_
  refine lv_iand hx hb dJ6_bitCount_7 ?_
  refine lv_isub hx hb dJ6_bitCount_8 ?_
  refine lv_topi (fun z9 e9 => ?_)
  obtain rfl : z9 = bc1 (nI X) := e9.trans (rfl)
  refine lv_istore_n (lv' := [(0, .int (bc1 (nI X)))]) hx hb dJ6_bitCount_9 rfl hl (by decide) rfl (fun ls hl => ?_)
  refine lv_iload_n hx hb dJ6_bitCount_10 rfl (lv_at hl 0 rfl) ?_
  refine lv_ldcw (v := 858993459) hx hb hown (hw _ mq_k_J6_266) dJ6_bitCount_11 ?_
  refine lv_iand hx hb dJ6_bitCount_14 ?_
  refine lv_iload_n hx hb dJ6_bitCount_15 rfl (lv_at hl 0 rfl) ?_
  refine lv_iconst (v := 2) hx hb dJ6_bitCount_16 (by decide) ?_
  refine lv_iushr hx hb dJ6_bitCount_17 rfl ?_
  refine lv_ldcw (v := 858993459) hx hb hown (hw _ mq_k_J6_266) dJ6_bitCount_18 ?_
  refine lv_iand hx hb dJ6_bitCount_21 ?_
  refine lv_iadd hx hb dJ6_bitCount_22 ?_
  refine lv_topi (fun z9 e9 => ?_)
  obtain rfl : z9 = bc2 (bc1 (nI X)) := e9.trans (rfl)
  refine lv_istore_n (lv' := [(0, .int (bc2 (bc1 (nI X))))]) hx hb dJ6_bitCount_23 rfl hl (by decide) rfl (fun ls hl => ?_)
  refine lv_iload_n hx hb dJ6_bitCount_24 rfl (lv_at hl 0 rfl) ?_
  refine lv_iload_n hx hb dJ6_bitCount_25 rfl (lv_at hl 0 rfl) ?_
  refine lv_iconst (v := 4) hx hb dJ6_bitCount_26 (by decide) ?_
  refine lv_iushr hx hb dJ6_bitCount_27 rfl ?_
  refine lv_iadd hx hb dJ6_bitCount_28 ?_
  refine lv_ldcw (v := 252645135) hx hb hown (hw _ mq_k_J6_267) dJ6_bitCount_29 ?_
  refine lv_iand hx hb dJ6_bitCount_32 ?_
  refine lv_topi (fun z9 e9 => ?_)
  obtain rfl : z9 = bc3 (bc2 (bc1 (nI X))) := e9.trans (rfl)
  refine lv_istore_n (lv' := [(0, .int (bc3 (bc2 (bc1 (nI X)))))]) hx hb dJ6_bitCount_33 rfl hl (by decide) rfl (fun ls hl => ?_)
  refine lv_iload_n hx hb dJ6_bitCount_34 rfl (lv_at hl 0 rfl) ?_
  refine lv_iload_n hx hb dJ6_bitCount_35 rfl (lv_at hl 0 rfl) ?_
  refine lv_bipush (v := 8) hx hb dJ6_bitCount_36 (by decide) ?_
  refine lv_iushr hx hb dJ6_bitCount_38 rfl ?_
  refine lv_iadd hx hb dJ6_bitCount_39 ?_
  refine lv_topi (fun z9 e9 => ?_)
  obtain rfl : z9 = bc4 (bc3 (bc2 (bc1 (nI X)))) := e9.trans (rfl)
  refine lv_istore_n (lv' := [(0, .int (bc4 (bc3 (bc2 (bc1 (nI X))))))]) hx hb dJ6_bitCount_40 rfl hl (by decide) rfl (fun ls hl => ?_)
  refine lv_iload_n hx hb dJ6_bitCount_41 rfl (lv_at hl 0 rfl) ?_
  refine lv_iload_n hx hb dJ6_bitCount_42 rfl (lv_at hl 0 rfl) ?_
  refine lv_bipush (v := 16) hx hb dJ6_bitCount_43 (by decide) ?_
  refine lv_iushr hx hb dJ6_bitCount_45 rfl ?_
  refine lv_iadd hx hb dJ6_bitCount_46 ?_
  refine lv_topi (fun z9 e9 => ?_)
  obtain rfl : z9 = bc5 (bc4 (bc3 (bc2 (bc1 (nI X))))) := e9.trans (rfl)
  refine lv_istore_n (lv' := [(0, .int (bc5 (bc4 (bc3 (bc2 (bc1 (nI X)))))))]) hx hb dJ6_bitCount_47 rfl hl (by decide) rfl (fun ls hl => ?_)
  refine lv_iload_n hx hb dJ6_bitCount_48 rfl (lv_at hl 0 rfl) ?_
  refine lv_bipush (v := 63) hx hb dJ6_bitCount_49 (by decide) ?_
  refine lv_iand hx hb dJ6_bitCount_51 ?_
  refine lv_topi (fun z9 e9 => ?_)
  obtain rfl : z9 = nI (or_pop X) := e9.trans (bc_ok X hX)
  exact W.iret (v := nI (or_pop X)) hx hb hr (fun t ht hW => ⟨_, rfl, rfl, ht⟩) (fun _ h => by cases h) dJ6_bitCount_52
set_option maxHeartbeats 4000000 in
set_option maxRecDepth 100000 in
theorem c_X3_comesBefore (l : Launch) (dC : Nat → ClassId) (dI : Nat → Nat → Nat) (cI : ClassId) (ad : Nat → Nat) (n a : Nat) (T H : Nat → Nat) (b : Nat) (R : Nat → Nat) (st : Int32) (O S : Nat → Int32) (X Y : Nat) (hX : X < 128) (hY : Y < 128) : Met l yX3_comesBefore (wq yX3_comesBefore cX3_comesBefore 6 (some .boolean)) ({ frames := 1, cells := 0, slots := 0, locals := 20 }) (ro_P (dC, dI) classes [(cI, .int)] (cw ad cI n a T H b R st O S) [.int (nI X), .int (nI Y)]) (vp_Si (fun r => r = nI (ed_b (or_bf X Y)))) 0 0 (fun _ => False) := by
  have zX : or_pop X ≤ 7 := ed_ct_le _ _
  have zY : or_pop Y ≤ 7 := ed_ct_le _ _
  refine Met.ofW (cc := cX3_comesBefore) (maxL := 6) (ret := (some .boolean)) (by decide) rfl ?_
  intro p e s m args below meth c s₁ B hml hv
  obtain ⟨rfl, hP, hK, hN⟩ := hv
  have hx := B.exec
  have hb := B.bytes
  have hr := B.returns
  have hlocks := B.notSynchronized
  have hts := atoms_spec (ws := (wq yX3_comesBefore cX3_comesBefore 6 (some .boolean))) B.pre
  have hw : ∀ w ∈ bigW, w.before _ s = true := fun w h => hts w (List.mem_cons_of_mem _ h)
  have hown : s.vm.findClass RX3 = some m.cls := findClass_of_methodNamed B.named
  have hl := lv_entry ([.int (nI X), .int (nI Y)]) (n := 6) (Nat.le_of_ble_eq_true rfl)
  rw [lg_entry_eq]
  generalize (lg_sl ([.int (nI X), .int (nI Y)]) ++ List.replicate (6 - (lg_sl ([.int (nI X), .int (nI Y)])).length) Slot.unset).toArray = ls at hl ⊢
  have hl : lv_has ls 6 [(0, .int (nI X)), (1, .int (nI Y))] := hl
  refine lv_iload_n hx hb dX3_comesBefore_0 rfl (lv_at hl 0 rfl) ?_
  refine ro_S (As := [.int (nI X)]) (rest := []) ⟨hx, hb, hml, hown, hts⟩ (c_J6_bitCount l dC dI cI ad n a T H b R st O S X hX) ⟨callB_of 1 hts (bw_c mq_co_J6_bitCount) rfl rfl rfl (hw _ mq_in_J6) (hw _ mq_ml_X3_112) (by decide +kernel) ⟨Nat.le_of_ble_eq_true rfl, Nat.le_of_ble_eq_true rfl⟩, hw _ mq_st_J6_bitCount⟩ hP hK hN rfl hl.1 rfl (Nat.le_of_ble_eq_true rfl) dX3_comesBefore_1 ⟨Nat.zero_le _, Nat.zero_le _⟩ (fun r9 h9 => ?_)
  obtain rfl : r9 = nI (or_pop X) := h9
  refine lv_istore_n (lv' := [(2, .int (nI (or_pop X))), (0, .int (nI X)), (1, .int (nI Y))]) hx hb dX3_comesBefore_4 rfl hl (by decide) rfl (fun ls hl => ?_)
  refine lv_iload_n hx hb dX3_comesBefore_5 rfl (lv_at hl 2 rfl) ?_
  refine ro_S (As := [.int (nI Y)]) (rest := []) ⟨hx, hb, hml, hown, hts⟩ (c_J6_bitCount l dC dI cI ad n a T H b R st O S Y hY) ⟨callB_of 1 hts (bw_c mq_co_J6_bitCount) rfl rfl rfl (hw _ mq_in_J6) (hw _ mq_ml_X3_112) (by decide +kernel) ⟨Nat.le_of_ble_eq_true rfl, Nat.le_of_ble_eq_true rfl⟩, hw _ mq_st_J6_bitCount⟩ hP hK hN rfl hl.1 rfl (Nat.le_of_ble_eq_true rfl) dX3_comesBefore_6 ⟨Nat.zero_le _, Nat.zero_le _⟩ (fun r9 h9 => ?_)
  obtain rfl : r9 = nI (or_pop Y) := h9
  refine lv_istore_n (lv' := [(3, .int (nI (or_pop Y))), (2, .int (nI (or_pop X))), (0, .int (nI X)), (1, .int (nI Y))]) hx hb dX3_comesBefore_9 rfl hl (by decide) rfl (fun ls hl => ?_)
  refine lv_iload_n hx hb dX3_comesBefore_10 rfl (lv_at hl 1 rfl) ?_
  refine lv_iload_n hx hb dX3_comesBefore_11 rfl (lv_at hl 0 rfl) ?_
  refine lv_icmp_eq (tgt := 26) hx hb dX3_comesBefore_12 (by decide) (fun b12 => ?_) (fun b12 => ?_)
  -- if_icmpeq at 12, t
  · have t12 := (nI_eq (by omega) (by omega)).mp b12
    refine lv_iload_n hx hb dX3_comesBefore_26 rfl (lv_at hl 2 rfl) ?_
    refine lv_iload_n hx hb dX3_comesBefore_27 rfl (lv_at hl 3 rfl) ?_
    refine lv_ixor hx hb dX3_comesBefore_28 ?_
    refine lv_istore (lv' := [(4, .int ((nI X) ^^^ (nI Y))), (3, .int (nI (or_pop Y))), (2, .int (nI (or_pop X))), (0, .int (nI X)), (1, .int (nI Y))]) hx hb dX3_comesBefore_29 hl (by decide) rfl (fun ls hl => ?_)
    refine lv_iload hx hb dX3_comesBefore_31 (lv_at hl 0 rfl) ?_
    refine lv_iload hx hb dX3_comesBefore_33 (lv_at hl 0 rfl) ?_
    refine lv_ineg hx hb dX3_comesBefore_35 ?_
    refine lv_iand hx hb dX3_comesBefore_36 ?_
    refine lv_istore (lv' := [(5, .int (((nI X) ^^^ (nI Y)) &&& (-((nI X) ^^^ (nI Y))))), (4, .int ((nI X) ^^^ (nI Y))), (3, .int (nI (or_pop Y))), (2, .int (nI (or_pop X))), (0, .int (nI X)), (1, .int (nI Y))]) hx hb dX3_comesBefore_37 hl (by decide) rfl (fun ls hl => ?_)
    refine lv_iload_n hx hb dX3_comesBefore_39 rfl (lv_at hl 4 rfl) ?_
    refine lv_iload hx hb dX3_comesBefore_40 (lv_at hl 0 rfl) ?_
    refine lv_iand hx hb dX3_comesBefore_42 ?_
    refine lv_if_eq (tgt := 50) hx hb dX3_comesBefore_43 (by decide) (fun b43 => ?_) (fun b43 => ?_)
    -- ifeq at 43, t
    · have t43 := (or_same hX hY).mp b43
      refine lv_iconst (v := 0) hx hb dX3_comesBefore_50 (by decide) ?_
      exact W.zret (v := 0) hx hb hr rfl (fun t ht hW => ⟨_, rfl, zb_F (by rw [or_bf, if_pos t12]; exact t43), ht⟩) (fun _ h => by cases h) dX3_comesBefore_51
    -- ifeq at 43, f
    · have t43 := ts_ne (fun z => b43 ((or_same hX hY).mpr z))
      refine lv_iconst (v := 1) hx hb dX3_comesBefore_46 (by decide) ?_
      refine lv_goto (tgt := 51) hx hb dX3_comesBefore_47 (by decide) ?_
      exact W.zret (v := 1) hx hb hr rfl (fun t ht hW => ⟨_, rfl, zb_T (by rw [or_bf, if_pos t12]; exact t43), ht⟩) (fun _ h => by cases h) dX3_comesBefore_51
  -- if_icmpeq at 12, f
  · have t12 : ¬ or_pop X = or_pop Y := fun z => b12 (by rw [z])
    refine lv_iload_n hx hb dX3_comesBefore_15 rfl (lv_at hl 1 rfl) ?_
    refine lv_iload_n hx hb dX3_comesBefore_16 rfl (lv_at hl 0 rfl) ?_
    refine lv_icmp_ge (tgt := 24) hx hb dX3_comesBefore_17 (by decide) (fun b17 => ?_) (fun b17 => ?_)
    -- if_icmpge at 17, t
    · have t17 := (nI_leI (by omega) (by omega)).mp b17
      refine lv_iconst (v := 0) hx hb dX3_comesBefore_24 (by decide) ?_
      exact W.zret (v := 0) hx hb hr rfl (fun t ht hW => ⟨_, rfl, zb_F (by rw [or_bf, if_neg t12, decide_eq_false (by omega)]), ht⟩) (fun _ h => by cases h) dX3_comesBefore_25
    -- if_icmpge at 17, f
    · have t17 := Nat.lt_of_not_le (fun z => b17 (nI_le z (by omega)))
      refine lv_iconst (v := 1) hx hb dX3_comesBefore_20 (by decide) ?_
      refine lv_goto (tgt := 25) hx hb dX3_comesBefore_21 (by decide) ?_
      exact W.zret (v := 1) hx hb hr rfl (fun t ht hW => ⟨_, rfl, zb_T (by rw [or_bf, if_neg t12, decide_eq_true t17]), ht⟩) (fun _ h => by cases h) dX3_comesBefore_25
set_option maxHeartbeats 4000000 in
set_option maxRecDepth 100000 in
theorem c_X3_stops_N (l : Launch) (dC : Nat → ClassId) (dI : Nat → Nat → Nat) (cI : ClassId) (ad : Nat → Nat) (n a : Nat) (T H : Nat → Nat) (b : Nat) (R : Nat → Nat) (st : Int32) (O S : Nat → Int32) (X : Nat) (hI : st_I n a T H b R) (hX : X < 128) : Met l yX3_stops (wq yX3_stops cX3_stops 4 (some .boolean)) ({ frames := 2, cells := 0, slots := 0, locals := 45 }) (ro_P (dC, dI) classes [(cI, .int)] (cw ad cI n a T H b R st O S) [.ref (ad 0), .int (nI X), .int (-1)]) (vp_Si (fun r => r = nI (ed_b (stp T H a R b X)))) 0 0 (fun _ => False) := by
  obtain ⟨n1, n7, a14, hT, hT2, hb3, hR3, hR⟩ := hI
  have p7 := bi_p7 n7
  have p0 := Nat.two_pow_pos n
  have z9 : rho0 T H a X ≤ a := ed_ct_le _ _
  have z8 : ed_mis R b X ≤ b := ed_ct_le _ _
  refine Met.ofW (cc := cX3_stops) (maxL := 4) (ret := (some .boolean)) (by decide) rfl ?_
  intro p e s m args below meth c s₁ B hml hv
  obtain ⟨rfl, hP, hK, hN⟩ := hv
  have hx := B.exec
  have hb := B.bytes
  have hr := B.returns
  have hlocks := B.notSynchronized
  have hts := atoms_spec (ws := (wq yX3_stops cX3_stops 4 (some .boolean))) B.pre
  have hw : ∀ w ∈ bigW, w.before _ s = true := fun w h => hts w (List.mem_cons_of_mem _ h)
  have hown : s.vm.findClass RX3 = some m.cls := findClass_of_methodNamed B.named
  have hl := lv_entry ([.ref (ad 0), .int (nI X), .int (-1)]) (n := 4) (Nat.le_of_ble_eq_true rfl)
  rw [lg_entry_eq]
  generalize (lg_sl ([.ref (ad 0), .int (nI X), .int (-1)]) ++ List.replicate (4 - (lg_sl ([.ref (ad 0), .int (nI X), .int (-1)])).length) Slot.unset).toArray = ls at hl ⊢
  have hl : lv_has ls 4 [(0, .ref (ad 0)), (1, .int (nI X)), (2, .int (-1))] := hl
  refine lv_aload_n hx hb dX3_stops_0 rfl (lv_at hl 0 rfl) ?_
  refine va_get (D := (dC, dI)) (ci := 3) (v := .ref (ad 1)) (C := RX3) (T := TX3) (N := 3) hx hb hw in_X3 hown hK hP 0 rfl rfl 0 (by decide) (hw _ mq_fl_X3_10) (fun _ h9 => h9) rfl dX3_stops_1 ?_
  refine lv_iload_n hx hb dX3_stops_4 rfl (lv_at hl 1 rfl) ?_
  refine ro_V (As := [.int (nI X)]) (rest := []) (b := ad 1) ⟨hx, hb, hml, hown, hts⟩ (c_X1_entrySize l dC dI cI ad n a T H b R st O S X a14 hX hT) (cwV 1 hts (bw_V mq_ml_X3_75 mq_im_X1_entrySize mq_se_X1_entrySize mq_in_X1 mq_co_X1_entrySize) rfl rfl rfl (by decide +kernel) ⟨Nat.le_of_ble_eq_true rfl, Nat.le_of_ble_eq_true rfl⟩) hP hK hN 1 rfl rfl rfl hl.1 rfl (Nat.le_of_ble_eq_true rfl) dX3_stops_5 ⟨Nat.zero_le _, Nat.zero_le _⟩ (fun r9 h9 => ?_)
  obtain rfl : r9 = nI (rho0 T H a X) := h9
  refine lv_istore_n (lv' := [(3, .int (nI (rho0 T H a X))), (0, .ref (ad 0)), (1, .int (nI X)), (2, .int (-1))]) hx hb dX3_stops_8 rfl hl (by decide) rfl (fun ls hl => ?_)
  refine lv_iload_n hx hb dX3_stops_9 rfl (lv_at hl 3 rfl) ?_
  refine lv_iconst (v := -1) hx hb dX3_stops_10 (by decide) ?_
  refine lv_icmp_eq (tgt := 29) hx hb dX3_stops_11 (by decide) (fun _ => ?_) (fun b9 => absurd (rfl) b9)
  refine lv_iload_n hx hb dX3_stops_29 rfl (lv_at hl 0 rfl) ?_
  refine lv_aload_n hx hb dX3_stops_30 rfl (lv_at hl 1 rfl) ?_
  refine va_get (D := (dC, dI)) (ci := 3) (v := .ref (ad 4)) (C := RX3) (T := TX3) (N := 3) hx hb hw in_X3 hown hK hP 0 rfl rfl 1 (by decide) (hw _ mq_fl_X3_19) (fun _ h9 => h9) rfl dX3_stops_31 ?_
  refine lv_iload_n hx hb dX3_stops_34 rfl (lv_at hl 2 rfl) ?_
  refine ro_V (As := [.int (nI X)]) (rest := [.int (nI (rho0 T H a X))]) (b := ad 4) ⟨hx, hb, hml, hown, hts⟩ (c_X0_missing l dC dI cI ad n a T H b R st O S X hb3 hR) (cwV 1 hts (bw_V mq_ml_X3_79 mq_im_X0_missing mq_se_X0_missing mq_in_X0 mq_co_X0_missing) rfl rfl rfl (by decide +kernel) ⟨Nat.le_of_ble_eq_true rfl, Nat.le_of_ble_eq_true rfl⟩) hP hK hN 4 rfl rfl rfl hl.1 rfl (Nat.le_of_ble_eq_true rfl) dX3_stops_35 ⟨Nat.zero_le _, Nat.zero_le _⟩ (fun r9 h9 => ?_)
  obtain rfl : r9 = nI (ed_mis R b X) := h9
  refine lv_icmp_ge (tgt := 45) hx hb dX3_stops_38 (by decide) (fun b38 => ?_) (fun b38 => ?_)
  -- if_icmpge at 38, t
  · have t38 := Nat.not_lt.mpr ((nI_leI (by omega) (by omega)).mp b38)
    refine lv_iconst (v := 0) hx hb dX3_stops_45 (by decide) ?_
    exact W.zret (v := 0) hx hb hr rfl (fun t ht hW => ⟨_, rfl, zb_F (by rw [stp, decide_eq_false (by omega)]), ht⟩) (fun _ h => by cases h) dX3_stops_46
  -- if_icmpge at 38, f
  · have t38 := Nat.lt_of_not_le (fun z => b38 (nI_le z (by omega)))
    refine lv_iconst (v := 1) hx hb dX3_stops_41 (by decide) ?_
    refine lv_goto (tgt := 46) hx hb dX3_stops_42 (by decide) ?_
    exact W.zret (v := 1) hx hb hr rfl (fun t ht hW => ⟨_, rfl, zb_T (by rw [stp, decide_eq_true t38]), ht⟩) (fun _ h => by cases h) dX3_stops_46
set_option maxHeartbeats 4000000 in
set_option maxRecDepth 100000 in
theorem c_X3_stops_J (l : Launch) (dC : Nat → ClassId) (dI : Nat → Nat → Nat) (cI : ClassId) (ad : Nat → Nat) (n a : Nat) (T H : Nat → Nat) (b : Nat) (R : Nat → Nat) (st : Int32) (O S : Nat → Int32) (X : Nat) (j : Nat) (hj : j < a) (hI : st_I n a T H b R) (hX : X < 128) : Met l yX3_stops (wq yX3_stops cX3_stops 4 (some .boolean)) ({ frames := 2, cells := 0, slots := 0, locals := 45 }) (ro_P (dC, dI) classes [(cI, .int)] (cw ad cI n a T H b R st O S) [.ref (ad 0), .int (nI X), .int (nI j)]) (vp_Si (fun r => r = nI (ed_b (stpL T H a R b j X)))) 0 0 (fun _ => False) := by
  obtain ⟨n1, n7, a14, hT, hT2, hb3, hR3, hR⟩ := hI
  have p7 := bi_p7 n7
  have p0 := Nat.two_pow_pos n
  have z9 : rho0 T H a X ≤ a := ed_ct_le _ _
  have z8 : ed_mis R b X ≤ b := ed_ct_le _ _
  refine Met.ofW (cc := cX3_stops) (maxL := 4) (ret := (some .boolean)) (by decide) rfl ?_
  intro p e s m args below meth c s₁ B hml hv
  obtain ⟨rfl, hP, hK, hN⟩ := hv
  have hx := B.exec
  have hb := B.bytes
  have hr := B.returns
  have hlocks := B.notSynchronized
  have hts := atoms_spec (ws := (wq yX3_stops cX3_stops 4 (some .boolean))) B.pre
  have hw : ∀ w ∈ bigW, w.before _ s = true := fun w h => hts w (List.mem_cons_of_mem _ h)
  have hown : s.vm.findClass RX3 = some m.cls := findClass_of_methodNamed B.named
  have hl := lv_entry ([.ref (ad 0), .int (nI X), .int (nI j)]) (n := 4) (Nat.le_of_ble_eq_true rfl)
  rw [lg_entry_eq]
  generalize (lg_sl ([.ref (ad 0), .int (nI X), .int (nI j)]) ++ List.replicate (4 - (lg_sl ([.ref (ad 0), .int (nI X), .int (nI j)])).length) Slot.unset).toArray = ls at hl ⊢
  have hl : lv_has ls 4 [(0, .ref (ad 0)), (1, .int (nI X)), (2, .int (nI j))] := hl
  refine lv_aload_n hx hb dX3_stops_0 rfl (lv_at hl 0 rfl) ?_
  refine va_get (D := (dC, dI)) (ci := 3) (v := .ref (ad 1)) (C := RX3) (T := TX3) (N := 3) hx hb hw in_X3 hown hK hP 0 rfl rfl 0 (by decide) (hw _ mq_fl_X3_10) (fun _ h9 => h9) rfl dX3_stops_1 ?_
  refine lv_iload_n hx hb dX3_stops_4 rfl (lv_at hl 1 rfl) ?_
  refine ro_V (As := [.int (nI X)]) (rest := []) (b := ad 1) ⟨hx, hb, hml, hown, hts⟩ (c_X1_entrySize l dC dI cI ad n a T H b R st O S X a14 hX hT) (cwV 1 hts (bw_V mq_ml_X3_75 mq_im_X1_entrySize mq_se_X1_entrySize mq_in_X1 mq_co_X1_entrySize) rfl rfl rfl (by decide +kernel) ⟨Nat.le_of_ble_eq_true rfl, Nat.le_of_ble_eq_true rfl⟩) hP hK hN 1 rfl rfl rfl hl.1 rfl (Nat.le_of_ble_eq_true rfl) dX3_stops_5 ⟨Nat.zero_le _, Nat.zero_le _⟩ (fun r9 h9 => ?_)
  obtain rfl : r9 = nI (rho0 T H a X) := h9
  refine lv_istore_n (lv' := [(3, .int (nI (rho0 T H a X))), (0, .ref (ad 0)), (1, .int (nI X)), (2, .int (nI j))]) hx hb dX3_stops_8 rfl hl (by decide) rfl (fun ls hl => ?_)
  refine lv_iload_n hx hb dX3_stops_9 rfl (lv_at hl 3 rfl) ?_
  refine lv_iconst (v := -1) hx hb dX3_stops_10 (by decide) ?_
  refine lv_icmp_eq (tgt := 29) hx hb dX3_stops_11 (by decide) (fun b9 => absurd b9 (ow_n14 j (by omega))) (fun _ => ?_)
  refine lv_aload_n hx hb dX3_stops_14 rfl (lv_at hl 1 rfl) ?_
  refine va_get (D := (dC, dI)) (ci := 3) (v := .ref (ad 1)) (C := RX3) (T := TX3) (N := 3) hx hb hw in_X3 hown hK hP 0 rfl rfl 0 (by decide) (hw _ mq_fl_X3_10) (fun _ h9 => h9) rfl dX3_stops_15 ?_
  refine lv_iload_n hx hb dX3_stops_18 rfl (lv_at hl 3 rfl) ?_
  refine lv_iload_n hx hb dX3_stops_19 rfl (lv_at hl 2 rfl) ?_
  refine ro_V (As := [.int (nI j), .int (nI X)]) (rest := []) (b := ad 1) ⟨hx, hb, hml, hown, hts⟩ (c_X1_enters l dC dI cI ad n a T H b R st O S j X (by omega) hX hT) (cwV 2 hts (bw_V mq_ml_X3_109 mq_im_X1_enters mq_se_X1_enters mq_in_X1 mq_co_X1_enters) rfl rfl rfl (by decide +kernel) ⟨Nat.le_of_ble_eq_true rfl, Nat.le_of_ble_eq_true rfl⟩) hP hK hN 1 rfl rfl rfl hl.1 rfl (Nat.le_of_ble_eq_true rfl) dX3_stops_20 ⟨Nat.zero_le _, Nat.zero_le _⟩ (fun r9 h9 => ?_)
  obtain rfl : r9 = nI (ed_b (ed_en T H X j)) := h9
  refine lv_if_eq (tgt := 29) hx hb dX3_stops_23 (by decide) (fun b23 => ?_) (fun b23 => ?_)
  -- ifeq at 23, t
  · have t23 := zb_0.mp b23
    refine lv_iload_n hx hb dX3_stops_29 rfl (lv_at hl 0 rfl) ?_
    refine lv_aload_n hx hb dX3_stops_30 rfl (lv_at hl 1 rfl) ?_
    refine va_get (D := (dC, dI)) (ci := 3) (v := .ref (ad 4)) (C := RX3) (T := TX3) (N := 3) hx hb hw in_X3 hown hK hP 0 rfl rfl 1 (by decide) (hw _ mq_fl_X3_19) (fun _ h9 => h9) rfl dX3_stops_31 ?_
    refine lv_iload_n hx hb dX3_stops_34 rfl (lv_at hl 2 rfl) ?_
    refine ro_V (As := [.int (nI X)]) (rest := [.int (nI (rho0 T H a X))]) (b := ad 4) ⟨hx, hb, hml, hown, hts⟩ (c_X0_missing l dC dI cI ad n a T H b R st O S X hb3 hR) (cwV 1 hts (bw_V mq_ml_X3_79 mq_im_X0_missing mq_se_X0_missing mq_in_X0 mq_co_X0_missing) rfl rfl rfl (by decide +kernel) ⟨Nat.le_of_ble_eq_true rfl, Nat.le_of_ble_eq_true rfl⟩) hP hK hN 4 rfl rfl rfl hl.1 rfl (Nat.le_of_ble_eq_true rfl) dX3_stops_35 ⟨Nat.zero_le _, Nat.zero_le _⟩ (fun r9 h9 => ?_)
    obtain rfl : r9 = nI (ed_mis R b X) := h9
    refine lv_icmp_ge (tgt := 45) hx hb dX3_stops_38 (by decide) (fun b38 => ?_) (fun b38 => ?_)
    -- if_icmpge at 38, t
    · have t38 := Nat.not_lt.mpr ((nI_leI (by omega) (by omega)).mp b38)
      refine lv_iconst (v := 0) hx hb dX3_stops_45 (by decide) ?_
      exact W.zret (v := 0) hx hb hr rfl (fun t ht hW => ⟨_, rfl, zb_F (by rw [stpL, t23]; exact decide_eq_false (by show ¬ _ - _ < _; first | exact t38 | (rw [ed_bf]; exact t38) | (rw [ed_bt]; exact t38))), ht⟩) (fun _ h => by cases h) dX3_stops_46
    -- if_icmpge at 38, f
    · have t38 := Nat.lt_of_not_le (fun z => b38 (nI_le z (by omega)))
      refine lv_iconst (v := 1) hx hb dX3_stops_41 (by decide) ?_
      refine lv_goto (tgt := 46) hx hb dX3_stops_42 (by decide) ?_
      exact W.zret (v := 1) hx hb hr rfl (fun t ht hW => ⟨_, rfl, zb_T (by rw [stpL, t23]; exact decide_eq_true t38), ht⟩) (fun _ h => by cases h) dX3_stops_46
  -- ifeq at 23, f
  · have t23 := zb_n0.mp b23
    have z7 := rho0_pos hj t23
    refine lv_iinc (k := 0) (v := nI (rho0 T H a X - 1)) (lv' := [(3, .int (nI (rho0 T H a X - 1))), (0, .ref (ad 0)), (1, .int (nI X)), (2, .int (nI j))]) hx hb dX3_stops_26 hl rfl (ii_m1 z7) (by decide) rfl (fun ls hl => ?_)
    refine lv_iload_n hx hb dX3_stops_29 rfl (lv_at hl 0 rfl) ?_
    refine lv_aload_n hx hb dX3_stops_30 rfl (lv_at hl 1 rfl) ?_
    refine va_get (D := (dC, dI)) (ci := 3) (v := .ref (ad 4)) (C := RX3) (T := TX3) (N := 3) hx hb hw in_X3 hown hK hP 0 rfl rfl 1 (by decide) (hw _ mq_fl_X3_19) (fun _ h9 => h9) rfl dX3_stops_31 ?_
    refine lv_iload_n hx hb dX3_stops_34 rfl (lv_at hl 2 rfl) ?_
    refine ro_V (As := [.int (nI X)]) (rest := [.int (nI (rho0 T H a X - 1))]) (b := ad 4) ⟨hx, hb, hml, hown, hts⟩ (c_X0_missing l dC dI cI ad n a T H b R st O S X hb3 hR) (cwV 1 hts (bw_V mq_ml_X3_79 mq_im_X0_missing mq_se_X0_missing mq_in_X0 mq_co_X0_missing) rfl rfl rfl (by decide +kernel) ⟨Nat.le_of_ble_eq_true rfl, Nat.le_of_ble_eq_true rfl⟩) hP hK hN 4 rfl rfl rfl hl.1 rfl (Nat.le_of_ble_eq_true rfl) dX3_stops_35 ⟨Nat.zero_le _, Nat.zero_le _⟩ (fun r9 h9 => ?_)
    obtain rfl : r9 = nI (ed_mis R b X) := h9
    refine lv_icmp_ge (tgt := 45) hx hb dX3_stops_38 (by decide) (fun b38 => ?_) (fun b38 => ?_)
    -- if_icmpge at 38, t
    · have t38 := Nat.not_lt.mpr ((nI_leI (by omega) (by omega)).mp b38)
      refine lv_iconst (v := 0) hx hb dX3_stops_45 (by decide) ?_
      exact W.zret (v := 0) hx hb hr rfl (fun t ht hW => ⟨_, rfl, zb_F (by rw [stpL, t23]; exact decide_eq_false (by show ¬ _ - _ < _; first | exact t38 | (rw [ed_bf]; exact t38) | (rw [ed_bt]; exact t38))), ht⟩) (fun _ h => by cases h) dX3_stops_46
    -- if_icmpge at 38, f
    · have t38 := Nat.lt_of_not_le (fun z => b38 (nI_le z (by omega)))
      refine lv_iconst (v := 1) hx hb dX3_stops_41 (by decide) ?_
      refine lv_goto (tgt := 46) hx hb dX3_stops_42 (by decide) ?_
      exact W.zret (v := 1) hx hb hr rfl (fun t ht hW => ⟨_, rfl, zb_T (by rw [stpL, t23]; exact decide_eq_true t38), ht⟩) (fun _ h => by cases h) dX3_stops_46
set_option maxHeartbeats 4000000 in
set_option maxRecDepth 100000 in
theorem c_X3_firstStopper_N (l : Launch) (dC : Nat → ClassId) (dI : Nat → Nat → Nat) (cI : ClassId) (ad : Nat → Nat) (n a : Nat) (T H : Nat → Nat) (b : Nat) (R : Nat → Nat) (st : Int32) (O S : Nat → Int32) (hI : st_I n a T H b R) : Met l yX3_firstStopper (wq yX3_firstStopper cX3_firstStopper 4 (some .int)) ({ frames := 3, cells := 0, slots := 0, locals := 68 }) (ro_P (dC, dI) classes [(cI, .int)] (cw ad cI n a T H b R st O S) [.ref (ad 0), .int (-1)]) (vp_Si (fun r => r = nI (fs_at (stp T H a R b) (2 ^ n - 1)))) 0 0 (fun _ => False) := by
  have hI0 := hI
  obtain ⟨n1, n7, a14, hT, hT2, hb3, hR3, hR⟩ := hI
  have p7 := bi_p7 n7
  have p0 := Nat.two_pow_pos n
  refine Met.ofW (cc := cX3_firstStopper) (maxL := 4) (ret := (some .int)) (by decide) rfl ?_
  intro p e s m args below meth c s₁ B hml hv
  obtain ⟨rfl, hP, hK, hN⟩ := hv
  have hx := B.exec
  have hb := B.bytes
  have hr := B.returns
  have hlocks := B.notSynchronized
  have hts := atoms_spec (ws := (wq yX3_firstStopper cX3_firstStopper 4 (some .int))) B.pre
  have hw : ∀ w ∈ bigW, w.before _ s = true := fun w h => hts w (List.mem_cons_of_mem _ h)
  have hown : s.vm.findClass RX3 = some m.cls := findClass_of_methodNamed B.named
  have hl := lv_entry ([.ref (ad 0), .int (-1)]) (n := 4) (Nat.le_of_ble_eq_true rfl)
  rw [lg_entry_eq]
  generalize (lg_sl ([.ref (ad 0), .int (-1)]) ++ List.replicate (4 - (lg_sl ([.ref (ad 0), .int (-1)])).length) Slot.unset).toArray = ls at hl ⊢
  have hl : lv_has ls 4 [(0, .ref (ad 0)), (1, .int (-1))] := hl
  refine lv_iconst (v := nI (fs_at (stp T H a R b) 0)) hx hb dX3_firstStopper_0 rfl ?_
  refine lv_istore_n (lv' := [(2, .int (nI (fs_at (stp T H a R b) 0))), (0, .ref (ad 0)), (1, .int (-1))]) hx hb dX3_firstStopper_1 rfl hl (by decide) rfl (fun ls hl => ?_)
  refine lv_iconst (v := nI (0 + 1)) hx hb dX3_firstStopper_2 (by decide) ?_
  refine lv_istore_n (lv' := [(3, .int (nI (0 + 1))), (2, .int (nI (fs_at (stp T H a R b) 0))), (0, .ref (ad 0)), (1, .int (-1))]) hx hb dX3_firstStopper_3 rfl hl (by decide) rfl (fun ls hl => ?_)
  refine wl_loop (fun k9 ls => ∃ (i : Nat), 2 ^ n - i = k9 ∧ (i ≤ 2 ^ n - 1) ∧ lv_has ls 4 [(0, .ref (ad 0)), (1, .int (-1)), (2, .int (nI (fs_at (stp T H a R b) i))), (3, .int (nI (i + 1)))]) ?_ _ ⟨0, rfl, by omega, lv_sub hl [2, 3, 1, 0] rfl⟩
  clear hl
  intro k9 ls ih9 h9
  obtain ⟨i, k9e, hi, hl⟩ := h9
  have ih_4 := ih9
  clear ih9
  subst k9e
  have z9 := fs_le (stp T H a R b) i
  refine lv_iload_n hx hb dX3_firstStopper_4 rfl (lv_at hl 3 rfl) ?_
  refine lv_aload_n hx hb dX3_firstStopper_5 rfl (lv_at hl 0 rfl) ?_
  refine va_get (D := (dC, dI)) (ci := 3) (v := .ref (ad 1)) (C := RX3) (T := TX3) (N := 3) hx hb hw in_X3 hown hK hP 0 rfl rfl 0 (by decide) (hw _ mq_fl_X3_10) (fun _ h9 => h9) rfl dX3_firstStopper_6 ?_
  refine ro_V (As := []) (rest := [.int (nI (i + 1))]) (b := ad 1) ⟨hx, hb, hml, hown, hts⟩ (c_X1_allVertices l dC dI cI ad n a T H b R st O S n7) (cwV 0 hts (bw_V mq_ml_X3_92 mq_im_X1_allVertices mq_se_X1_allVertices mq_in_X1 mq_co_X1_allVertices) rfl rfl rfl (by decide +kernel) ⟨Nat.le_of_ble_eq_true rfl, Nat.le_of_ble_eq_true rfl⟩) hP hK hN 1 rfl rfl rfl hl.1 rfl (Nat.le_of_ble_eq_true rfl) dX3_firstStopper_9 ⟨Nat.zero_le _, Nat.zero_le _⟩ (fun r9 h9 => ?_)
  obtain rfl : r9 = nI (2 ^ n - 1) := h9
  refine lv_icmp_gt (tgt := 44) hx hb dX3_firstStopper_12 (by decide) (fun b12 => ?_) (fun b12 => ?_)
  -- if_icmpgt at 12, t
  · have t12 := (nI_ltI (by omega) (by omega)).mp b12
    have e12 : i = 2 ^ n - 1 := by omega
    refine lv_iload_n hx hb dX3_firstStopper_44 rfl (lv_at hl 2 rfl) ?_
    exact W.iret (v := nI (fs_at (stp T H a R b) i)) hx hb hr (fun t ht hW => ⟨_, rfl, (by rw [e12]), ht⟩) (fun _ h => by cases h) dX3_firstStopper_45
  -- if_icmpgt at 12, f
  · have t12 : i + 1 ≤ 2 ^ n - 1 := Nat.le_of_not_lt (fun z => b12 (nI_lt z (by omega)))
    refine lv_iload_n hx hb dX3_firstStopper_15 rfl (lv_at hl 2 rfl) ?_
    refine lv_if_eq (tgt := 27) hx hb dX3_firstStopper_16 (by decide) (fun b16 => ?_) (fun b16 => ?_)
    -- ifeq at 16, t
    · have t16 : fs_at (stp T H a R b) i = 0 := (nI_eq (by omega) (by decide)).mp (b16.trans nI_0.symm)
      refine lv_aload_n hx hb dX3_firstStopper_27 rfl (lv_at hl 0 rfl) ?_
      refine lv_iload_n hx hb dX3_firstStopper_28 rfl (lv_at hl 3 rfl) ?_
      refine lv_iload_n hx hb dX3_firstStopper_29 rfl (lv_at hl 1 rfl) ?_
      refine ro_V (As := [.int (nI (i + 1)), .int (-1)]) (rest := []) (b := ad 0) ⟨hx, hb, hml, hown, hts⟩ (c_X3_stops_N l dC dI cI ad n a T H b R st O S (i + 1) hI0 (by omega)) (cwV 2 hts (bw_V mq_ml_X3_106 mq_im_X3_stops mq_se_X3_stops mq_in_X3 mq_co_X3_stops) rfl rfl rfl (by decide +kernel) ⟨Nat.le_of_ble_eq_true rfl, Nat.le_of_ble_eq_true rfl⟩) hP hK hN 0 rfl rfl rfl hl.1 rfl (Nat.le_of_ble_eq_true rfl) dX3_firstStopper_30 ⟨Nat.zero_le _, Nat.zero_le _⟩ (fun r9 h9 => ?_)
      obtain rfl : r9 = nI (ed_b ((stp T H a R b) (i + 1))) := h9
      refine lv_if_eq (tgt := 38) hx hb dX3_firstStopper_33 (by decide) (fun b33 => ?_) (fun b33 => ?_)
      -- ifeq at 33, t
      · have t33 := zb_0.mp b33
        refine lv_iinc (k := 3) (v := nI (i + 1 + 1)) (lv' := [(3, .int (nI (i + 1 + 1))), (0, .ref (ad 0)), (1, .int (-1)), (2, .int (nI (fs_at (stp T H a R b) i)))]) hx hb dX3_firstStopper_38 hl rfl (ii_1 _) (by decide) rfl (fun ls hl => ?_)
        refine lv_goto (tgt := 4) hx hb dX3_firstStopper_41 (by decide) ?_
        have e8 : fs_at (stp T H a R b) (i + 1) = fs_at (stp T H a R b) i := by rw [fs_s, t33, Bool.and_false, if_neg (by decide)]
        replace hl := lv_sub hl [1, 2, 3, 0] rfl
        have hl : lv_has ls 4 [(0, .ref (ad 0)), (1, .int (-1)), (2, .int (nI (fs_at (stp T H a R b) (i + 1)))), (3, .int (nI (i + 1 + 1)))] := by rw [e8]; exact hl
        exact ih_4 _ _ (by omega) ⟨i + 1, rfl, by omega, lv_sub hl [0, 1, 2, 3] rfl⟩
      -- ifeq at 33, f
      · have t33 := zb_n0.mp b33
        refine lv_iload_n hx hb dX3_firstStopper_36 rfl (lv_at hl 3 rfl) ?_
        refine lv_istore_n (lv' := [(2, .int (nI (i + 1))), (0, .ref (ad 0)), (1, .int (-1)), (3, .int (nI (i + 1)))]) hx hb dX3_firstStopper_37 rfl hl (by decide) rfl (fun ls hl => ?_)
        refine lv_iinc (k := 3) (v := nI (i + 1 + 1)) (lv' := [(3, .int (nI (i + 1 + 1))), (2, .int (nI (i + 1))), (0, .ref (ad 0)), (1, .int (-1))]) hx hb dX3_firstStopper_38 hl rfl (ii_1 _) (by decide) rfl (fun ls hl => ?_)
        refine lv_goto (tgt := 4) hx hb dX3_firstStopper_41 (by decide) ?_
        have e8 : fs_at (stp T H a R b) (i + 1) = i + 1 := by rw [fs_s, t33, beq_iff_eq.mpr t16, Bool.true_or, Bool.true_and, if_pos rfl]
        replace hl := lv_sub hl [2, 3, 1, 0] rfl
        have hl : lv_has ls 4 [(0, .ref (ad 0)), (1, .int (-1)), (2, .int (nI (fs_at (stp T H a R b) (i + 1)))), (3, .int (nI (i + 1 + 1)))] := by rw [e8]; exact hl
        exact ih_4 _ _ (by omega) ⟨i + 1, rfl, by omega, lv_sub hl [0, 1, 2, 3] rfl⟩
    -- ifeq at 16, f
    · have t16 : ¬ fs_at (stp T H a R b) i = 0 := fun z => b16 (by rw [z]; exact nI_0)
      refine lv_iload_n hx hb dX3_firstStopper_19 rfl (lv_at hl 3 rfl) ?_
      refine lv_iload_n hx hb dX3_firstStopper_20 rfl (lv_at hl 2 rfl) ?_
      refine ro_S (As := [.int (nI (i + 1)), .int (nI (fs_at (stp T H a R b) i))]) (rest := []) ⟨hx, hb, hml, hown, hts⟩ (c_X3_comesBefore l dC dI cI ad n a T H b R st O S (i + 1) (fs_at (stp T H a R b) i) (by omega) (by omega)) (cwS 2 hts (bw_S mq_ml_X3_102 mq_st_X3_comesBefore mq_in_X3 mq_co_X3_comesBefore) rfl rfl rfl (by decide +kernel) ⟨Nat.le_of_ble_eq_true rfl, Nat.le_of_ble_eq_true rfl⟩) hP hK hN rfl hl.1 rfl (Nat.le_of_ble_eq_true rfl) dX3_firstStopper_21 ⟨Nat.zero_le _, Nat.zero_le _⟩ (fun r9 h9 => ?_)
      obtain rfl : r9 = nI (ed_b (or_bf (i + 1) (fs_at (stp T H a R b) i))) := h9
      refine lv_if_eq (tgt := 38) hx hb dX3_firstStopper_24 (by decide) (fun b24 => ?_) (fun b24 => ?_)
      -- ifeq at 24, t
      · have t24 := zb_0.mp b24
        refine lv_iinc (k := 3) (v := nI (i + 1 + 1)) (lv' := [(3, .int (nI (i + 1 + 1))), (0, .ref (ad 0)), (1, .int (-1)), (2, .int (nI (fs_at (stp T H a R b) i)))]) hx hb dX3_firstStopper_38 hl rfl (ii_1 _) (by decide) rfl (fun ls hl => ?_)
        refine lv_goto (tgt := 4) hx hb dX3_firstStopper_41 (by decide) ?_
        have e8 : fs_at (stp T H a R b) (i + 1) = fs_at (stp T H a R b) i := by rw [fs_s, t24, beq_false_of_ne t16, Bool.or_false, Bool.false_and, if_neg (by decide)]
        replace hl := lv_sub hl [1, 2, 3, 0] rfl
        have hl : lv_has ls 4 [(0, .ref (ad 0)), (1, .int (-1)), (2, .int (nI (fs_at (stp T H a R b) (i + 1)))), (3, .int (nI (i + 1 + 1)))] := by rw [e8]; exact hl
        exact ih_4 _ _ (by omega) ⟨i + 1, rfl, by omega, lv_sub hl [0, 1, 2, 3] rfl⟩
      -- ifeq at 24, f
      · have t24 := zb_n0.mp b24
        refine lv_aload_n hx hb dX3_firstStopper_27 rfl (lv_at hl 0 rfl) ?_
        refine lv_iload_n hx hb dX3_firstStopper_28 rfl (lv_at hl 3 rfl) ?_
        refine lv_iload_n hx hb dX3_firstStopper_29 rfl (lv_at hl 1 rfl) ?_
        refine ro_V (As := [.int (nI (i + 1)), .int (-1)]) (rest := []) (b := ad 0) ⟨hx, hb, hml, hown, hts⟩ (c_X3_stops_N l dC dI cI ad n a T H b R st O S (i + 1) hI0 (by omega)) (cwV 2 hts (bw_V mq_ml_X3_106 mq_im_X3_stops mq_se_X3_stops mq_in_X3 mq_co_X3_stops) rfl rfl rfl (by decide +kernel) ⟨Nat.le_of_ble_eq_true rfl, Nat.le_of_ble_eq_true rfl⟩) hP hK hN 0 rfl rfl rfl hl.1 rfl (Nat.le_of_ble_eq_true rfl) dX3_firstStopper_30 ⟨Nat.zero_le _, Nat.zero_le _⟩ (fun r9 h9 => ?_)
        obtain rfl : r9 = nI (ed_b ((stp T H a R b) (i + 1))) := h9
        refine lv_if_eq (tgt := 38) hx hb dX3_firstStopper_33 (by decide) (fun b33 => ?_) (fun b33 => ?_)
        -- ifeq at 33, t
        · have t33 := zb_0.mp b33
          refine lv_iinc (k := 3) (v := nI (i + 1 + 1)) (lv' := [(3, .int (nI (i + 1 + 1))), (0, .ref (ad 0)), (1, .int (-1)), (2, .int (nI (fs_at (stp T H a R b) i)))]) hx hb dX3_firstStopper_38 hl rfl (ii_1 _) (by decide) rfl (fun ls hl => ?_)
          refine lv_goto (tgt := 4) hx hb dX3_firstStopper_41 (by decide) ?_
          have e8 : fs_at (stp T H a R b) (i + 1) = fs_at (stp T H a R b) i := by rw [fs_s, t33, Bool.and_false, if_neg (by decide)]
          replace hl := lv_sub hl [1, 2, 3, 0] rfl
          have hl : lv_has ls 4 [(0, .ref (ad 0)), (1, .int (-1)), (2, .int (nI (fs_at (stp T H a R b) (i + 1)))), (3, .int (nI (i + 1 + 1)))] := by rw [e8]; exact hl
          exact ih_4 _ _ (by omega) ⟨i + 1, rfl, by omega, lv_sub hl [0, 1, 2, 3] rfl⟩
        -- ifeq at 33, f
        · have t33 := zb_n0.mp b33
          refine lv_iload_n hx hb dX3_firstStopper_36 rfl (lv_at hl 3 rfl) ?_
          refine lv_istore_n (lv' := [(2, .int (nI (i + 1))), (0, .ref (ad 0)), (1, .int (-1)), (3, .int (nI (i + 1)))]) hx hb dX3_firstStopper_37 rfl hl (by decide) rfl (fun ls hl => ?_)
          refine lv_iinc (k := 3) (v := nI (i + 1 + 1)) (lv' := [(3, .int (nI (i + 1 + 1))), (2, .int (nI (i + 1))), (0, .ref (ad 0)), (1, .int (-1))]) hx hb dX3_firstStopper_38 hl rfl (ii_1 _) (by decide) rfl (fun ls hl => ?_)
          refine lv_goto (tgt := 4) hx hb dX3_firstStopper_41 (by decide) ?_
          have e8 : fs_at (stp T H a R b) (i + 1) = i + 1 := by rw [fs_s, t33, t24, Bool.or_true, Bool.true_and, if_pos rfl]
          replace hl := lv_sub hl [2, 3, 1, 0] rfl
          have hl : lv_has ls 4 [(0, .ref (ad 0)), (1, .int (-1)), (2, .int (nI (fs_at (stp T H a R b) (i + 1)))), (3, .int (nI (i + 1 + 1)))] := by rw [e8]; exact hl
          exact ih_4 _ _ (by omega) ⟨i + 1, rfl, by omega, lv_sub hl [0, 1, 2, 3] rfl⟩
set_option maxHeartbeats 4000000 in
set_option maxRecDepth 100000 in
theorem c_X3_firstStopper_J (l : Launch) (dC : Nat → ClassId) (dI : Nat → Nat → Nat) (cI : ClassId) (ad : Nat → Nat) (n a : Nat) (T H : Nat → Nat) (b : Nat) (R : Nat → Nat) (st : Int32) (O S : Nat → Int32) (j : Nat) (hj : j < a) (hI : st_I n a T H b R) : Met l yX3_firstStopper (wq yX3_firstStopper cX3_firstStopper 4 (some .int)) ({ frames := 3, cells := 0, slots := 0, locals := 68 }) (ro_P (dC, dI) classes [(cI, .int)] (cw ad cI n a T H b R st O S) [.ref (ad 0), .int (nI j)]) (vp_Si (fun r => r = nI (fs_at (stpL T H a R b j) (2 ^ n - 1)))) 0 0 (fun _ => False) := by
  have hI0 := hI
  obtain ⟨n1, n7, a14, hT, hT2, hb3, hR3, hR⟩ := hI
  have p7 := bi_p7 n7
  have p0 := Nat.two_pow_pos n
  refine Met.ofW (cc := cX3_firstStopper) (maxL := 4) (ret := (some .int)) (by decide) rfl ?_
  intro p e s m args below meth c s₁ B hml hv
  obtain ⟨rfl, hP, hK, hN⟩ := hv
  have hx := B.exec
  have hb := B.bytes
  have hr := B.returns
  have hlocks := B.notSynchronized
  have hts := atoms_spec (ws := (wq yX3_firstStopper cX3_firstStopper 4 (some .int))) B.pre
  have hw : ∀ w ∈ bigW, w.before _ s = true := fun w h => hts w (List.mem_cons_of_mem _ h)
  have hown : s.vm.findClass RX3 = some m.cls := findClass_of_methodNamed B.named
  have hl := lv_entry ([.ref (ad 0), .int (nI j)]) (n := 4) (Nat.le_of_ble_eq_true rfl)
  rw [lg_entry_eq]
  generalize (lg_sl ([.ref (ad 0), .int (nI j)]) ++ List.replicate (4 - (lg_sl ([.ref (ad 0), .int (nI j)])).length) Slot.unset).toArray = ls at hl ⊢
  have hl : lv_has ls 4 [(0, .ref (ad 0)), (1, .int (nI j))] := hl
  refine lv_iconst (v := nI (fs_at (stpL T H a R b j) 0)) hx hb dX3_firstStopper_0 rfl ?_
  refine lv_istore_n (lv' := [(2, .int (nI (fs_at (stpL T H a R b j) 0))), (0, .ref (ad 0)), (1, .int (nI j))]) hx hb dX3_firstStopper_1 rfl hl (by decide) rfl (fun ls hl => ?_)
  refine lv_iconst (v := nI (0 + 1)) hx hb dX3_firstStopper_2 (by decide) ?_
  refine lv_istore_n (lv' := [(3, .int (nI (0 + 1))), (2, .int (nI (fs_at (stpL T H a R b j) 0))), (0, .ref (ad 0)), (1, .int (nI j))]) hx hb dX3_firstStopper_3 rfl hl (by decide) rfl (fun ls hl => ?_)
  refine wl_loop (fun k9 ls => ∃ (i : Nat), 2 ^ n - i = k9 ∧ (i ≤ 2 ^ n - 1) ∧ lv_has ls 4 [(0, .ref (ad 0)), (1, .int (nI j)), (2, .int (nI (fs_at (stpL T H a R b j) i))), (3, .int (nI (i + 1)))]) ?_ _ ⟨0, rfl, by omega, lv_sub hl [2, 3, 1, 0] rfl⟩
  clear hl
  intro k9 ls ih9 h9
  obtain ⟨i, k9e, hi, hl⟩ := h9
  have ih_4 := ih9
  clear ih9
  subst k9e
  have z9 := fs_le (stpL T H a R b j) i
  refine lv_iload_n hx hb dX3_firstStopper_4 rfl (lv_at hl 3 rfl) ?_
  refine lv_aload_n hx hb dX3_firstStopper_5 rfl (lv_at hl 0 rfl) ?_
  refine va_get (D := (dC, dI)) (ci := 3) (v := .ref (ad 1)) (C := RX3) (T := TX3) (N := 3) hx hb hw in_X3 hown hK hP 0 rfl rfl 0 (by decide) (hw _ mq_fl_X3_10) (fun _ h9 => h9) rfl dX3_firstStopper_6 ?_
  refine ro_V (As := []) (rest := [.int (nI (i + 1))]) (b := ad 1) ⟨hx, hb, hml, hown, hts⟩ (c_X1_allVertices l dC dI cI ad n a T H b R st O S n7) (cwV 0 hts (bw_V mq_ml_X3_92 mq_im_X1_allVertices mq_se_X1_allVertices mq_in_X1 mq_co_X1_allVertices) rfl rfl rfl (by decide +kernel) ⟨Nat.le_of_ble_eq_true rfl, Nat.le_of_ble_eq_true rfl⟩) hP hK hN 1 rfl rfl rfl hl.1 rfl (Nat.le_of_ble_eq_true rfl) dX3_firstStopper_9 ⟨Nat.zero_le _, Nat.zero_le _⟩ (fun r9 h9 => ?_)
  obtain rfl : r9 = nI (2 ^ n - 1) := h9
  refine lv_icmp_gt (tgt := 44) hx hb dX3_firstStopper_12 (by decide) (fun b12 => ?_) (fun b12 => ?_)
  -- if_icmpgt at 12, t
  · have t12 := (nI_ltI (by omega) (by omega)).mp b12
    have e12 : i = 2 ^ n - 1 := by omega
    refine lv_iload_n hx hb dX3_firstStopper_44 rfl (lv_at hl 2 rfl) ?_
    exact W.iret (v := nI (fs_at (stpL T H a R b j) i)) hx hb hr (fun t ht hW => ⟨_, rfl, (by rw [e12]), ht⟩) (fun _ h => by cases h) dX3_firstStopper_45
  -- if_icmpgt at 12, f
  · have t12 : i + 1 ≤ 2 ^ n - 1 := Nat.le_of_not_lt (fun z => b12 (nI_lt z (by omega)))
    refine lv_iload_n hx hb dX3_firstStopper_15 rfl (lv_at hl 2 rfl) ?_
    refine lv_if_eq (tgt := 27) hx hb dX3_firstStopper_16 (by decide) (fun b16 => ?_) (fun b16 => ?_)
    -- ifeq at 16, t
    · have t16 : fs_at (stpL T H a R b j) i = 0 := (nI_eq (by omega) (by decide)).mp (b16.trans nI_0.symm)
      refine lv_aload_n hx hb dX3_firstStopper_27 rfl (lv_at hl 0 rfl) ?_
      refine lv_iload_n hx hb dX3_firstStopper_28 rfl (lv_at hl 3 rfl) ?_
      refine lv_iload_n hx hb dX3_firstStopper_29 rfl (lv_at hl 1 rfl) ?_
      refine ro_V (As := [.int (nI (i + 1)), .int (nI j)]) (rest := []) (b := ad 0) ⟨hx, hb, hml, hown, hts⟩ (c_X3_stops_J l dC dI cI ad n a T H b R st O S (i + 1) j hj hI0 (by omega)) (cwV 2 hts (bw_V mq_ml_X3_106 mq_im_X3_stops mq_se_X3_stops mq_in_X3 mq_co_X3_stops) rfl rfl rfl (by decide +kernel) ⟨Nat.le_of_ble_eq_true rfl, Nat.le_of_ble_eq_true rfl⟩) hP hK hN 0 rfl rfl rfl hl.1 rfl (Nat.le_of_ble_eq_true rfl) dX3_firstStopper_30 ⟨Nat.zero_le _, Nat.zero_le _⟩ (fun r9 h9 => ?_)
      obtain rfl : r9 = nI (ed_b ((stpL T H a R b j) (i + 1))) := h9
      refine lv_if_eq (tgt := 38) hx hb dX3_firstStopper_33 (by decide) (fun b33 => ?_) (fun b33 => ?_)
      -- ifeq at 33, t
      · have t33 := zb_0.mp b33
        refine lv_iinc (k := 3) (v := nI (i + 1 + 1)) (lv' := [(3, .int (nI (i + 1 + 1))), (0, .ref (ad 0)), (1, .int (nI j)), (2, .int (nI (fs_at (stpL T H a R b j) i)))]) hx hb dX3_firstStopper_38 hl rfl (ii_1 _) (by decide) rfl (fun ls hl => ?_)
        refine lv_goto (tgt := 4) hx hb dX3_firstStopper_41 (by decide) ?_
        have e8 : fs_at (stpL T H a R b j) (i + 1) = fs_at (stpL T H a R b j) i := by rw [fs_s, t33, Bool.and_false, if_neg (by decide)]
        replace hl := lv_sub hl [1, 2, 3, 0] rfl
        have hl : lv_has ls 4 [(0, .ref (ad 0)), (1, .int (nI j)), (2, .int (nI (fs_at (stpL T H a R b j) (i + 1)))), (3, .int (nI (i + 1 + 1)))] := by rw [e8]; exact hl
        exact ih_4 _ _ (by omega) ⟨i + 1, rfl, by omega, lv_sub hl [0, 1, 2, 3] rfl⟩
      -- ifeq at 33, f
      · have t33 := zb_n0.mp b33
        refine lv_iload_n hx hb dX3_firstStopper_36 rfl (lv_at hl 3 rfl) ?_
        refine lv_istore_n (lv' := [(2, .int (nI (i + 1))), (0, .ref (ad 0)), (1, .int (nI j)), (3, .int (nI (i + 1)))]) hx hb dX3_firstStopper_37 rfl hl (by decide) rfl (fun ls hl => ?_)
        refine lv_iinc (k := 3) (v := nI (i + 1 + 1)) (lv' := [(3, .int (nI (i + 1 + 1))), (2, .int (nI (i + 1))), (0, .ref (ad 0)), (1, .int (nI j))]) hx hb dX3_firstStopper_38 hl rfl (ii_1 _) (by decide) rfl (fun ls hl => ?_)
        refine lv_goto (tgt := 4) hx hb dX3_firstStopper_41 (by decide) ?_
        have e8 : fs_at (stpL T H a R b j) (i + 1) = i + 1 := by rw [fs_s, t33, beq_iff_eq.mpr t16, Bool.true_or, Bool.true_and, if_pos rfl]
        replace hl := lv_sub hl [2, 3, 1, 0] rfl
        have hl : lv_has ls 4 [(0, .ref (ad 0)), (1, .int (nI j)), (2, .int (nI (fs_at (stpL T H a R b j) (i + 1)))), (3, .int (nI (i + 1 + 1)))] := by rw [e8]; exact hl
        exact ih_4 _ _ (by omega) ⟨i + 1, rfl, by omega, lv_sub hl [0, 1, 2, 3] rfl⟩
    -- ifeq at 16, f
    · have t16 : ¬ fs_at (stpL T H a R b j) i = 0 := fun z => b16 (by rw [z]; exact nI_0)
      refine lv_iload_n hx hb dX3_firstStopper_19 rfl (lv_at hl 3 rfl) ?_
      refine lv_iload_n hx hb dX3_firstStopper_20 rfl (lv_at hl 2 rfl) ?_
      refine ro_S (As := [.int (nI (i + 1)), .int (nI (fs_at (stpL T H a R b j) i))]) (rest := []) ⟨hx, hb, hml, hown, hts⟩ (c_X3_comesBefore l dC dI cI ad n a T H b R st O S (i + 1) (fs_at (stpL T H a R b j) i) (by omega) (by omega)) (cwS 2 hts (bw_S mq_ml_X3_102 mq_st_X3_comesBefore mq_in_X3 mq_co_X3_comesBefore) rfl rfl rfl (by decide +kernel) ⟨Nat.le_of_ble_eq_true rfl, Nat.le_of_ble_eq_true rfl⟩) hP hK hN rfl hl.1 rfl (Nat.le_of_ble_eq_true rfl) dX3_firstStopper_21 ⟨Nat.zero_le _, Nat.zero_le _⟩ (fun r9 h9 => ?_)
      obtain rfl : r9 = nI (ed_b (or_bf (i + 1) (fs_at (stpL T H a R b j) i))) := h9
      refine lv_if_eq (tgt := 38) hx hb dX3_firstStopper_24 (by decide) (fun b24 => ?_) (fun b24 => ?_)
      -- ifeq at 24, t
      · have t24 := zb_0.mp b24
        refine lv_iinc (k := 3) (v := nI (i + 1 + 1)) (lv' := [(3, .int (nI (i + 1 + 1))), (0, .ref (ad 0)), (1, .int (nI j)), (2, .int (nI (fs_at (stpL T H a R b j) i)))]) hx hb dX3_firstStopper_38 hl rfl (ii_1 _) (by decide) rfl (fun ls hl => ?_)
        refine lv_goto (tgt := 4) hx hb dX3_firstStopper_41 (by decide) ?_
        have e8 : fs_at (stpL T H a R b j) (i + 1) = fs_at (stpL T H a R b j) i := by rw [fs_s, t24, beq_false_of_ne t16, Bool.or_false, Bool.false_and, if_neg (by decide)]
        replace hl := lv_sub hl [1, 2, 3, 0] rfl
        have hl : lv_has ls 4 [(0, .ref (ad 0)), (1, .int (nI j)), (2, .int (nI (fs_at (stpL T H a R b j) (i + 1)))), (3, .int (nI (i + 1 + 1)))] := by rw [e8]; exact hl
        exact ih_4 _ _ (by omega) ⟨i + 1, rfl, by omega, lv_sub hl [0, 1, 2, 3] rfl⟩
      -- ifeq at 24, f
      · have t24 := zb_n0.mp b24
        refine lv_aload_n hx hb dX3_firstStopper_27 rfl (lv_at hl 0 rfl) ?_
        refine lv_iload_n hx hb dX3_firstStopper_28 rfl (lv_at hl 3 rfl) ?_
        refine lv_iload_n hx hb dX3_firstStopper_29 rfl (lv_at hl 1 rfl) ?_
        refine ro_V (As := [.int (nI (i + 1)), .int (nI j)]) (rest := []) (b := ad 0) ⟨hx, hb, hml, hown, hts⟩ (c_X3_stops_J l dC dI cI ad n a T H b R st O S (i + 1) j hj hI0 (by omega)) (cwV 2 hts (bw_V mq_ml_X3_106 mq_im_X3_stops mq_se_X3_stops mq_in_X3 mq_co_X3_stops) rfl rfl rfl (by decide +kernel) ⟨Nat.le_of_ble_eq_true rfl, Nat.le_of_ble_eq_true rfl⟩) hP hK hN 0 rfl rfl rfl hl.1 rfl (Nat.le_of_ble_eq_true rfl) dX3_firstStopper_30 ⟨Nat.zero_le _, Nat.zero_le _⟩ (fun r9 h9 => ?_)
        obtain rfl : r9 = nI (ed_b ((stpL T H a R b j) (i + 1))) := h9
        refine lv_if_eq (tgt := 38) hx hb dX3_firstStopper_33 (by decide) (fun b33 => ?_) (fun b33 => ?_)
        -- ifeq at 33, t
        · have t33 := zb_0.mp b33
          refine lv_iinc (k := 3) (v := nI (i + 1 + 1)) (lv' := [(3, .int (nI (i + 1 + 1))), (0, .ref (ad 0)), (1, .int (nI j)), (2, .int (nI (fs_at (stpL T H a R b j) i)))]) hx hb dX3_firstStopper_38 hl rfl (ii_1 _) (by decide) rfl (fun ls hl => ?_)
          refine lv_goto (tgt := 4) hx hb dX3_firstStopper_41 (by decide) ?_
          have e8 : fs_at (stpL T H a R b j) (i + 1) = fs_at (stpL T H a R b j) i := by rw [fs_s, t33, Bool.and_false, if_neg (by decide)]
          replace hl := lv_sub hl [1, 2, 3, 0] rfl
          have hl : lv_has ls 4 [(0, .ref (ad 0)), (1, .int (nI j)), (2, .int (nI (fs_at (stpL T H a R b j) (i + 1)))), (3, .int (nI (i + 1 + 1)))] := by rw [e8]; exact hl
          exact ih_4 _ _ (by omega) ⟨i + 1, rfl, by omega, lv_sub hl [0, 1, 2, 3] rfl⟩
        -- ifeq at 33, f
        · have t33 := zb_n0.mp b33
          refine lv_iload_n hx hb dX3_firstStopper_36 rfl (lv_at hl 3 rfl) ?_
          refine lv_istore_n (lv' := [(2, .int (nI (i + 1))), (0, .ref (ad 0)), (1, .int (nI j)), (3, .int (nI (i + 1)))]) hx hb dX3_firstStopper_37 rfl hl (by decide) rfl (fun ls hl => ?_)
          refine lv_iinc (k := 3) (v := nI (i + 1 + 1)) (lv' := [(3, .int (nI (i + 1 + 1))), (2, .int (nI (i + 1))), (0, .ref (ad 0)), (1, .int (nI j))]) hx hb dX3_firstStopper_38 hl rfl (ii_1 _) (by decide) rfl (fun ls hl => ?_)
          refine lv_goto (tgt := 4) hx hb dX3_firstStopper_41 (by decide) ?_
          have e8 : fs_at (stpL T H a R b j) (i + 1) = i + 1 := by rw [fs_s, t33, t24, Bool.or_true, Bool.true_and, if_pos rfl]
          replace hl := lv_sub hl [2, 3, 1, 0] rfl
          have hl : lv_has ls 4 [(0, .ref (ad 0)), (1, .int (nI j)), (2, .int (nI (fs_at (stpL T H a R b j) (i + 1)))), (3, .int (nI (i + 1 + 1)))] := by rw [e8]; exact hl
          exact ih_4 _ _ (by omega) ⟨i + 1, rfl, by omega, lv_sub hl [0, 1, 2, 3] rfl⟩
set_option maxHeartbeats 4000000 in
set_option maxRecDepth 100000 in
theorem c_X3_packs (l : Launch) (dC : Nat → ClassId) (dI : Nat → Nat → Nat) (cI : ClassId) (ad : Nat → Nat) (n a : Nat) (T H : Nat → Nat) (b : Nat) (R : Nat → Nat) (st : Int32) (O S : Nat → Int32) (hI : st_I n a T H b R) : Met l yX3_packs (wq yX3_packs cX3_packs 1 (some .boolean)) ({ frames := 4, cells := 0, slots := 0, locals := 91 }) (ro_P (dC, dI) classes [(cI, .int)] (cw ad cI n a T H b R st O S) [.ref (ad 0)]) (vp_Si (fun r => r = nI (ed_b (paF n a T H b R)))) 0 0 (fun _ => False) := by
  have hI0 := hI
  obtain ⟨n1, n7, a14, hT, hT2, hb3, hR3, hR⟩ := hI
  have p7 := bi_p7 n7
  have p0 := Nat.two_pow_pos n
  have z9 : spF n a T H b R ≤ 2 ^ n - 1 := fs_le _ _
  refine Met.ofW (cc := cX3_packs) (maxL := 1) (ret := (some .boolean)) (by decide) rfl ?_
  intro p e s m args below meth c s₁ B hml hv
  obtain ⟨rfl, hP, hK, hN⟩ := hv
  have hx := B.exec
  have hb := B.bytes
  have hr := B.returns
  have hlocks := B.notSynchronized
  have hts := atoms_spec (ws := (wq yX3_packs cX3_packs 1 (some .boolean))) B.pre
  have hw : ∀ w ∈ bigW, w.before _ s = true := fun w h => hts w (List.mem_cons_of_mem _ h)
  have hown : s.vm.findClass RX3 = some m.cls := findClass_of_methodNamed B.named
  have hl := lv_entry ([.ref (ad 0)]) (n := 1) (Nat.le_of_ble_eq_true rfl)
  rw [lg_entry_eq]
  generalize (lg_sl ([.ref (ad 0)]) ++ List.replicate (1 - (lg_sl ([.ref (ad 0)])).length) Slot.unset).toArray = ls at hl ⊢
  have hl : lv_has ls 1 [(0, .ref (ad 0))] := hl
  refine lv_aload_n hx hb dX3_packs_0 rfl (lv_at hl 0 rfl) ?_
  refine lv_iconst (v := -1) hx hb dX3_packs_1 (by decide) ?_
  refine ro_V (As := [.int (-1)]) (rest := []) (b := ad 0) ⟨hx, hb, hml, hown, hts⟩ (c_X3_firstStopper_N l dC dI cI ad n a T H b R st O S hI0) (cwV 1 hts (bw_V mq_ml_X3_82 mq_im_X3_firstStopper mq_se_X3_firstStopper mq_in_X3 mq_co_X3_firstStopper) rfl rfl rfl (by decide +kernel) ⟨Nat.le_of_ble_eq_true rfl, Nat.le_of_ble_eq_true rfl⟩) hP hK hN 0 rfl rfl rfl hl.1 rfl (Nat.le_of_ble_eq_true rfl) dX3_packs_2 ⟨Nat.zero_le _, Nat.zero_le _⟩ (fun r9 h9 => ?_)
  obtain rfl : r9 = nI (spF n a T H b R) := h9
  refine lv_if_ne (tgt := 12) hx hb dX3_packs_5 (by decide) (fun b5 => ?_) (fun b5 => ?_)
  -- ifne at 5, t
  · have t5 : ¬ spF n a T H b R = 0 := fun z => b5 (by rw [z]; exact nI_0)
    refine lv_iconst (v := 0) hx hb dX3_packs_12 (by decide) ?_
    exact W.zret (v := 0) hx hb hr rfl (fun t ht hW => ⟨_, rfl, zb_F (by rw [paF, decide_eq_false t5]), ht⟩) (fun _ h => by cases h) dX3_packs_13
  -- ifne at 5, f
  · have t5 : spF n a T H b R = 0 := (nI_eq (by omega) (by decide)).mp (b5.trans nI_0.symm)
    refine lv_iconst (v := 1) hx hb dX3_packs_8 (by decide) ?_
    refine lv_goto (tgt := 13) hx hb dX3_packs_9 (by decide) ?_
    exact W.zret (v := 1) hx hb hr rfl (fun t ht hW => ⟨_, rfl, zb_T (by rw [paF, decide_eq_true t5]), ht⟩) (fun _ h => by cases h) dX3_packs_13
set_option maxHeartbeats 4000000 in
set_option maxRecDepth 100000 in
theorem c_X3_stopper (l : Launch) (dC : Nat → ClassId) (dI : Nat → Nat → Nat) (cI : ClassId) (ad : Nat → Nat) (n a : Nat) (T H : Nat → Nat) (b : Nat) (R : Nat → Nat) (st : Int32) (O S : Nat → Int32) (hI : st_I n a T H b R) : Met l yX3_stopper (wq yX3_stopper cX3_stopper 1 (some .int)) ({ frames := 4, cells := 0, slots := 0, locals := 91 }) (ro_P (dC, dI) classes [(cI, .int)] (cw ad cI n a T H b R st O S) [.ref (ad 0)]) (vp_Si (fun r => r = nI (spF n a T H b R))) 0 0 (fun _ => False) := by
  have hI0 := hI
  refine Met.ofW (cc := cX3_stopper) (maxL := 1) (ret := (some .int)) (by decide) rfl ?_
  intro p e s m args below meth c s₁ B hml hv
  obtain ⟨rfl, hP, hK, hN⟩ := hv
  have hx := B.exec
  have hb := B.bytes
  have hr := B.returns
  have hlocks := B.notSynchronized
  have hts := atoms_spec (ws := (wq yX3_stopper cX3_stopper 1 (some .int))) B.pre
  have hw : ∀ w ∈ bigW, w.before _ s = true := fun w h => hts w (List.mem_cons_of_mem _ h)
  have hown : s.vm.findClass RX3 = some m.cls := findClass_of_methodNamed B.named
  have hl := lv_entry ([.ref (ad 0)]) (n := 1) (Nat.le_of_ble_eq_true rfl)
  rw [lg_entry_eq]
  generalize (lg_sl ([.ref (ad 0)]) ++ List.replicate (1 - (lg_sl ([.ref (ad 0)])).length) Slot.unset).toArray = ls at hl ⊢
  have hl : lv_has ls 1 [(0, .ref (ad 0))] := hl
  refine lv_aload_n hx hb dX3_stopper_0 rfl (lv_at hl 0 rfl) ?_
  refine lv_iconst (v := -1) hx hb dX3_stopper_1 (by decide) ?_
  refine ro_V (As := [.int (-1)]) (rest := []) (b := ad 0) ⟨hx, hb, hml, hown, hts⟩ (c_X3_firstStopper_N l dC dI cI ad n a T H b R st O S hI0) (cwV 1 hts (bw_V mq_ml_X3_82 mq_im_X3_firstStopper mq_se_X3_firstStopper mq_in_X3 mq_co_X3_firstStopper) rfl rfl rfl (by decide +kernel) ⟨Nat.le_of_ble_eq_true rfl, Nat.le_of_ble_eq_true rfl⟩) hP hK hN 0 rfl rfl rfl hl.1 rfl (Nat.le_of_ble_eq_true rfl) dX3_stopper_2 ⟨Nat.zero_le _, Nat.zero_le _⟩ (fun r9 h9 => ?_)
  obtain rfl : r9 = nI (spF n a T H b R) := h9
  exact W.iret (v := nI (spF n a T H b R)) hx hb hr (fun t ht hW => ⟨_, rfl, rfl, ht⟩) (fun _ h => by cases h) dX3_stopper_5
set_option maxHeartbeats 4000000 in
set_option maxRecDepth 100000 in
theorem c_X3_count (l : Launch) (dC : Nat → ClassId) (dI : Nat → Nat → Nat) (cI : ClassId) (ad : Nat → Nat) (n a : Nat) (T H : Nat → Nat) (b : Nat) (R : Nat → Nat) (st : Int32) (O S : Nat → Int32) (x : Int32) : Met l yX3_count (wq yX3_count cX3_count 2 (some .int)) ({ frames := 0, cells := 0, slots := 0, locals := 0 }) (ro_P (dC, dI) classes [(cI, .int)] (cw ad cI n a T H b R st O S) [.ref (ad 0), .int x]) (vp_Si (fun r => r = coF n a b x)) 0 0 (fun _ => False) := by
  refine Met.ofW (cc := cX3_count) (maxL := 2) (ret := (some .int)) (by decide) rfl ?_
  intro p e s m args below meth c s₁ B hml hv
  obtain ⟨rfl, hP, hK, hN⟩ := hv
  have hx := B.exec
  have hb := B.bytes
  have hr := B.returns
  have hlocks := B.notSynchronized
  have hts := atoms_spec (ws := (wq yX3_count cX3_count 2 (some .int))) B.pre
  have hw : ∀ w ∈ bigW, w.before _ s = true := fun w h => hts w (List.mem_cons_of_mem _ h)
  have hown : s.vm.findClass RX3 = some m.cls := findClass_of_methodNamed B.named
  have hl := lv_entry ([.ref (ad 0), .int x]) (n := 2) (Nat.le_of_ble_eq_true rfl)
  rw [lg_entry_eq]
  generalize (lg_sl ([.ref (ad 0), .int x]) ++ List.replicate (2 - (lg_sl ([.ref (ad 0), .int x])).length) Slot.unset).toArray = ls at hl ⊢
  have hl : lv_has ls 2 [(0, .ref (ad 0)), (1, .int x)] := hl
  refine lv_iload_n hx hb dX3_count_0 rfl (lv_at hl 1 rfl) ?_
  by_cases z0 : x = 0
  · subst z0
    refine lv_tableIn (off := 27) (tgt := 28) hx hb dX3_count_1 (by decide) (by decide) rfl (by decide) ?_
    refine lv_aload_n hx hb dX3_count_28 rfl (lv_at hl 0 rfl) ?_
    refine va_get (D := (dC, dI)) (ci := 3) (v := .ref (ad 1)) (C := RX3) (T := TX3) (N := 3) hx hb hw in_X3 hown hK hP 0 rfl rfl 0 (by decide) (hw _ mq_fl_X3_10) (fun _ h9 => h9) rfl dX3_count_29 ?_
    refine va_getN (D := (dC, dI)) (ci := 1) (v := .int (nI n)) (C := RX1) (T := TX1) (N := 4) hx hb hw in_X1 hown hK hP 1 rfl rfl 2 (by decide) (nf_X3_65 hN) (fun _ h9 => h9) rfl dX3_count_32 ?_
    exact W.iret (v := nI n) hx hb hr (fun t ht hW => ⟨_, rfl, (by rw [coF, if_pos rfl]), ht⟩) (fun _ h => by cases h) dX3_count_35
  · by_cases z1 : x = 1
    · subst z1
      refine lv_tableIn (off := 35) (tgt := 36) hx hb dX3_count_1 (by decide) (by decide) rfl (by decide) ?_
      refine lv_aload_n hx hb dX3_count_36 rfl (lv_at hl 0 rfl) ?_
      refine va_get (D := (dC, dI)) (ci := 3) (v := .ref (ad 1)) (C := RX3) (T := TX3) (N := 3) hx hb hw in_X3 hown hK hP 0 rfl rfl 0 (by decide) (hw _ mq_fl_X3_10) (fun _ h9 => h9) rfl dX3_count_37 ?_
      refine va_getN (D := (dC, dI)) (ci := 1) (v := .int (nI a)) (C := RX1) (T := TX1) (N := 4) hx hb hw in_X1 hown hK hP 1 rfl rfl 3 (by decide) (nf_X3_42 hN) (fun _ h9 => h9) rfl dX3_count_40 ?_
      exact W.iret (v := nI a) hx hb hr (fun t ht hW => ⟨_, rfl, (by rw [coF, if_neg (by decide), if_pos rfl]), ht⟩) (fun _ h => by cases h) dX3_count_43
    · by_cases z2 : x = 2
      · subst z2
        refine lv_tableIn (off := 43) (tgt := 44) hx hb dX3_count_1 (by decide) (by decide) rfl (by decide) ?_
        refine lv_aload_n hx hb dX3_count_44 rfl (lv_at hl 0 rfl) ?_
        refine va_get (D := (dC, dI)) (ci := 3) (v := .ref (ad 4)) (C := RX3) (T := TX3) (N := 3) hx hb hw in_X3 hown hK hP 0 rfl rfl 1 (by decide) (hw _ mq_fl_X3_19) (fun _ h9 => h9) rfl dX3_count_45 ?_
        refine va_getN (D := (dC, dI)) (ci := 0) (v := .int (nI b)) (C := RX0) (T := TX0) (N := 2) hx hb hw in_X0 hown hK hP 4 rfl rfl 1 (by decide) (nf_X3_34 hN) (fun _ h9 => h9) rfl dX3_count_48 ?_
        exact W.iret (v := nI b) hx hb hr (fun t ht hW => ⟨_, rfl, (by rw [coF, if_neg (by decide), if_neg (by decide), if_pos rfl]), ht⟩) (fun _ h => by cases h) dX3_count_51
      · refine lv_tableOut (tgt := 52) hx hb dX3_count_1 (tb_out z0 z1 z2) (by decide) ?_
        refine lv_iconst (v := -1) hx hb dX3_count_52 (by decide) ?_
        exact W.iret (v := -1) hx hb hr (fun t ht hW => ⟨_, rfl, (by rw [coF, if_neg z0, if_neg z1, if_neg z2]), ht⟩) (fun _ h => by cases h) dX3_count_53
set_option maxHeartbeats 4000000 in
set_option maxRecDepth 100000 in
theorem c_X3_entry (l : Launch) (dC : Nat → ClassId) (dI : Nat → Nat → Nat) (cI : ClassId) (ad : Nat → Nat) (n a : Nat) (T H : Nat → Nat) (b : Nat) (R : Nat → Nat) (st : Int32) (O S : Nat → Int32) (x : Int32) (hI : st_I n a T H b R) : Met l yX3_entry (wq yX3_entry cX3_entry 2 (some .int)) ({ frames := 2, cells := 0, slots := 0, locals := 45 }) (ro_P (dC, dI) classes [(cI, .int)] (cw ad cI n a T H b R st O S) [.ref (ad 0), .int x]) (vp_Si (fun r => r = etF n a T H x)) 0 0 (fun _ => False) := by
  obtain ⟨n1, n7, a14, hT, hT2, hb3, hR3, hR⟩ := hI
  have p7 := bi_p7 n7
  have p0 := Nat.two_pow_pos n
  refine Met.ofW (cc := cX3_entry) (maxL := 2) (ret := (some .int)) (by decide) rfl ?_
  intro p e s m args below meth c s₁ B hml hv
  obtain ⟨rfl, hP, hK, hN⟩ := hv
  have hx := B.exec
  have hb := B.bytes
  have hr := B.returns
  have hlocks := B.notSynchronized
  have hts := atoms_spec (ws := (wq yX3_entry cX3_entry 2 (some .int))) B.pre
  have hw : ∀ w ∈ bigW, w.before _ s = true := fun w h => hts w (List.mem_cons_of_mem _ h)
  have hown : s.vm.findClass RX3 = some m.cls := findClass_of_methodNamed B.named
  have hl := lv_entry ([.ref (ad 0), .int x]) (n := 2) (Nat.le_of_ble_eq_true rfl)
  rw [lg_entry_eq]
  generalize (lg_sl ([.ref (ad 0), .int x]) ++ List.replicate (2 - (lg_sl ([.ref (ad 0), .int x])).length) Slot.unset).toArray = ls at hl ⊢
  have hl : lv_has ls 2 [(0, .ref (ad 0)), (1, .int x)] := hl
  refine lv_aload_n hx hb dX3_entry_0 rfl (lv_at hl 0 rfl) ?_
  refine va_get (D := (dC, dI)) (ci := 3) (v := .ref (ad 1)) (C := RX3) (T := TX3) (N := 3) hx hb hw in_X3 hown hK hP 0 rfl rfl 0 (by decide) (hw _ mq_fl_X3_10) (fun _ h9 => h9) rfl dX3_entry_1 ?_
  refine lv_iload_n hx hb dX3_entry_4 rfl (lv_at hl 1 rfl) ?_
  refine ro_V (As := [.int x]) (rest := []) (b := ad 1) ⟨hx, hb, hml, hown, hts⟩ (c_X1_hasSet l dC dI cI ad n a T H b R st O S n7 x) (cwV 1 hts (bw_V mq_ml_X3_59 mq_im_X1_hasSet mq_se_X1_hasSet mq_in_X1 mq_co_X1_hasSet) rfl rfl rfl (by decide +kernel) ⟨Nat.le_of_ble_eq_true rfl, Nat.le_of_ble_eq_true rfl⟩) hP hK hN 1 rfl rfl rfl hl.1 rfl (Nat.le_of_ble_eq_true rfl) dX3_entry_5 ⟨Nat.zero_le _, Nat.zero_le _⟩ (fun r9 h9 => ?_)
  obtain rfl : r9 = nI (ed_b (decide (0 ≤ x ∧ x ≤ nI (2 ^ n - 1)))) := h9
  refine lv_if_eq (tgt := 22) hx hb dX3_entry_8 (by decide) (fun b8 => ?_) (fun b8 => ?_)
  -- ifeq at 8, t
  · have t8 := decide_eq_false_iff_not.mp (zb_0.mp b8)
    refine lv_iconst (v := -1) hx hb dX3_entry_22 (by decide) ?_
    exact W.iret (v := -1) hx hb hr (fun t ht hW => ⟨_, rfl, (by rw [etF, if_neg t8]), ht⟩) (fun _ h => by cases h) dX3_entry_23
  -- ifeq at 8, f
  · have t8 := decide_eq_true_eq.mp (zb_n0.mp b8)
    obtain ⟨X, hX, rfl⟩ := is_in_of ((is_set_in n7).mp t8) (by omega)
    refine lv_aload_n hx hb dX3_entry_11 rfl (lv_at hl 0 rfl) ?_
    refine va_get (D := (dC, dI)) (ci := 3) (v := .ref (ad 1)) (C := RX3) (T := TX3) (N := 3) hx hb hw in_X3 hown hK hP 0 rfl rfl 0 (by decide) (hw _ mq_fl_X3_10) (fun _ h9 => h9) rfl dX3_entry_12 ?_
    refine lv_iload_n hx hb dX3_entry_15 rfl (lv_at hl 1 rfl) ?_
    refine ro_V (As := [.int (nI X)]) (rest := []) (b := ad 1) ⟨hx, hb, hml, hown, hts⟩ (c_X1_entrySize l dC dI cI ad n a T H b R st O S X a14 (by omega) hT) (cwV 1 hts (bw_V mq_ml_X3_75 mq_im_X1_entrySize mq_se_X1_entrySize mq_in_X1 mq_co_X1_entrySize) rfl rfl rfl (by decide +kernel) ⟨Nat.le_of_ble_eq_true rfl, Nat.le_of_ble_eq_true rfl⟩) hP hK hN 1 rfl rfl rfl hl.1 rfl (Nat.le_of_ble_eq_true rfl) dX3_entry_16 ⟨Nat.zero_le _, Nat.zero_le _⟩ (fun r9 h9 => ?_)
    obtain rfl : r9 = nI (rho0 T H a X) := h9
    refine lv_goto (tgt := 23) hx hb dX3_entry_19 (by decide) ?_
    exact W.iret (v := nI (rho0 T H a X)) hx hb hr (fun t ht hW => ⟨_, rfl, (by rw [etF, if_pos t8, nI_clamp (by omega)]), ht⟩) (fun _ h => by cases h) dX3_entry_23
set_option maxHeartbeats 4000000 in
set_option maxRecDepth 100000 in
theorem c_X3_missed (l : Launch) (dC : Nat → ClassId) (dI : Nat → Nat → Nat) (cI : ClassId) (ad : Nat → Nat) (n a : Nat) (T H : Nat → Nat) (b : Nat) (R : Nat → Nat) (st : Int32) (O S : Nat → Int32) (x : Int32) (hI : st_I n a T H b R) : Met l yX3_missed (wq yX3_missed cX3_missed 2 (some .int)) ({ frames := 2, cells := 0, slots := 0, locals := 41 }) (ro_P (dC, dI) classes [(cI, .int)] (cw ad cI n a T H b R st O S) [.ref (ad 0), .int x]) (vp_Si (fun r => r = miF n b R x)) 0 0 (fun _ => False) := by
  obtain ⟨n1, n7, a14, hT, hT2, hb3, hR3, hR⟩ := hI
  have p7 := bi_p7 n7
  have p0 := Nat.two_pow_pos n
  refine Met.ofW (cc := cX3_missed) (maxL := 2) (ret := (some .int)) (by decide) rfl ?_
  intro p e s m args below meth c s₁ B hml hv
  obtain ⟨rfl, hP, hK, hN⟩ := hv
  have hx := B.exec
  have hb := B.bytes
  have hr := B.returns
  have hlocks := B.notSynchronized
  have hts := atoms_spec (ws := (wq yX3_missed cX3_missed 2 (some .int))) B.pre
  have hw : ∀ w ∈ bigW, w.before _ s = true := fun w h => hts w (List.mem_cons_of_mem _ h)
  have hown : s.vm.findClass RX3 = some m.cls := findClass_of_methodNamed B.named
  have hl := lv_entry ([.ref (ad 0), .int x]) (n := 2) (Nat.le_of_ble_eq_true rfl)
  rw [lg_entry_eq]
  generalize (lg_sl ([.ref (ad 0), .int x]) ++ List.replicate (2 - (lg_sl ([.ref (ad 0), .int x])).length) Slot.unset).toArray = ls at hl ⊢
  have hl : lv_has ls 2 [(0, .ref (ad 0)), (1, .int x)] := hl
  refine lv_aload_n hx hb dX3_missed_0 rfl (lv_at hl 0 rfl) ?_
  refine va_get (D := (dC, dI)) (ci := 3) (v := .ref (ad 1)) (C := RX3) (T := TX3) (N := 3) hx hb hw in_X3 hown hK hP 0 rfl rfl 0 (by decide) (hw _ mq_fl_X3_10) (fun _ h9 => h9) rfl dX3_missed_1 ?_
  refine lv_iload_n hx hb dX3_missed_4 rfl (lv_at hl 1 rfl) ?_
  refine ro_V (As := [.int x]) (rest := []) (b := ad 1) ⟨hx, hb, hml, hown, hts⟩ (c_X1_hasSet l dC dI cI ad n a T H b R st O S n7 x) (cwV 1 hts (bw_V mq_ml_X3_59 mq_im_X1_hasSet mq_se_X1_hasSet mq_in_X1 mq_co_X1_hasSet) rfl rfl rfl (by decide +kernel) ⟨Nat.le_of_ble_eq_true rfl, Nat.le_of_ble_eq_true rfl⟩) hP hK hN 1 rfl rfl rfl hl.1 rfl (Nat.le_of_ble_eq_true rfl) dX3_missed_5 ⟨Nat.zero_le _, Nat.zero_le _⟩ (fun r9 h9 => ?_)
  obtain rfl : r9 = nI (ed_b (decide (0 ≤ x ∧ x ≤ nI (2 ^ n - 1)))) := h9
  refine lv_if_eq (tgt := 22) hx hb dX3_missed_8 (by decide) (fun b8 => ?_) (fun b8 => ?_)
  -- ifeq at 8, t
  · have t8 := decide_eq_false_iff_not.mp (zb_0.mp b8)
    refine lv_iconst (v := -1) hx hb dX3_missed_22 (by decide) ?_
    exact W.iret (v := -1) hx hb hr (fun t ht hW => ⟨_, rfl, (by rw [miF, if_neg t8]), ht⟩) (fun _ h => by cases h) dX3_missed_23
  -- ifeq at 8, f
  · have t8 := decide_eq_true_eq.mp (zb_n0.mp b8)
    obtain ⟨X, hX, rfl⟩ := is_in_of ((is_set_in n7).mp t8) (by omega)
    refine lv_aload_n hx hb dX3_missed_11 rfl (lv_at hl 0 rfl) ?_
    refine va_get (D := (dC, dI)) (ci := 3) (v := .ref (ad 4)) (C := RX3) (T := TX3) (N := 3) hx hb hw in_X3 hown hK hP 0 rfl rfl 1 (by decide) (hw _ mq_fl_X3_19) (fun _ h9 => h9) rfl dX3_missed_12 ?_
    refine lv_iload_n hx hb dX3_missed_15 rfl (lv_at hl 1 rfl) ?_
    refine ro_V (As := [.int (nI X)]) (rest := []) (b := ad 4) ⟨hx, hb, hml, hown, hts⟩ (c_X0_missing l dC dI cI ad n a T H b R st O S X hb3 hR) (cwV 1 hts (bw_V mq_ml_X3_79 mq_im_X0_missing mq_se_X0_missing mq_in_X0 mq_co_X0_missing) rfl rfl rfl (by decide +kernel) ⟨Nat.le_of_ble_eq_true rfl, Nat.le_of_ble_eq_true rfl⟩) hP hK hN 4 rfl rfl rfl hl.1 rfl (Nat.le_of_ble_eq_true rfl) dX3_missed_16 ⟨Nat.zero_le _, Nat.zero_le _⟩ (fun r9 h9 => ?_)
    obtain rfl : r9 = nI (ed_mis R b X) := h9
    refine lv_goto (tgt := 23) hx hb dX3_missed_19 (by decide) ?_
    exact W.iret (v := nI (ed_mis R b X)) hx hb hr (fun t ht hW => ⟨_, rfl, (by rw [miF, if_pos t8, nI_clamp (by omega)]), ht⟩) (fun _ h => by cases h) dX3_missed_23
set_option maxHeartbeats 4000000 in
set_option maxRecDepth 100000 in
theorem c_X3_end (l : Launch) (dC : Nat → ClassId) (dI : Nat → Nat → Nat) (cI : ClassId) (ad : Nat → Nat) (n a : Nat) (T H : Nat → Nat) (b : Nat) (R : Nat → Nat) (st : Int32) (O S : Nat → Int32) (x y : Int32) (hI : st_I n a T H b R) : Met l yX3_end (wq yX3_end cX3_end 3 (some .int)) ({ frames := 1, cells := 0, slots := 0, locals := 21 }) (ro_P (dC, dI) classes [(cI, .int)] (cw ad cI n a T H b R st O S) [.ref (ad 0), .int x, .int y]) (vp_Si (fun r => r = enF a T H x y)) 0 0 (fun _ => False) := by
  obtain ⟨n1, n7, a14, hT, hT2, hb3, hR3, hR⟩ := hI
  have p7 := bi_p7 n7
  have p0 := Nat.two_pow_pos n
  refine Met.ofW (cc := cX3_end) (maxL := 3) (ret := (some .int)) (by decide) rfl ?_
  intro p e s m args below meth c s₁ B hml hv
  obtain ⟨rfl, hP, hK, hN⟩ := hv
  have hx := B.exec
  have hb := B.bytes
  have hr := B.returns
  have hlocks := B.notSynchronized
  have hts := atoms_spec (ws := (wq yX3_end cX3_end 3 (some .int))) B.pre
  have hw : ∀ w ∈ bigW, w.before _ s = true := fun w h => hts w (List.mem_cons_of_mem _ h)
  have hown : s.vm.findClass RX3 = some m.cls := findClass_of_methodNamed B.named
  have hl := lv_entry ([.ref (ad 0), .int x, .int y]) (n := 3) (Nat.le_of_ble_eq_true rfl)
  rw [lg_entry_eq]
  generalize (lg_sl ([.ref (ad 0), .int x, .int y]) ++ List.replicate (3 - (lg_sl ([.ref (ad 0), .int x, .int y])).length) Slot.unset).toArray = ls at hl ⊢
  have hl : lv_has ls 3 [(0, .ref (ad 0)), (1, .int x), (2, .int y)] := hl
  refine lv_aload_n hx hb dX3_end_0 rfl (lv_at hl 0 rfl) ?_
  refine va_get (D := (dC, dI)) (ci := 3) (v := .ref (ad 1)) (C := RX3) (T := TX3) (N := 3) hx hb hw in_X3 hown hK hP 0 rfl rfl 0 (by decide) (hw _ mq_fl_X3_10) (fun _ h9 => h9) rfl dX3_end_1 ?_
  refine lv_iload_n hx hb dX3_end_4 rfl (lv_at hl 1 rfl) ?_
  refine ro_V (As := [.int x]) (rest := []) (b := ad 1) ⟨hx, hb, hml, hown, hts⟩ (c_X1_hasArc l dC dI cI ad n a T H b R st O S x) (cwV 1 hts (bw_V mq_ml_X3_53 mq_im_X1_hasArc mq_se_X1_hasArc mq_in_X1 mq_co_X1_hasArc) rfl rfl rfl (by decide +kernel) ⟨Nat.le_of_ble_eq_true rfl, Nat.le_of_ble_eq_true rfl⟩) hP hK hN 1 rfl rfl rfl hl.1 rfl (Nat.le_of_ble_eq_true rfl) dX3_end_5 ⟨Nat.zero_le _, Nat.zero_le _⟩ (fun r9 h9 => ?_)
  obtain rfl : r9 = nI (ed_b (decide (0 ≤ x ∧ x < nI a))) := h9
  refine lv_if_eq (tgt := 20) hx hb dX3_end_8 (by decide) (fun b8 => ?_) (fun b8 => ?_)
  -- ifeq at 8, t
  · have t8 := decide_eq_false_iff_not.mp (zb_0.mp b8)
    refine lv_iconst (v := -1) hx hb dX3_end_20 (by decide) ?_
    exact W.iret (v := -1) hx hb hr (fun t ht hW => ⟨_, rfl, (by rw [enF, if_neg (fun h => t8 h.1)]), ht⟩) (fun _ h => by cases h) dX3_end_21
  -- ifeq at 8, f
  · have t8 := decide_eq_true_eq.mp (zb_n0.mp b8)
    obtain ⟨j, hj, rfl⟩ := is_in_of t8 (by omega)
    refine lv_iload_n hx hb dX3_end_11 rfl (lv_at hl 2 rfl) ?_
    refine lv_if_lt (tgt := 20) hx hb dX3_end_12 (by decide) (fun b12 => ?_) (fun b12 => ?_)
    -- iflt at 12, t
    · refine lv_iconst (v := -1) hx hb dX3_end_20 (by decide) ?_
      exact W.iret (v := -1) hx hb hr (fun t ht hW => ⟨_, rfl, (by rw [enF, if_neg (fun h => by rcases h.2 with z | z <;> (rw [z] at b12; exact absurd b12 (by decide)))]), ht⟩) (fun _ h => by cases h) dX3_end_21
    -- iflt at 12, f
    · refine lv_iload_n hx hb dX3_end_15 rfl (lv_at hl 2 rfl) ?_
      refine lv_iconst (v := 1) hx hb dX3_end_16 (by decide) ?_
      refine lv_icmp_le (tgt := 22) hx hb dX3_end_17 (by decide) (fun b17 => ?_) (fun b17 => ?_)
      -- if_icmple at 17, t
      · refine lv_iload_n hx hb dX3_end_22 rfl (lv_at hl 2 rfl) ?_
        refine lv_if_ne (tgt := 38) hx hb dX3_end_23 (by decide) (fun b23 => ?_) (fun b23 => ?_)
        -- ifne at 23, t
        · refine lv_aload_n hx hb dX3_end_38 rfl (lv_at hl 0 rfl) ?_
          refine va_get (D := (dC, dI)) (ci := 3) (v := .ref (ad 1)) (C := RX3) (T := TX3) (N := 3) hx hb hw in_X3 hown hK hP 0 rfl rfl 0 (by decide) (hw _ mq_fl_X3_10) (fun _ h9 => h9) rfl dX3_end_39 ?_
          refine va_getN (D := (dC, dI)) (ci := 1) (v := .ref (ad 3)) (C := RX1) (T := TX1) (N := 4) hx hb hw in_X1 hown hK hP 1 rfl rfl 1 (by decide) (nf_X3_72 hN) (fun _ h9 => h9) rfl dX3_end_42 ?_
          refine lv_iload_n hx hb dX3_end_45 rfl (lv_at hl 1 rfl) ?_
          refine va_iald hx hb hK hP 3 0 rfl rfl (vp_in_nI (by omega) (by decide)) dX3_end_46 ?_
          refine lv_topi (fun z9 e9 => ?_)
          obtain rfl : z9 = nI (H j) := e9.trans (ar_at H (by omega))
          exact W.iret (v := nI (H j)) hx hb hr (fun t ht hW => ⟨_, rfl, (by rw [enF, if_pos ⟨t8, Or.inr (y_one b12 b17 b23)⟩, if_neg b23, nI_clamp (by omega)]), ht⟩) (fun _ h => by cases h) dX3_end_47
        -- ifne at 23, f
        · refine lv_aload_n hx hb dX3_end_26 rfl (lv_at hl 0 rfl) ?_
          refine va_get (D := (dC, dI)) (ci := 3) (v := .ref (ad 1)) (C := RX3) (T := TX3) (N := 3) hx hb hw in_X3 hown hK hP 0 rfl rfl 0 (by decide) (hw _ mq_fl_X3_10) (fun _ h9 => h9) rfl dX3_end_27 ?_
          refine va_getN (D := (dC, dI)) (ci := 1) (v := .ref (ad 2)) (C := RX1) (T := TX1) (N := 4) hx hb hw in_X1 hown hK hP 1 rfl rfl 0 (by decide) (nf_X3_68 hN) (fun _ h9 => h9) rfl dX3_end_30 ?_
          refine lv_iload_n hx hb dX3_end_33 rfl (lv_at hl 1 rfl) ?_
          refine va_iald hx hb hK hP 2 0 rfl rfl (vp_in_nI (by omega) (by decide)) dX3_end_34 ?_
          refine lv_topi (fun z9 e9 => ?_)
          obtain rfl : z9 = nI (T j) := e9.trans (ar_at T (by omega))
          refine lv_goto (tgt := 47) hx hb dX3_end_35 (by decide) ?_
          exact W.iret (v := nI (T j)) hx hb hr (fun t ht hW => ⟨_, rfl, (by rw [enF, if_pos ⟨t8, Or.inl b23⟩, if_pos b23, nI_clamp (by omega)]), ht⟩) (fun _ h => by cases h) dX3_end_47
      -- if_icmple at 17, f
      · refine lv_iconst (v := -1) hx hb dX3_end_20 (by decide) ?_
        exact W.iret (v := -1) hx hb hr (fun t ht hW => ⟨_, rfl, (by rw [enF, if_neg (fun h => by rcases h.2 with z | z <;> (rw [z] at b17; exact b17 (by decide)))]), ht⟩) (fun _ h => by cases h) dX3_end_21
set_option maxHeartbeats 4000000 in
set_option maxRecDepth 100000 in
theorem c_X3_spare (l : Launch) (dC : Nat → ClassId) (dI : Nat → Nat → Nat) (cI : ClassId) (ad : Nat → Nat) (n a : Nat) (T H : Nat → Nat) (b : Nat) (R : Nat → Nat) (st : Int32) (O S : Nat → Int32) (x : Int32) (hI : st_I n a T H b R) : Met l yX3_spare (wq yX3_spare cX3_spare 2 (some .boolean)) ({ frames := 4, cells := 0, slots := 0, locals := 91 }) (ro_P (dC, dI) classes [(cI, .int)] (cw ad cI n a T H b R st O S) [.ref (ad 0), .int x]) (vp_Si (fun r => r = nI (ed_b (srF n a T H b R x)))) 0 0 (fun _ => False) := by
  have hI0 := hI
  obtain ⟨n1, n7, a14, hT, hT2, hb3, hR3, hR⟩ := hI
  have p7 := bi_p7 n7
  have p0 := Nat.two_pow_pos n
  refine Met.ofW (cc := cX3_spare) (maxL := 2) (ret := (some .boolean)) (by decide) rfl ?_
  intro p e s m args below meth c s₁ B hml hv
  obtain ⟨rfl, hP, hK, hN⟩ := hv
  have hx := B.exec
  have hb := B.bytes
  have hr := B.returns
  have hlocks := B.notSynchronized
  have hts := atoms_spec (ws := (wq yX3_spare cX3_spare 2 (some .boolean))) B.pre
  have hw : ∀ w ∈ bigW, w.before _ s = true := fun w h => hts w (List.mem_cons_of_mem _ h)
  have hown : s.vm.findClass RX3 = some m.cls := findClass_of_methodNamed B.named
  have hl := lv_entry ([.ref (ad 0), .int x]) (n := 2) (Nat.le_of_ble_eq_true rfl)
  rw [lg_entry_eq]
  generalize (lg_sl ([.ref (ad 0), .int x]) ++ List.replicate (2 - (lg_sl ([.ref (ad 0), .int x])).length) Slot.unset).toArray = ls at hl ⊢
  have hl : lv_has ls 2 [(0, .ref (ad 0)), (1, .int x)] := hl
  refine lv_aload_n hx hb dX3_spare_0 rfl (lv_at hl 0 rfl) ?_
  refine va_get (D := (dC, dI)) (ci := 3) (v := .ref (ad 1)) (C := RX3) (T := TX3) (N := 3) hx hb hw in_X3 hown hK hP 0 rfl rfl 0 (by decide) (hw _ mq_fl_X3_10) (fun _ h9 => h9) rfl dX3_spare_1 ?_
  refine lv_iload_n hx hb dX3_spare_4 rfl (lv_at hl 1 rfl) ?_
  refine ro_V (As := [.int x]) (rest := []) (b := ad 1) ⟨hx, hb, hml, hown, hts⟩ (c_X1_hasArc l dC dI cI ad n a T H b R st O S x) (cwV 1 hts (bw_V mq_ml_X3_53 mq_im_X1_hasArc mq_se_X1_hasArc mq_in_X1 mq_co_X1_hasArc) rfl rfl rfl (by decide +kernel) ⟨Nat.le_of_ble_eq_true rfl, Nat.le_of_ble_eq_true rfl⟩) hP hK hN 1 rfl rfl rfl hl.1 rfl (Nat.le_of_ble_eq_true rfl) dX3_spare_5 ⟨Nat.zero_le _, Nat.zero_le _⟩ (fun r9 h9 => ?_)
  obtain rfl : r9 = nI (ed_b (decide (0 ≤ x ∧ x < nI a))) := h9
  refine lv_if_eq (tgt := 23) hx hb dX3_spare_8 (by decide) (fun b8 => ?_) (fun b8 => ?_)
  -- ifeq at 8, t
  · have t8 := decide_eq_false_iff_not.mp (zb_0.mp b8)
    refine lv_iconst (v := 0) hx hb dX3_spare_23 (by decide) ?_
    exact W.zret (v := 0) hx hb hr rfl (fun t ht hW => ⟨_, rfl, zb_F (by rw [srF, if_neg t8]), ht⟩) (fun _ h => by cases h) dX3_spare_24
  -- ifeq at 8, f
  · have t8 := decide_eq_true_eq.mp (zb_n0.mp b8)
    obtain ⟨j, hj, rfl⟩ := is_in_of t8 (by omega)
    have z9 := fs_le (stpL T H a R b j) (2 ^ n - 1)
    refine lv_aload_n hx hb dX3_spare_11 rfl (lv_at hl 0 rfl) ?_
    refine lv_iload_n hx hb dX3_spare_12 rfl (lv_at hl 1 rfl) ?_
    refine ro_V (As := [.int (nI j)]) (rest := []) (b := ad 0) ⟨hx, hb, hml, hown, hts⟩ (c_X3_firstStopper_J l dC dI cI ad n a T H b R st O S j hj hI0) (cwV 1 hts (bw_V mq_ml_X3_82 mq_im_X3_firstStopper mq_se_X3_firstStopper mq_in_X3 mq_co_X3_firstStopper) rfl rfl rfl (by decide +kernel) ⟨Nat.le_of_ble_eq_true rfl, Nat.le_of_ble_eq_true rfl⟩) hP hK hN 0 rfl rfl rfl hl.1 rfl (Nat.le_of_ble_eq_true rfl) dX3_spare_13 ⟨Nat.zero_le _, Nat.zero_le _⟩ (fun r9 h9 => ?_)
    obtain rfl : r9 = nI (fs_at (stpL T H a R b j) (2 ^ n - 1)) := h9
    refine lv_if_ne (tgt := 23) hx hb dX3_spare_16 (by decide) (fun b16 => ?_) (fun b16 => ?_)
    -- ifne at 16, t
    · have t16 : ¬ fs_at (stpL T H a R b j) (2 ^ n - 1) = 0 := fun z => b16 (by rw [z]; exact nI_0)
      refine lv_iconst (v := 0) hx hb dX3_spare_23 (by decide) ?_
      exact W.zret (v := 0) hx hb hr rfl (fun t ht hW => ⟨_, rfl, zb_F (by rw [srF, if_pos t8, nI_clamp (by omega), decide_eq_false t16]), ht⟩) (fun _ h => by cases h) dX3_spare_24
    -- ifne at 16, f
    · have t16 : fs_at (stpL T H a R b j) (2 ^ n - 1) = 0 := (nI_eq (by omega) (by decide)).mp (b16.trans nI_0.symm)
      refine lv_iconst (v := 1) hx hb dX3_spare_19 (by decide) ?_
      refine lv_goto (tgt := 24) hx hb dX3_spare_20 (by decide) ?_
      exact W.zret (v := 1) hx hb hr rfl (fun t ht hW => ⟨_, rfl, zb_T (by rw [srF, if_pos t8, nI_clamp (by omega), decide_eq_true t16]), ht⟩) (fun _ h => by cases h) dX3_spare_24
set_option maxHeartbeats 4000000 in
set_option maxRecDepth 100000 in
theorem c_X3_most (l : Launch) (dC : Nat → ClassId) (dI : Nat → Nat → Nat) (cI : ClassId) (ad : Nat → Nat) (n a : Nat) (T H : Nat → Nat) (b : Nat) (R : Nat → Nat) (st : Int32) (O S : Nat → Int32) (x : Int32) (hI : st_I n a T H b R) : Met l yX3_most (wq yX3_most cX3_most 4 (some .int)) ({ frames := 2, cells := 0, slots := 0, locals := 45 }) (ro_P (dC, dI) classes [(cI, .int)] (cw ad cI n a T H b R st O S) [.ref (ad 0), .int x]) (vp_Si (fun r => r = moF n a T H x)) 0 0 (fun _ => False) := by
  obtain ⟨n1, n7, a14, hT, hT2, hb3, hR3, hR⟩ := hI
  have p7 := bi_p7 n7
  have p0 := Nat.two_pow_pos n
  refine Met.ofW (cc := cX3_most) (maxL := 4) (ret := (some .int)) (by decide) rfl ?_
  intro p e s m args below meth c s₁ B hml hv
  obtain ⟨rfl, hP, hK, hN⟩ := hv
  have hx := B.exec
  have hb := B.bytes
  have hr := B.returns
  have hlocks := B.notSynchronized
  have hts := atoms_spec (ws := (wq yX3_most cX3_most 4 (some .int))) B.pre
  have hw : ∀ w ∈ bigW, w.before _ s = true := fun w h => hts w (List.mem_cons_of_mem _ h)
  have hown : s.vm.findClass RX3 = some m.cls := findClass_of_methodNamed B.named
  have hl := lv_entry ([.ref (ad 0), .int x]) (n := 4) (Nat.le_of_ble_eq_true rfl)
  rw [lg_entry_eq]
  generalize (lg_sl ([.ref (ad 0), .int x]) ++ List.replicate (4 - (lg_sl ([.ref (ad 0), .int x])).length) Slot.unset).toArray = ls at hl ⊢
  have hl : lv_has ls 4 [(0, .ref (ad 0)), (1, .int x)] := hl
  refine lv_iload_n hx hb dX3_most_0 rfl (lv_at hl 1 rfl) ?_
  refine lv_if_eq (tgt := 15) hx hb dX3_most_1 (by decide) (fun b1 => ?_) (fun b1 => ?_)
  -- ifeq at 1, t
  · refine lv_iconst (v := -1) hx hb dX3_most_15 (by decide) ?_
    exact W.iret (v := -1) hx hb hr (fun t ht hW => ⟨_, rfl, (by rw [moF, if_neg (fun h => h.1 b1)]), ht⟩) (fun _ h => by cases h) dX3_most_16
  -- ifeq at 1, f
  · refine lv_aload_n hx hb dX3_most_4 rfl (lv_at hl 0 rfl) ?_
    refine va_get (D := (dC, dI)) (ci := 3) (v := .ref (ad 1)) (C := RX3) (T := TX3) (N := 3) hx hb hw in_X3 hown hK hP 0 rfl rfl 0 (by decide) (hw _ mq_fl_X3_10) (fun _ h9 => h9) rfl dX3_most_5 ?_
    refine lv_iload_n hx hb dX3_most_8 rfl (lv_at hl 1 rfl) ?_
    refine ro_V (As := [.int x]) (rest := []) (b := ad 1) ⟨hx, hb, hml, hown, hts⟩ (c_X1_hasSet l dC dI cI ad n a T H b R st O S n7 x) (cwV 1 hts (bw_V mq_ml_X3_59 mq_im_X1_hasSet mq_se_X1_hasSet mq_in_X1 mq_co_X1_hasSet) rfl rfl rfl (by decide +kernel) ⟨Nat.le_of_ble_eq_true rfl, Nat.le_of_ble_eq_true rfl⟩) hP hK hN 1 rfl rfl rfl hl.1 rfl (Nat.le_of_ble_eq_true rfl) dX3_most_9 ⟨Nat.zero_le _, Nat.zero_le _⟩ (fun r9 h9 => ?_)
    obtain rfl : r9 = nI (ed_b (decide (0 ≤ x ∧ x ≤ nI (2 ^ n - 1)))) := h9
    refine lv_if_ne (tgt := 17) hx hb dX3_most_12 (by decide) (fun b12 => ?_) (fun b12 => ?_)
    -- ifne at 12, t
    · have t12 := decide_eq_true_eq.mp (zb_n0.mp b12)
      obtain ⟨X, hX, rfl⟩ := is_in_of ((is_set_in n7).mp t12) (by omega)
      refine lv_bipush (v := nI (mo_at T H a X 0)) hx hb dX3_most_17 rfl ?_
      refine lv_istore_n (lv' := [(2, .int (nI (mo_at T H a X 0))), (0, .ref (ad 0)), (1, .int (nI X))]) hx hb dX3_most_19 rfl hl (by decide) rfl (fun ls hl => ?_)
      refine lv_iconst (v := nI (0 + 1)) hx hb dX3_most_20 (by decide) ?_
      refine lv_istore_n (lv' := [(3, .int (nI (0 + 1))), (2, .int (nI (mo_at T H a X 0))), (0, .ref (ad 0)), (1, .int (nI X))]) hx hb dX3_most_21 rfl hl (by decide) rfl (fun ls hl => ?_)
      refine wl_loop (fun k9 ls => ∃ (i : Nat), 2 ^ n - i = k9 ∧ (i ≤ 2 ^ n - 1) ∧ lv_has ls 4 [(0, .ref (ad 0)), (1, .int (nI X)), (2, .int (nI (mo_at T H a X i))), (3, .int (nI (i + 1)))]) ?_ _ ⟨0, rfl, by omega, lv_sub hl [2, 3, 1, 0] rfl⟩
      clear hl
      intro k9 ls ih9 h9
      obtain ⟨i, k9e, hi, hl⟩ := h9
      have ih_22 := ih9
      clear ih9
      subst k9e
      have z8 := mo_le T H a X i
      refine lv_iload_n hx hb dX3_most_22 rfl (lv_at hl 3 rfl) ?_
      refine lv_aload_n hx hb dX3_most_23 rfl (lv_at hl 0 rfl) ?_
      refine va_get (D := (dC, dI)) (ci := 3) (v := .ref (ad 1)) (C := RX3) (T := TX3) (N := 3) hx hb hw in_X3 hown hK hP 0 rfl rfl 0 (by decide) (hw _ mq_fl_X3_10) (fun _ h9 => h9) rfl dX3_most_24 ?_
      refine ro_V (As := []) (rest := [.int (nI (i + 1))]) (b := ad 1) ⟨hx, hb, hml, hown, hts⟩ (c_X1_allVertices l dC dI cI ad n a T H b R st O S n7) (cwV 0 hts (bw_V mq_ml_X3_92 mq_im_X1_allVertices mq_se_X1_allVertices mq_in_X1 mq_co_X1_allVertices) rfl rfl rfl (by decide +kernel) ⟨Nat.le_of_ble_eq_true rfl, Nat.le_of_ble_eq_true rfl⟩) hP hK hN 1 rfl rfl rfl hl.1 rfl (Nat.le_of_ble_eq_true rfl) dX3_most_27 ⟨Nat.zero_le _, Nat.zero_le _⟩ (fun r9 h9 => ?_)
      obtain rfl : r9 = nI (2 ^ n - 1) := h9
      refine lv_icmp_gt (tgt := 58) hx hb dX3_most_30 (by decide) (fun b30 => ?_) (fun b30 => ?_)
      -- if_icmpgt at 30, t
      · have t30 := (nI_ltI (by omega) (by omega)).mp b30
        have e30 : i = 2 ^ n - 1 := by omega
        refine lv_iload_n hx hb dX3_most_58 rfl (lv_at hl 2 rfl) ?_
        exact W.iret (v := nI (mo_at T H a X i)) hx hb hr (fun t ht hW => ⟨_, rfl, (by rw [moF, if_pos ⟨b1, t12⟩, nI_clamp (by omega), e30]), ht⟩) (fun _ h => by cases h) dX3_most_59
      -- if_icmpgt at 30, f
      · have t30 : i + 1 ≤ 2 ^ n - 1 := Nat.le_of_not_lt (fun z => b30 (nI_lt z (by omega)))
        have z9 : rho0 T H a (i + 1) ≤ a := ed_ct_le _ _
        refine lv_iload_n hx hb dX3_most_33 rfl (lv_at hl 3 rfl) ?_
        refine lv_iload_n hx hb dX3_most_34 rfl (lv_at hl 1 rfl) ?_
        refine lv_iand hx hb dX3_most_35 ?_
        refine lv_if_ne (tgt := 52) hx hb dX3_most_36 (by decide) (fun b36 => ?_) (fun b36 => ?_)
        -- ifne at 36, t
        · have t36 : ¬ (i + 1) &&& X = 0 := fun z => b36 ((bi_z (by omega)).mpr z)
          refine lv_iinc (k := 3) (v := nI (i + 1 + 1)) (lv' := [(3, .int (nI (i + 1 + 1))), (0, .ref (ad 0)), (1, .int (nI X)), (2, .int (nI (mo_at T H a X i)))]) hx hb dX3_most_52 hl rfl (ii_1 _) (by decide) rfl (fun ls hl => ?_)
          refine lv_goto (tgt := 22) hx hb dX3_most_55 (by decide) ?_
          have e8 : mo_at T H a X (i + 1) = mo_at T H a X i := by rw [mo_s, if_neg t36]
          rw [← e8] at hl
          exact ih_22 _ _ (by omega) ⟨i + 1, rfl, by omega, lv_sub hl [1, 2, 3, 0] rfl⟩
        -- ifne at 36, f
        · have t36 : (i + 1) &&& X = 0 := (bi_z (by omega)).mp b36
          refine lv_iload_n hx hb dX3_most_39 rfl (lv_at hl 2 rfl) ?_
          refine lv_aload_n hx hb dX3_most_40 rfl (lv_at hl 0 rfl) ?_
          refine va_get (D := (dC, dI)) (ci := 3) (v := .ref (ad 1)) (C := RX3) (T := TX3) (N := 3) hx hb hw in_X3 hown hK hP 0 rfl rfl 0 (by decide) (hw _ mq_fl_X3_10) (fun _ h9 => h9) rfl dX3_most_41 ?_
          refine lv_iload_n hx hb dX3_most_44 rfl (lv_at hl 3 rfl) ?_
          refine ro_V (As := [.int (nI (i + 1))]) (rest := [.int (nI (mo_at T H a X i))]) (b := ad 1) ⟨hx, hb, hml, hown, hts⟩ (c_X1_entrySize l dC dI cI ad n a T H b R st O S (i + 1) a14 (by omega) hT) (cwV 1 hts (bw_V mq_ml_X3_75 mq_im_X1_entrySize mq_se_X1_entrySize mq_in_X1 mq_co_X1_entrySize) rfl rfl rfl (by decide +kernel) ⟨Nat.le_of_ble_eq_true rfl, Nat.le_of_ble_eq_true rfl⟩) hP hK hN 1 rfl rfl rfl hl.1 rfl (Nat.le_of_ble_eq_true rfl) dX3_most_45 ⟨Nat.zero_le _, Nat.zero_le _⟩ (fun r9 h9 => ?_)
          obtain rfl : r9 = nI (rho0 T H a (i + 1)) := h9
          refine va_mmin hx hb (by rw [hml]; exact hl.1.symm) hown (hw _ mq_ml_X3_96) (hw _ mq_st_J9_min) (hw _ mq_in_J9) (hw _ mq_co_J9_min) (Nat.le_of_ble_eq_true rfl) (Nat.le_of_ble_eq_true rfl) (Nat.zero_le _) (Nat.zero_le _) dX3_most_48 ?_
          refine lv_topi (fun z9 e9 => ?_)
          obtain rfl : z9 = nI (min (mo_at T H a X i) (rho0 T H a (i + 1))) := e9.trans (mn_nI (by omega) (by omega))
          refine lv_istore_n (lv' := [(2, .int (nI (min (mo_at T H a X i) (rho0 T H a (i + 1))))), (0, .ref (ad 0)), (1, .int (nI X)), (3, .int (nI (i + 1)))]) hx hb dX3_most_51 rfl hl (by decide) rfl (fun ls hl => ?_)
          refine lv_iinc (k := 3) (v := nI (i + 1 + 1)) (lv' := [(3, .int (nI (i + 1 + 1))), (2, .int (nI (min (mo_at T H a X i) (rho0 T H a (i + 1))))), (0, .ref (ad 0)), (1, .int (nI X))]) hx hb dX3_most_52 hl rfl (ii_1 _) (by decide) rfl (fun ls hl => ?_)
          refine lv_goto (tgt := 22) hx hb dX3_most_55 (by decide) ?_
          have e8 : mo_at T H a X (i + 1) = min (mo_at T H a X i) (rho0 T H a (i + 1)) := by rw [mo_s, if_pos t36]
          rw [← e8] at hl
          exact ih_22 _ _ (by omega) ⟨i + 1, rfl, by omega, lv_sub hl [2, 3, 1, 0] rfl⟩
    -- ifne at 12, f
    · have t12 := decide_eq_false_iff_not.mp (zb_0.mp b12)
      refine lv_iconst (v := -1) hx hb dX3_most_15 (by decide) ?_
      exact W.iret (v := -1) hx hb hr (fun t ht hW => ⟨_, rfl, (by rw [moF, if_neg (fun h => t12 h.2)]), ht⟩) (fun _ h => by cases h) dX3_most_16
set_option maxHeartbeats 4000000 in
set_option maxRecDepth 100000 in
theorem c_X3_begin (l : Launch) (dC : Nat → ClassId) (dI : Nat → Nat → Nat) (cI : ClassId) (ad : Nat → Nat) (n a : Nat) (T H : Nat → Nat) (b : Nat) (R : Nat → Nat) (st : Int32) (O S : Nat → Int32) (sz : Nat) (x : Int32) (hI : st_I n a T H b R) (hst : st = 1 ∨ (st = 0 ∧ O = pg_all n a b T H R)) : Met l yX3_begin (wq yX3_begin cX3_begin 2 (some .boolean)) ({ frames := 1, cells := 0, slots := 0, locals := 21 }) (mu_P (dC, dI) classes [(cI, .int)] (cw ad cI n a T H b R st O S) sz [.ref (ad 0), .int x]) (va_Qi (fun (r : Int32) (u : Int32) => r = (bgF x n a b).1 ∧ (u = 1 ∨ (u = 0 ∧ O = pg_all (bgF x n a b).2.1 (bgF x n a b).2.2.1 (bgF x n a b).2.2.2 T H R))) (mu_B (dC, dI) classes [(cI, .int)] (cw ad cI n a T H b R st O S) sz (fun u => cw ad cI (bgF x n a b).2.1 (bgF x n a b).2.2.1 T H (bgF x n a b).2.2.2 R u O S)) (va_A (cw ad cI n a T H b R st O S) sz)) 0 0 (va_A (cw ad cI n a T H b R st O S) sz) := by
  obtain ⟨n1, n7, a14, hT, hT2, hb3, hR3, hR⟩ := hI
  have p7 := bi_p7 n7
  have p0 := Nat.two_pow_pos n
  refine Met.ofW (cc := cX3_begin) (maxL := 2) (ret := (some .boolean)) (by decide) rfl ?_
  intro p e s m args below meth c s₁ B hml hv
  obtain ⟨rfl, hsz, hP, hK, hN, hD0⟩ := hv
  have hx := B.exec
  have hb := B.bytes
  have hr := B.returns
  have hlocks := B.notSynchronized
  have hts := atoms_spec (ws := (wq yX3_begin cX3_begin 2 (some .boolean))) B.pre
  have hw : ∀ w ∈ bigW, w.before _ s = true := fun w h => hts w (List.mem_cons_of_mem _ h)
  have hown : s.vm.findClass RX3 = some m.cls := findClass_of_methodNamed B.named
  subst hsz
  have hD := hD0.self (sz := s.heap.size)
  generalize hAe : va_A (cw ad cI n a T H b R st O S) s.heap.size = A at hD ⊢
  have hA : ∀ q : Nat, s.heap.size ≤ q → A q := fun q h => by rw [← hAe]; exact Or.inr h
  have hS : va_S A s.heap s.heap [] := va_S.rf
  have hl := lv_entry ([.ref (ad 0), .int x]) (n := 2) (Nat.le_of_ble_eq_true rfl)
  rw [lg_entry_eq]
  generalize (lg_sl ([.ref (ad 0), .int x]) ++ List.replicate (2 - (lg_sl ([.ref (ad 0), .int x])).length) Slot.unset).toArray = ls at hl ⊢
  have hl : lv_has ls 2 [(0, .ref (ad 0)), (1, .int x)] := hl
  refine lv_iload_n hx hb dX3_begin_0 rfl (lv_at hl 1 rfl) ?_
  refine lv_iconst (v := 1) hx hb dX3_begin_1 (by decide) ?_
  refine lv_icmp_lt (tgt := 11) hx hb dX3_begin_2 (by decide) (fun b2 => ?_) (fun b2 => ?_)
  -- if_icmplt at 2, t
  · refine lv_iconst (v := 0) hx hb dX3_begin_11 (by decide) ?_
    have e8 : bgF x n a b = (0, n, a, b) := if_neg (fun h => absurd h.1 (i_le_lt.mpr b2))
    have hP : va_P (dC, dI) classes (cw ad cI (bgF x n a b).2.1 (bgF x n a b).2.2.1 T H (bgF x n a b).2.2.2 R st O S) s.heap := by rw [e8]; exact hP
    have hD : va_D A (cw ad cI (bgF x n a b).2.1 (bgF x n a b).2.2.1 T H (bgF x n a b).2.2.2 R st O S) := by rw [e8]; exact hD
    exact W.zret (v := 0) hx hb hr rfl (fun t ht hW => ⟨⟨_, st, rfl, ⟨by rw [e8], by rw [e8]; exact hst⟩, by rw [ht]; exact hP, va_K.moved hW.alike hK, by rw [hAe]; exact hD⟩, hS.F ht⟩) hS.2.2 dX3_begin_12
  -- if_icmplt at 2, f
  · refine lv_iload_n hx hb dX3_begin_5 rfl (lv_at hl 1 rfl) ?_
    refine lv_bipush (v := 7) hx hb dX3_begin_6 (by decide) ?_
    refine lv_icmp_le (tgt := 13) hx hb dX3_begin_8 (by decide) (fun b8 => ?_) (fun b8 => ?_)
    -- if_icmple at 8, t
    · have hv1 := i_lt_le.mp b2
      obtain ⟨v, hv, rfl⟩ := nI_of2 (x := x) (M := 7) (n := 7) (by decide) (i_lt_le.mpr (Int32.le_trans (by decide) hv1)) b8
      replace hv1 : 1 ≤ v := (nI_leI (a := 1) (by omega) (by omega)).mp hv1
      refine lv_aload_n hx hb dX3_begin_13 rfl (lv_at hl 0 rfl) ?_
      refine va_get (D := (dC, dI)) (ci := 3) (v := .ref (ad 1)) (C := RX3) (T := TX3) (N := 3) hx hb hw in_X3 hown hK hP 0 rfl rfl 0 (by decide) (hw _ mq_fl_X3_10) (fun _ h9 => h9) rfl dX3_begin_14 ?_
      refine lv_iload_n hx hb dX3_begin_17 rfl (lv_at hl 1 rfl) ?_
      refine mu_Vv (As := [.int (nI v)]) (rest := []) (b := ad 1) ⟨hx, hb, hml, hown, hts⟩ (c_X1_restart l dC dI cI ad n a T H b R st O S _ v) (cwV 1 hts (bw_V mq_ml_X3_30 mq_im_X1_restart mq_se_X1_restart mq_in_X1 mq_co_X1_restart) rfl rfl rfl (by decide +kernel) ⟨Nat.le_of_ble_eq_true rfl, Nat.le_of_ble_eq_true rfl⟩) hP hK hN hD hS hA 1 rfl rfl rfl hl.1 rfl (Nat.le_of_ble_eq_true rfl) dX3_begin_18 ⟨Nat.zero_le _, Nat.zero_le _⟩ (fun u9 Hp locs h9 hP hD hS => ?_)
      have hP : va_P (dC, dI) classes (cw ad cI v 0 T H b R st O S) Hp := hP
      have hD : va_D A (cw ad cI v 0 T H b R st O S) := hD
      refine lv_aload_n hx hb dX3_begin_21 rfl (lv_at hl 0 rfl) ?_
      refine va_get (D := (dC, dI)) (ci := 3) (v := .ref (ad 4)) (C := RX3) (T := TX3) (N := 3) hx hb hw in_X3 hown hK hP 0 rfl rfl 1 (by decide) (hw _ mq_fl_X3_19) (fun _ h9 => h9) rfl dX3_begin_22 ?_
      refine lv_iconst (v := nI 0) hx hb dX3_begin_25 (by decide) ?_
      refine va_putN (D := (dC, dI)) (ci := 0) (v := .int (nI 0)) (ty := .int) (C := RX0) (T := TX0) (N := 2) hx hb hw in_X0 tyX0 tyX0_ok nmX0 hown hK hP hD hS 4 rfl rfl 1 (by decide) (nf_X3_34 hN) (fun _ h9 => h9) rfl (by decide +kernel) rfl rfl (Nat.le_of_ble_eq_true rfl) dX3_begin_26 (fun Hp locs hP hD hS => ?_)
      have hP : va_P (dC, dI) classes (cw ad cI v 0 T H 0 R st O S) Hp := hP
      have hD : va_D A (cw ad cI v 0 T H 0 R st O S) := hD
      refine lv_aload_n hx hb dX3_begin_29 rfl (lv_at hl 0 rfl) ?_
      refine va_get (D := (dC, dI)) (ci := 3) (v := .ref (ad 6)) (C := RX3) (T := TX3) (N := 3) hx hb hw in_X3 hown hK hP 0 rfl rfl 2 (by decide) (hw _ mq_fl_X3_26) (fun _ h9 => h9) rfl dX3_begin_30 ?_
      refine lv_iconst (v := 1) hx hb dX3_begin_33 (by decide) ?_
      refine va_putN (D := (dC, dI)) (ci := 2) (v := .int 1) (ty := .boolean) (C := RX2) (T := TX2) (N := 3) hx hb hw in_X2 tyX2 tyX2_ok nmX2 hown hK hP hD hS 6 rfl rfl 2 (by decide) (nf_X3_38 hN) (fun _ h9 => h9) rfl (by decide +kernel) rfl rfl (Nat.le_of_ble_eq_true rfl) dX3_begin_34 (fun Hp locs hP hD hS => ?_)
      have hP : va_P (dC, dI) classes (cw ad cI v 0 T H 0 R 1 O S) Hp := hP
      have hD : va_D A (cw ad cI v 0 T H 0 R 1 O S) := hD
      refine lv_iconst (v := 1) hx hb dX3_begin_37 (by decide) ?_
      have e8 : bgF (nI v) n a b = (1, v, 0, 0) := by rw [bgF, if_pos ⟨nI_le (a := 1) hv1 (by omega), nI_le (b := 7) hv (by omega)⟩, nI_clamp (by omega)]
      have hP : va_P (dC, dI) classes (cw ad cI (bgF (nI v) n a b).2.1 (bgF (nI v) n a b).2.2.1 T H (bgF (nI v) n a b).2.2.2 R 1 O S) Hp := by rw [e8]; exact hP
      have hD : va_D A (cw ad cI (bgF (nI v) n a b).2.1 (bgF (nI v) n a b).2.2.1 T H (bgF (nI v) n a b).2.2.2 R 1 O S) := by rw [e8]; exact hD
      exact W.zret (v := 1) hx hb hr rfl (fun t ht hW => ⟨⟨_, 1, rfl, ⟨by rw [e8], Or.inl rfl⟩, by rw [ht]; exact hP, va_K.moved hW.alike hK, by rw [hAe]; exact hD⟩, hS.F ht⟩) hS.2.2 dX3_begin_38
    -- if_icmple at 8, f
    · refine lv_iconst (v := 0) hx hb dX3_begin_11 (by decide) ?_
      have e8 : bgF x n a b = (0, n, a, b) := if_neg (fun h => absurd h.2 b8)
      have hP : va_P (dC, dI) classes (cw ad cI (bgF x n a b).2.1 (bgF x n a b).2.2.1 T H (bgF x n a b).2.2.2 R st O S) s.heap := by rw [e8]; exact hP
      have hD : va_D A (cw ad cI (bgF x n a b).2.1 (bgF x n a b).2.2.1 T H (bgF x n a b).2.2.2 R st O S) := by rw [e8]; exact hD
      exact W.zret (v := 0) hx hb hr rfl (fun t ht hW => ⟨⟨_, st, rfl, ⟨by rw [e8], by rw [e8]; exact hst⟩, by rw [ht]; exact hP, va_K.moved hW.alike hK, by rw [hAe]; exact hD⟩, hS.F ht⟩) hS.2.2 dX3_begin_12
set_option maxHeartbeats 4000000 in
set_option maxRecDepth 100000 in
theorem c_X3_arc (l : Launch) (dC : Nat → ClassId) (dI : Nat → Nat → Nat) (cI : ClassId) (ad : Nat → Nat) (n a : Nat) (T H : Nat → Nat) (b : Nat) (R : Nat → Nat) (st : Int32) (O S : Nat → Int32) (sz : Nat) (x y : Int32) (hI : st_I n a T H b R) (hst : st = 1 ∨ (st = 0 ∧ O = pg_all n a b T H R)) : Met l yX3_arc (wq yX3_arc cX3_arc 3 (some .int)) ({ frames := 1, cells := 0, slots := 0, locals := 22 }) (mu_P (dC, dI) classes [(cI, .int)] (cw ad cI n a T H b R st O S) sz [.ref (ad 0), .int x, .int y]) (va_Qi (fun (r : Int32) (u : Int32) => r = (arF n a T H x y).1 ∧ (u = 1 ∨ (u = 0 ∧ O = pg_all n (arF n a T H x y).2.1 b (arF n a T H x y).2.2.1 (arF n a T H x y).2.2.2 R))) (mu_B (dC, dI) classes [(cI, .int)] (cw ad cI n a T H b R st O S) sz (fun u => cw ad cI n (arF n a T H x y).2.1 (arF n a T H x y).2.2.1 (arF n a T H x y).2.2.2 b R u O S)) (va_A (cw ad cI n a T H b R st O S) sz)) 0 0 (va_A (cw ad cI n a T H b R st O S) sz) := by
  obtain ⟨n1, n7, a14, hT, hT2, hb3, hR3, hR⟩ := hI
  have p7 := bi_p7 n7
  have p0 := Nat.two_pow_pos n
  refine Met.ofW (cc := cX3_arc) (maxL := 3) (ret := (some .int)) (by decide) rfl ?_
  intro p e s m args below meth c s₁ B hml hv
  obtain ⟨rfl, hsz, hP, hK, hN, hD0⟩ := hv
  have hx := B.exec
  have hb := B.bytes
  have hr := B.returns
  have hlocks := B.notSynchronized
  have hts := atoms_spec (ws := (wq yX3_arc cX3_arc 3 (some .int))) B.pre
  have hw : ∀ w ∈ bigW, w.before _ s = true := fun w h => hts w (List.mem_cons_of_mem _ h)
  have hown : s.vm.findClass RX3 = some m.cls := findClass_of_methodNamed B.named
  subst hsz
  have hD := hD0.self (sz := s.heap.size)
  generalize hAe : va_A (cw ad cI n a T H b R st O S) s.heap.size = A at hD ⊢
  have hA : ∀ q : Nat, s.heap.size ≤ q → A q := fun q h => by rw [← hAe]; exact Or.inr h
  have hS : va_S A s.heap s.heap [] := va_S.rf
  have hl := lv_entry ([.ref (ad 0), .int x, .int y]) (n := 3) (Nat.le_of_ble_eq_true rfl)
  rw [lg_entry_eq]
  generalize (lg_sl ([.ref (ad 0), .int x, .int y]) ++ List.replicate (3 - (lg_sl ([.ref (ad 0), .int x, .int y])).length) Slot.unset).toArray = ls at hl ⊢
  have hl : lv_has ls 3 [(0, .ref (ad 0)), (1, .int x), (2, .int y)] := hl
  refine lv_aload_n hx hb dX3_arc_0 rfl (lv_at hl 0 rfl) ?_
  refine va_get (D := (dC, dI)) (ci := 3) (v := .ref (ad 1)) (C := RX3) (T := TX3) (N := 3) hx hb hw in_X3 hown hK hP 0 rfl rfl 0 (by decide) (hw _ mq_fl_X3_10) (fun _ h9 => h9) rfl dX3_arc_1 ?_
  refine va_getN (D := (dC, dI)) (ci := 1) (v := .int (nI a)) (C := RX1) (T := TX1) (N := 4) hx hb hw in_X1 hown hK hP 1 rfl rfl 3 (by decide) (nf_X3_42 hN) (fun _ h9 => h9) rfl dX3_arc_4 ?_
  refine lv_bipush (v := nI 14) hx hb dX3_arc_7 (by decide) ?_
  refine lv_icmp_ge (tgt := 39) hx hb dX3_arc_9 (by decide) (fun b9 => ?_) (fun b9 => ?_)
  -- if_icmpge at 9, t
  · have t9 := (nI_leI (by omega) (by omega)).mp b9
    refine lv_iconst (v := -1) hx hb dX3_arc_39 (by decide) ?_
    have e8 : arF n a T H x y = (-1, a, T, H) := if_neg (fun h => absurd h.1 (by omega))
    have hP : va_P (dC, dI) classes (cw ad cI n (arF n a T H x y).2.1 (arF n a T H x y).2.2.1 (arF n a T H x y).2.2.2 b R st O S) s.heap := by rw [e8]; exact hP
    have hD : va_D A (cw ad cI n (arF n a T H x y).2.1 (arF n a T H x y).2.2.1 (arF n a T H x y).2.2.2 b R st O S) := by rw [e8]; exact hD
    exact W.iret (v := -1) hx hb hr (fun t ht hW => ⟨⟨_, st, rfl, ⟨by rw [e8], by rw [e8]; exact hst⟩, by rw [ht]; exact hP, va_K.moved hW.alike hK, by rw [hAe]; exact hD⟩, hS.F ht⟩) hS.2.2 dX3_arc_40
  -- if_icmpge at 9, f
  · have t9 : a < 14 := Nat.lt_of_not_le (fun z => b9 (nI_le z (by omega)))
    refine lv_aload_n hx hb dX3_arc_12 rfl (lv_at hl 0 rfl) ?_
    refine va_get (D := (dC, dI)) (ci := 3) (v := .ref (ad 1)) (C := RX3) (T := TX3) (N := 3) hx hb hw in_X3 hown hK hP 0 rfl rfl 0 (by decide) (hw _ mq_fl_X3_10) (fun _ h9 => h9) rfl dX3_arc_13 ?_
    refine lv_iload_n hx hb dX3_arc_16 rfl (lv_at hl 1 rfl) ?_
    refine ro_V (As := [.int x]) (rest := []) (b := ad 1) ⟨hx, hb, hml, hown, hts⟩ (c_X1_hasVertex l dC dI cI ad n a T H b R st O S x) (cwV 1 hts (bw_V mq_ml_X3_45 mq_im_X1_hasVertex mq_se_X1_hasVertex mq_in_X1 mq_co_X1_hasVertex) rfl rfl rfl (by decide +kernel) ⟨Nat.le_of_ble_eq_true rfl, Nat.le_of_ble_eq_true rfl⟩) hP hK hN 1 rfl rfl rfl hl.1 rfl (Nat.le_of_ble_eq_true rfl) dX3_arc_17 ⟨Nat.zero_le _, Nat.zero_le _⟩ (fun r9 h9 => ?_)
    obtain rfl : r9 = nI (ed_b (decide (0 ≤ x ∧ x < nI n))) := h9
    refine lv_if_eq (tgt := 39) hx hb dX3_arc_20 (by decide) (fun b20 => ?_) (fun b20 => ?_)
    -- ifeq at 20, t
    · have t20 := decide_eq_false_iff_not.mp (zb_0.mp b20)
      refine lv_iconst (v := -1) hx hb dX3_arc_39 (by decide) ?_
      have e8 : arF n a T H x y = (-1, a, T, H) := if_neg (fun h => t20 h.2.1)
      have hP : va_P (dC, dI) classes (cw ad cI n (arF n a T H x y).2.1 (arF n a T H x y).2.2.1 (arF n a T H x y).2.2.2 b R st O S) s.heap := by rw [e8]; exact hP
      have hD : va_D A (cw ad cI n (arF n a T H x y).2.1 (arF n a T H x y).2.2.1 (arF n a T H x y).2.2.2 b R st O S) := by rw [e8]; exact hD
      exact W.iret (v := -1) hx hb hr (fun t ht hW => ⟨⟨_, st, rfl, ⟨by rw [e8], by rw [e8]; exact hst⟩, by rw [ht]; exact hP, va_K.moved hW.alike hK, by rw [hAe]; exact hD⟩, hS.F ht⟩) hS.2.2 dX3_arc_40
    -- ifeq at 20, f
    · have t20 := decide_eq_true_eq.mp (zb_n0.mp b20)
      refine lv_aload_n hx hb dX3_arc_23 rfl (lv_at hl 0 rfl) ?_
      refine va_get (D := (dC, dI)) (ci := 3) (v := .ref (ad 1)) (C := RX3) (T := TX3) (N := 3) hx hb hw in_X3 hown hK hP 0 rfl rfl 0 (by decide) (hw _ mq_fl_X3_10) (fun _ h9 => h9) rfl dX3_arc_24 ?_
      refine lv_iload_n hx hb dX3_arc_27 rfl (lv_at hl 2 rfl) ?_
      refine ro_V (As := [.int y]) (rest := []) (b := ad 1) ⟨hx, hb, hml, hown, hts⟩ (c_X1_hasVertex l dC dI cI ad n a T H b R st O S y) (cwV 1 hts (bw_V mq_ml_X3_45 mq_im_X1_hasVertex mq_se_X1_hasVertex mq_in_X1 mq_co_X1_hasVertex) rfl rfl rfl (by decide +kernel) ⟨Nat.le_of_ble_eq_true rfl, Nat.le_of_ble_eq_true rfl⟩) hP hK hN 1 rfl rfl rfl hl.1 rfl (Nat.le_of_ble_eq_true rfl) dX3_arc_28 ⟨Nat.zero_le _, Nat.zero_le _⟩ (fun r9 h9 => ?_)
      obtain rfl : r9 = nI (ed_b (decide (0 ≤ y ∧ y < nI n))) := h9
      refine lv_if_eq (tgt := 39) hx hb dX3_arc_31 (by decide) (fun b31 => ?_) (fun b31 => ?_)
      -- ifeq at 31, t
      · have t31 := decide_eq_false_iff_not.mp (zb_0.mp b31)
        refine lv_iconst (v := -1) hx hb dX3_arc_39 (by decide) ?_
        have e8 : arF n a T H x y = (-1, a, T, H) := if_neg (fun h => t31 h.2.2.1)
        have hP : va_P (dC, dI) classes (cw ad cI n (arF n a T H x y).2.1 (arF n a T H x y).2.2.1 (arF n a T H x y).2.2.2 b R st O S) s.heap := by rw [e8]; exact hP
        have hD : va_D A (cw ad cI n (arF n a T H x y).2.1 (arF n a T H x y).2.2.1 (arF n a T H x y).2.2.2 b R st O S) := by rw [e8]; exact hD
        exact W.iret (v := -1) hx hb hr (fun t ht hW => ⟨⟨_, st, rfl, ⟨by rw [e8], by rw [e8]; exact hst⟩, by rw [ht]; exact hP, va_K.moved hW.alike hK, by rw [hAe]; exact hD⟩, hS.F ht⟩) hS.2.2 dX3_arc_40
      -- ifeq at 31, f
      · have t31 := decide_eq_true_eq.mp (zb_n0.mp b31)
        refine lv_iload_n hx hb dX3_arc_34 rfl (lv_at hl 1 rfl) ?_
        refine lv_iload_n hx hb dX3_arc_35 rfl (lv_at hl 2 rfl) ?_
        refine lv_icmp_ne (tgt := 41) hx hb dX3_arc_36 (by decide) (fun b36 => ?_) (fun b36 => ?_)
        -- if_icmpne at 36, t
        · obtain ⟨j, hj, rfl⟩ := is_in_of t20 (by omega)
          obtain ⟨k, hk, rfl⟩ := is_in_of t31 (by omega)
          refine lv_aload_n hx hb dX3_arc_41 rfl (lv_at hl 0 rfl) ?_
          refine va_get (D := (dC, dI)) (ci := 3) (v := .ref (ad 1)) (C := RX3) (T := TX3) (N := 3) hx hb hw in_X3 hown hK hP 0 rfl rfl 0 (by decide) (hw _ mq_fl_X3_10) (fun _ h9 => h9) rfl dX3_arc_42 ?_
          refine lv_iload_n hx hb dX3_arc_45 rfl (lv_at hl 1 rfl) ?_
          refine lv_iload_n hx hb dX3_arc_46 rfl (lv_at hl 2 rfl) ?_
          refine mu_Vv (As := [.int (nI j), .int (nI k)]) (rest := []) (b := ad 1) ⟨hx, hb, hml, hown, hts⟩ (c_X1_addArc l dC dI cI ad n a T H b R st O S _ j k t9) (cwV 2 hts (bw_V mq_ml_X3_49 mq_im_X1_addArc mq_se_X1_addArc mq_in_X1 mq_co_X1_addArc) rfl rfl rfl (by decide +kernel) ⟨Nat.le_of_ble_eq_true rfl, Nat.le_of_ble_eq_true rfl⟩) hP hK hN hD hS hA 1 rfl rfl rfl hl.1 rfl (Nat.le_of_ble_eq_true rfl) dX3_arc_47 ⟨Nat.zero_le _, Nat.zero_le _⟩ (fun u9 Hp locs h9 hP hD hS => ?_)
          have hP : va_P (dC, dI) classes (cw ad cI n (a + 1) (up T a j) (up H a k) b R st O S) Hp := hP
          have hD : va_D A (cw ad cI n (a + 1) (up T a j) (up H a k) b R st O S) := hD
          refine lv_aload_n hx hb dX3_arc_50 rfl (lv_at hl 0 rfl) ?_
          refine va_get (D := (dC, dI)) (ci := 3) (v := .ref (ad 6)) (C := RX3) (T := TX3) (N := 3) hx hb hw in_X3 hown hK hP 0 rfl rfl 2 (by decide) (hw _ mq_fl_X3_26) (fun _ h9 => h9) rfl dX3_arc_51 ?_
          refine lv_iconst (v := 1) hx hb dX3_arc_54 (by decide) ?_
          refine va_putN (D := (dC, dI)) (ci := 2) (v := .int 1) (ty := .boolean) (C := RX2) (T := TX2) (N := 3) hx hb hw in_X2 tyX2 tyX2_ok nmX2 hown hK hP hD hS 6 rfl rfl 2 (by decide) (nf_X3_38 hN) (fun _ h9 => h9) rfl (by decide +kernel) rfl rfl (Nat.le_of_ble_eq_true rfl) dX3_arc_55 (fun Hp locs hP hD hS => ?_)
          have hP : va_P (dC, dI) classes (cw ad cI n (a + 1) (up T a j) (up H a k) b R 1 O S) Hp := hP
          have hD : va_D A (cw ad cI n (a + 1) (up T a j) (up H a k) b R 1 O S) := hD
          refine lv_aload_n hx hb dX3_arc_58 rfl (lv_at hl 0 rfl) ?_
          refine va_get (D := (dC, dI)) (ci := 3) (v := .ref (ad 1)) (C := RX3) (T := TX3) (N := 3) hx hb hw in_X3 hown hK hP 0 rfl rfl 0 (by decide) (hw _ mq_fl_X3_10) (fun _ h9 => h9) rfl dX3_arc_59 ?_
          refine va_getN (D := (dC, dI)) (ci := 1) (v := .int (nI (a + 1))) (C := RX1) (T := TX1) (N := 4) hx hb hw in_X1 hown hK hP 1 rfl rfl 3 (by decide) (nf_X3_42 hN) (fun _ h9 => h9) rfl dX3_arc_62 ?_
          refine lv_iconst (v := 1) hx hb dX3_arc_65 (by decide) ?_
          refine lv_isub hx hb dX3_arc_66 ?_
          refine lv_topi (fun z9 e9 => ?_)
          obtain rfl : z9 = nI a := e9.trans (nI_pred a)
          have e8 : arF n a T H (nI j) (nI k) = (nI a, a + 1, up T a j, up H a k) := by rw [arF, if_pos ⟨t9, t20, t31, b36⟩, nI_clamp (by omega), nI_clamp (by omega)]
          have hP : va_P (dC, dI) classes (cw ad cI n (arF n a T H (nI j) (nI k)).2.1 (arF n a T H (nI j) (nI k)).2.2.1 (arF n a T H (nI j) (nI k)).2.2.2 b R 1 O S) Hp := by rw [e8]; exact hP
          have hD : va_D A (cw ad cI n (arF n a T H (nI j) (nI k)).2.1 (arF n a T H (nI j) (nI k)).2.2.1 (arF n a T H (nI j) (nI k)).2.2.2 b R 1 O S) := by rw [e8]; exact hD
          exact W.iret (v := nI a) hx hb hr (fun t ht hW => ⟨⟨_, 1, rfl, ⟨by rw [e8], Or.inl rfl⟩, by rw [ht]; exact hP, va_K.moved hW.alike hK, by rw [hAe]; exact hD⟩, hS.F ht⟩) hS.2.2 dX3_arc_67
        -- if_icmpne at 36, f
        · refine lv_iconst (v := -1) hx hb dX3_arc_39 (by decide) ?_
          have e8 : arF n a T H x y = (-1, a, T, H) := if_neg (fun h => h.2.2.2 b36)
          have hP : va_P (dC, dI) classes (cw ad cI n (arF n a T H x y).2.1 (arF n a T H x y).2.2.1 (arF n a T H x y).2.2.2 b R st O S) s.heap := by rw [e8]; exact hP
          have hD : va_D A (cw ad cI n (arF n a T H x y).2.1 (arF n a T H x y).2.2.1 (arF n a T H x y).2.2.2 b R st O S) := by rw [e8]; exact hD
          exact W.iret (v := -1) hx hb hr (fun t ht hW => ⟨⟨_, st, rfl, ⟨by rw [e8], by rw [e8]; exact hst⟩, by rw [ht]; exact hP, va_K.moved hW.alike hK, by rw [hAe]; exact hD⟩, hS.F ht⟩) hS.2.2 dX3_arc_40
set_option maxHeartbeats 4000000 in
set_option maxRecDepth 100000 in
theorem c_X3_drop (l : Launch) (dC : Nat → ClassId) (dI : Nat → Nat → Nat) (cI : ClassId) (ad : Nat → Nat) (n a : Nat) (T H : Nat → Nat) (b : Nat) (R : Nat → Nat) (st : Int32) (O S : Nat → Int32) (sz : Nat) (x : Int32) (hI : st_I n a T H b R) (hst : st = 1 ∨ (st = 0 ∧ O = pg_all n a b T H R)) : Met l yX3_drop (wq yX3_drop cX3_drop 2 (some .boolean)) ({ frames := 1, cells := 0, slots := 0, locals := 22 }) (mu_P (dC, dI) classes [(cI, .int)] (cw ad cI n a T H b R st O S) sz [.ref (ad 0), .int x]) (va_Qi (fun (r : Int32) (u : Int32) => r = (drF a T H x).1 ∧ (u = 1 ∨ (u = 0 ∧ O = pg_all n (drF a T H x).2.1 b (drF a T H x).2.2.1 (drF a T H x).2.2.2 R))) (mu_B (dC, dI) classes [(cI, .int)] (cw ad cI n a T H b R st O S) sz (fun u => cw ad cI n (drF a T H x).2.1 (drF a T H x).2.2.1 (drF a T H x).2.2.2 b R u O S)) (va_A (cw ad cI n a T H b R st O S) sz)) 0 0 (va_A (cw ad cI n a T H b R st O S) sz) := by
  obtain ⟨n1, n7, a14, hT, hT2, hb3, hR3, hR⟩ := hI
  have p7 := bi_p7 n7
  have p0 := Nat.two_pow_pos n
  refine Met.ofW (cc := cX3_drop) (maxL := 2) (ret := (some .boolean)) (by decide) rfl ?_
  intro p e s m args below meth c s₁ B hml hv
  obtain ⟨rfl, hsz, hP, hK, hN, hD0⟩ := hv
  have hx := B.exec
  have hb := B.bytes
  have hr := B.returns
  have hlocks := B.notSynchronized
  have hts := atoms_spec (ws := (wq yX3_drop cX3_drop 2 (some .boolean))) B.pre
  have hw : ∀ w ∈ bigW, w.before _ s = true := fun w h => hts w (List.mem_cons_of_mem _ h)
  have hown : s.vm.findClass RX3 = some m.cls := findClass_of_methodNamed B.named
  subst hsz
  have hD := hD0.self (sz := s.heap.size)
  generalize hAe : va_A (cw ad cI n a T H b R st O S) s.heap.size = A at hD ⊢
  have hA : ∀ q : Nat, s.heap.size ≤ q → A q := fun q h => by rw [← hAe]; exact Or.inr h
  have hS : va_S A s.heap s.heap [] := va_S.rf
  have hl := lv_entry ([.ref (ad 0), .int x]) (n := 2) (Nat.le_of_ble_eq_true rfl)
  rw [lg_entry_eq]
  generalize (lg_sl ([.ref (ad 0), .int x]) ++ List.replicate (2 - (lg_sl ([.ref (ad 0), .int x])).length) Slot.unset).toArray = ls at hl ⊢
  have hl : lv_has ls 2 [(0, .ref (ad 0)), (1, .int x)] := hl
  refine lv_aload_n hx hb dX3_drop_0 rfl (lv_at hl 0 rfl) ?_
  refine va_get (D := (dC, dI)) (ci := 3) (v := .ref (ad 1)) (C := RX3) (T := TX3) (N := 3) hx hb hw in_X3 hown hK hP 0 rfl rfl 0 (by decide) (hw _ mq_fl_X3_10) (fun _ h9 => h9) rfl dX3_drop_1 ?_
  refine lv_iload_n hx hb dX3_drop_4 rfl (lv_at hl 1 rfl) ?_
  refine ro_V (As := [.int x]) (rest := []) (b := ad 1) ⟨hx, hb, hml, hown, hts⟩ (c_X1_hasArc l dC dI cI ad n a T H b R st O S x) (cwV 1 hts (bw_V mq_ml_X3_53 mq_im_X1_hasArc mq_se_X1_hasArc mq_in_X1 mq_co_X1_hasArc) rfl rfl rfl (by decide +kernel) ⟨Nat.le_of_ble_eq_true rfl, Nat.le_of_ble_eq_true rfl⟩) hP hK hN 1 rfl rfl rfl hl.1 rfl (Nat.le_of_ble_eq_true rfl) dX3_drop_5 ⟨Nat.zero_le _, Nat.zero_le _⟩ (fun r9 h9 => ?_)
  obtain rfl : r9 = nI (ed_b (decide (0 ≤ x ∧ x < nI a))) := h9
  refine lv_if_ne (tgt := 13) hx hb dX3_drop_8 (by decide) (fun b8 => ?_) (fun b8 => ?_)
  -- ifne at 8, t
  · have t8 := decide_eq_true_eq.mp (zb_n0.mp b8)
    obtain ⟨j, hj, rfl⟩ := is_in_of t8 (by omega)
    refine lv_aload_n hx hb dX3_drop_13 rfl (lv_at hl 0 rfl) ?_
    refine va_get (D := (dC, dI)) (ci := 3) (v := .ref (ad 1)) (C := RX3) (T := TX3) (N := 3) hx hb hw in_X3 hown hK hP 0 rfl rfl 0 (by decide) (hw _ mq_fl_X3_10) (fun _ h9 => h9) rfl dX3_drop_14 ?_
    refine lv_iload_n hx hb dX3_drop_17 rfl (lv_at hl 1 rfl) ?_
    refine mu_Vv (As := [.int (nI j)]) (rest := []) (b := ad 1) ⟨hx, hb, hml, hown, hts⟩ (c_X1_removeArc l dC dI cI ad n a T H b R st O S _ j hj a14) (cwV 1 hts (bw_V mq_ml_X3_56 mq_im_X1_removeArc mq_se_X1_removeArc mq_in_X1 mq_co_X1_removeArc) rfl rfl rfl (by decide +kernel) ⟨Nat.le_of_ble_eq_true rfl, Nat.le_of_ble_eq_true rfl⟩) hP hK hN hD hS hA 1 rfl rfl rfl hl.1 rfl (Nat.le_of_ble_eq_true rfl) dX3_drop_18 ⟨Nat.zero_le _, Nat.zero_le _⟩ (fun u9 Hp locs h9 hP hD hS => ?_)
    have hP : va_P (dC, dI) classes (cw ad cI n (a - 1) (rm_f T j (a - 1)) (rm_f H j (a - 1)) b R st O S) Hp := hP
    have hD : va_D A (cw ad cI n (a - 1) (rm_f T j (a - 1)) (rm_f H j (a - 1)) b R st O S) := hD
    refine lv_aload_n hx hb dX3_drop_21 rfl (lv_at hl 0 rfl) ?_
    refine va_get (D := (dC, dI)) (ci := 3) (v := .ref (ad 6)) (C := RX3) (T := TX3) (N := 3) hx hb hw in_X3 hown hK hP 0 rfl rfl 2 (by decide) (hw _ mq_fl_X3_26) (fun _ h9 => h9) rfl dX3_drop_22 ?_
    refine lv_iconst (v := 1) hx hb dX3_drop_25 (by decide) ?_
    refine va_putN (D := (dC, dI)) (ci := 2) (v := .int 1) (ty := .boolean) (C := RX2) (T := TX2) (N := 3) hx hb hw in_X2 tyX2 tyX2_ok nmX2 hown hK hP hD hS 6 rfl rfl 2 (by decide) (nf_X3_38 hN) (fun _ h9 => h9) rfl (by decide +kernel) rfl rfl (Nat.le_of_ble_eq_true rfl) dX3_drop_26 (fun Hp locs hP hD hS => ?_)
    have hP : va_P (dC, dI) classes (cw ad cI n (a - 1) (rm_f T j (a - 1)) (rm_f H j (a - 1)) b R 1 O S) Hp := hP
    have hD : va_D A (cw ad cI n (a - 1) (rm_f T j (a - 1)) (rm_f H j (a - 1)) b R 1 O S) := hD
    refine lv_iconst (v := 1) hx hb dX3_drop_29 (by decide) ?_
    have e8 : drF a T H (nI j) = (1, a - 1, rm_f T j (a - 1), rm_f H j (a - 1)) := by rw [drF, if_pos t8, nI_clamp (by omega)]
    have hP : va_P (dC, dI) classes (cw ad cI n (drF a T H (nI j)).2.1 (drF a T H (nI j)).2.2.1 (drF a T H (nI j)).2.2.2 b R 1 O S) Hp := by rw [e8]; exact hP
    have hD : va_D A (cw ad cI n (drF a T H (nI j)).2.1 (drF a T H (nI j)).2.2.1 (drF a T H (nI j)).2.2.2 b R 1 O S) := by rw [e8]; exact hD
    exact W.zret (v := 1) hx hb hr rfl (fun t ht hW => ⟨⟨_, 1, rfl, ⟨by rw [e8], Or.inl rfl⟩, by rw [ht]; exact hP, va_K.moved hW.alike hK, by rw [hAe]; exact hD⟩, hS.F ht⟩) hS.2.2 dX3_drop_30
  -- ifne at 8, f
  · have t8 := decide_eq_false_iff_not.mp (zb_0.mp b8)
    refine lv_iconst (v := 0) hx hb dX3_drop_11 (by decide) ?_
    have e8 : drF a T H x = (0, a, T, H) := if_neg t8
    have hP : va_P (dC, dI) classes (cw ad cI n (drF a T H x).2.1 (drF a T H x).2.2.1 (drF a T H x).2.2.2 b R st O S) s.heap := by rw [e8]; exact hP
    have hD : va_D A (cw ad cI n (drF a T H x).2.1 (drF a T H x).2.2.1 (drF a T H x).2.2.2 b R st O S) := by rw [e8]; exact hD
    exact W.zret (v := 0) hx hb hr rfl (fun t ht hW => ⟨⟨_, st, rfl, ⟨by rw [e8], by rw [e8]; exact hst⟩, by rw [ht]; exact hP, va_K.moved hW.alike hK, by rw [hAe]; exact hD⟩, hS.F ht⟩) hS.2.2 dX3_drop_12
set_option maxHeartbeats 4000000 in
set_option maxRecDepth 100000 in
theorem c_X3_plant (l : Launch) (dC : Nat → ClassId) (dI : Nat → Nat → Nat) (cI : ClassId) (ad : Nat → Nat) (n a : Nat) (T H : Nat → Nat) (b : Nat) (R : Nat → Nat) (st : Int32) (O S : Nat → Int32) (sz : Nat) (x : Int32) (hI : st_I n a T H b R) (hst : st = 1 ∨ (st = 0 ∧ O = pg_all n a b T H R)) : Met l yX3_plant (wq yX3_plant cX3_plant 2 (some .int)) ({ frames := 2, cells := 0, slots := 0, locals := 41 }) (mu_P (dC, dI) classes [(cI, .int)] (cw ad cI n a T H b R st O S) sz [.ref (ad 0), .int x]) (va_Qi (fun (r : Int32) (u : Int32) => r = (plF n b R x).1 ∧ (u = 1 ∨ (u = 0 ∧ O = pg_all n a (plF n b R x).2.1 T H (plF n b R x).2.2))) (mu_B (dC, dI) classes [(cI, .int)] (cw ad cI n a T H b R st O S) sz (fun u => cw ad cI n a T H (plF n b R x).2.1 (plF n b R x).2.2 u O S)) (va_A (cw ad cI n a T H b R st O S) sz)) 0 0 (va_A (cw ad cI n a T H b R st O S) sz) := by
  obtain ⟨n1, n7, a14, hT, hT2, hb3, hR3, hR⟩ := hI
  have p7 := bi_p7 n7
  have p0 := Nat.two_pow_pos n
  refine Met.ofW (cc := cX3_plant) (maxL := 2) (ret := (some .int)) (by decide) rfl ?_
  intro p e s m args below meth c s₁ B hml hv
  obtain ⟨rfl, hsz, hP, hK, hN, hD0⟩ := hv
  have hx := B.exec
  have hb := B.bytes
  have hr := B.returns
  have hlocks := B.notSynchronized
  have hts := atoms_spec (ws := (wq yX3_plant cX3_plant 2 (some .int))) B.pre
  have hw : ∀ w ∈ bigW, w.before _ s = true := fun w h => hts w (List.mem_cons_of_mem _ h)
  have hown : s.vm.findClass RX3 = some m.cls := findClass_of_methodNamed B.named
  subst hsz
  have hD := hD0.self (sz := s.heap.size)
  generalize hAe : va_A (cw ad cI n a T H b R st O S) s.heap.size = A at hD ⊢
  have hA : ∀ q : Nat, s.heap.size ≤ q → A q := fun q h => by rw [← hAe]; exact Or.inr h
  have hS : va_S A s.heap s.heap [] := va_S.rf
  have hl := lv_entry ([.ref (ad 0), .int x]) (n := 2) (Nat.le_of_ble_eq_true rfl)
  rw [lg_entry_eq]
  generalize (lg_sl ([.ref (ad 0), .int x]) ++ List.replicate (2 - (lg_sl ([.ref (ad 0), .int x])).length) Slot.unset).toArray = ls at hl ⊢
  have hl : lv_has ls 2 [(0, .ref (ad 0)), (1, .int x)] := hl
  refine lv_aload_n hx hb dX3_plant_0 rfl (lv_at hl 0 rfl) ?_
  refine va_get (D := (dC, dI)) (ci := 3) (v := .ref (ad 4)) (C := RX3) (T := TX3) (N := 3) hx hb hw in_X3 hown hK hP 0 rfl rfl 1 (by decide) (hw _ mq_fl_X3_19) (fun _ h9 => h9) rfl dX3_plant_1 ?_
  refine va_getN (D := (dC, dI)) (ci := 0) (v := .int (nI b)) (C := RX0) (T := TX0) (N := 2) hx hb hw in_X0 hown hK hP 4 rfl rfl 1 (by decide) (nf_X3_34 hN) (fun _ h9 => h9) rfl dX3_plant_4 ?_
  refine lv_iconst (v := nI 3) hx hb dX3_plant_7 (by decide) ?_
  refine lv_icmp_ge (tgt := 26) hx hb dX3_plant_8 (by decide) (fun b8 => ?_) (fun b8 => ?_)
  -- if_icmpge at 8, t
  · have t8 := (nI_leI (by omega) (by omega)).mp b8
    refine lv_iconst (v := -1) hx hb dX3_plant_26 (by decide) ?_
    have e8 : plF n b R x = (-1, b, R) := if_neg (fun h => absurd h.1 (by omega))
    have hP : va_P (dC, dI) classes (cw ad cI n a T H (plF n b R x).2.1 (plF n b R x).2.2 st O S) s.heap := by rw [e8]; exact hP
    have hD : va_D A (cw ad cI n a T H (plF n b R x).2.1 (plF n b R x).2.2 st O S) := by rw [e8]; exact hD
    exact W.iret (v := -1) hx hb hr (fun t ht hW => ⟨⟨_, st, rfl, ⟨by rw [e8], by rw [e8]; exact hst⟩, by rw [ht]; exact hP, va_K.moved hW.alike hK, by rw [hAe]; exact hD⟩, hS.F ht⟩) hS.2.2 dX3_plant_27
  -- if_icmpge at 8, f
  · have t8 : b < 3 := Nat.lt_of_not_le (fun z => b8 (nI_le z (by omega)))
    refine lv_iload_n hx hb dX3_plant_11 rfl (lv_at hl 1 rfl) ?_
    refine lv_if_eq (tgt := 26) hx hb dX3_plant_12 (by decide) (fun b12 => ?_) (fun b12 => ?_)
    -- ifeq at 12, t
    · refine lv_iconst (v := -1) hx hb dX3_plant_26 (by decide) ?_
      have e8 : plF n b R x = (-1, b, R) := if_neg (fun h => h.2.1 b12)
      have hP : va_P (dC, dI) classes (cw ad cI n a T H (plF n b R x).2.1 (plF n b R x).2.2 st O S) s.heap := by rw [e8]; exact hP
      have hD : va_D A (cw ad cI n a T H (plF n b R x).2.1 (plF n b R x).2.2 st O S) := by rw [e8]; exact hD
      exact W.iret (v := -1) hx hb hr (fun t ht hW => ⟨⟨_, st, rfl, ⟨by rw [e8], by rw [e8]; exact hst⟩, by rw [ht]; exact hP, va_K.moved hW.alike hK, by rw [hAe]; exact hD⟩, hS.F ht⟩) hS.2.2 dX3_plant_27
    -- ifeq at 12, f
    · refine lv_aload_n hx hb dX3_plant_15 rfl (lv_at hl 0 rfl) ?_
      refine va_get (D := (dC, dI)) (ci := 3) (v := .ref (ad 1)) (C := RX3) (T := TX3) (N := 3) hx hb hw in_X3 hown hK hP 0 rfl rfl 0 (by decide) (hw _ mq_fl_X3_10) (fun _ h9 => h9) rfl dX3_plant_16 ?_
      refine lv_iload_n hx hb dX3_plant_19 rfl (lv_at hl 1 rfl) ?_
      refine ro_V (As := [.int x]) (rest := []) (b := ad 1) ⟨hx, hb, hml, hown, hts⟩ (c_X1_hasSet l dC dI cI ad n a T H b R st O S n7 x) (cwV 1 hts (bw_V mq_ml_X3_59 mq_im_X1_hasSet mq_se_X1_hasSet mq_in_X1 mq_co_X1_hasSet) rfl rfl rfl (by decide +kernel) ⟨Nat.le_of_ble_eq_true rfl, Nat.le_of_ble_eq_true rfl⟩) hP hK hN 1 rfl rfl rfl hl.1 rfl (Nat.le_of_ble_eq_true rfl) dX3_plant_20 ⟨Nat.zero_le _, Nat.zero_le _⟩ (fun r9 h9 => ?_)
      obtain rfl : r9 = nI (ed_b (decide (0 ≤ x ∧ x ≤ nI (2 ^ n - 1)))) := h9
      refine lv_if_ne (tgt := 28) hx hb dX3_plant_23 (by decide) (fun b23 => ?_) (fun b23 => ?_)
      -- ifne at 23, t
      · have t23 := decide_eq_true_eq.mp (zb_n0.mp b23)
        obtain ⟨X, hX, rfl⟩ := is_in_of ((is_set_in n7).mp t23) (by omega)
        refine lv_aload_n hx hb dX3_plant_28 rfl (lv_at hl 0 rfl) ?_
        refine va_get (D := (dC, dI)) (ci := 3) (v := .ref (ad 4)) (C := RX3) (T := TX3) (N := 3) hx hb hw in_X3 hown hK hP 0 rfl rfl 1 (by decide) (hw _ mq_fl_X3_19) (fun _ h9 => h9) rfl dX3_plant_29 ?_
        refine lv_iload_n hx hb dX3_plant_32 rfl (lv_at hl 1 rfl) ?_
        refine mu_Vv (As := [.int (nI X)]) (rest := []) (b := ad 4) ⟨hx, hb, hml, hown, hts⟩ (c_X0_add l dC dI cI ad n a T H b R st O S _ X t8) (cwV 1 hts (bw_V mq_ml_X3_62 mq_im_X0_add mq_se_X0_add mq_in_X0 mq_co_X0_add) rfl rfl rfl (by decide +kernel) ⟨Nat.le_of_ble_eq_true rfl, Nat.le_of_ble_eq_true rfl⟩) hP hK hN hD hS hA 4 rfl rfl rfl hl.1 rfl (Nat.le_of_ble_eq_true rfl) dX3_plant_33 ⟨Nat.zero_le _, Nat.zero_le _⟩ (fun u9 Hp locs h9 hP hD hS => ?_)
        have hP : va_P (dC, dI) classes (cw ad cI n a T H (b + 1) (up R b X) st O S) Hp := hP
        have hD : va_D A (cw ad cI n a T H (b + 1) (up R b X) st O S) := hD
        refine lv_aload_n hx hb dX3_plant_36 rfl (lv_at hl 0 rfl) ?_
        refine va_get (D := (dC, dI)) (ci := 3) (v := .ref (ad 6)) (C := RX3) (T := TX3) (N := 3) hx hb hw in_X3 hown hK hP 0 rfl rfl 2 (by decide) (hw _ mq_fl_X3_26) (fun _ h9 => h9) rfl dX3_plant_37 ?_
        refine lv_iconst (v := 1) hx hb dX3_plant_40 (by decide) ?_
        refine va_putN (D := (dC, dI)) (ci := 2) (v := .int 1) (ty := .boolean) (C := RX2) (T := TX2) (N := 3) hx hb hw in_X2 tyX2 tyX2_ok nmX2 hown hK hP hD hS 6 rfl rfl 2 (by decide) (nf_X3_38 hN) (fun _ h9 => h9) rfl (by decide +kernel) rfl rfl (Nat.le_of_ble_eq_true rfl) dX3_plant_41 (fun Hp locs hP hD hS => ?_)
        have hP : va_P (dC, dI) classes (cw ad cI n a T H (b + 1) (up R b X) 1 O S) Hp := hP
        have hD : va_D A (cw ad cI n a T H (b + 1) (up R b X) 1 O S) := hD
        refine lv_aload_n hx hb dX3_plant_44 rfl (lv_at hl 0 rfl) ?_
        refine va_get (D := (dC, dI)) (ci := 3) (v := .ref (ad 4)) (C := RX3) (T := TX3) (N := 3) hx hb hw in_X3 hown hK hP 0 rfl rfl 1 (by decide) (hw _ mq_fl_X3_19) (fun _ h9 => h9) rfl dX3_plant_45 ?_
        refine va_getN (D := (dC, dI)) (ci := 0) (v := .int (nI (b + 1))) (C := RX0) (T := TX0) (N := 2) hx hb hw in_X0 hown hK hP 4 rfl rfl 1 (by decide) (nf_X3_34 hN) (fun _ h9 => h9) rfl dX3_plant_48 ?_
        refine lv_iconst (v := 1) hx hb dX3_plant_51 (by decide) ?_
        refine lv_isub hx hb dX3_plant_52 ?_
        refine lv_topi (fun z9 e9 => ?_)
        obtain rfl : z9 = nI b := e9.trans (nI_pred b)
        have e8 : plF n b R (nI X) = (nI b, b + 1, up R b X) := by rw [plF, if_pos ⟨t8, b12, t23⟩, nI_clamp (by omega)]
        have hP : va_P (dC, dI) classes (cw ad cI n a T H (plF n b R (nI X)).2.1 (plF n b R (nI X)).2.2 1 O S) Hp := by rw [e8]; exact hP
        have hD : va_D A (cw ad cI n a T H (plF n b R (nI X)).2.1 (plF n b R (nI X)).2.2 1 O S) := by rw [e8]; exact hD
        exact W.iret (v := nI b) hx hb hr (fun t ht hW => ⟨⟨_, 1, rfl, ⟨by rw [e8], Or.inl rfl⟩, by rw [ht]; exact hP, va_K.moved hW.alike hK, by rw [hAe]; exact hD⟩, hS.F ht⟩) hS.2.2 dX3_plant_53
      -- ifne at 23, f
      · have t23 := decide_eq_false_iff_not.mp (zb_0.mp b23)
        refine lv_iconst (v := -1) hx hb dX3_plant_26 (by decide) ?_
        have e8 : plF n b R x = (-1, b, R) := if_neg (fun h => t23 h.2.2)
        have hP : va_P (dC, dI) classes (cw ad cI n a T H (plF n b R x).2.1 (plF n b R x).2.2 st O S) s.heap := by rw [e8]; exact hP
        have hD : va_D A (cw ad cI n a T H (plF n b R x).2.1 (plF n b R x).2.2 st O S) := by rw [e8]; exact hD
        exact W.iret (v := -1) hx hb hr (fun t ht hW => ⟨⟨_, st, rfl, ⟨by rw [e8], by rw [e8]; exact hst⟩, by rw [ht]; exact hP, va_K.moved hW.alike hK, by rw [hAe]; exact hD⟩, hS.F ht⟩) hS.2.2 dX3_plant_27
set_option maxHeartbeats 4000000 in
set_option maxRecDepth 100000 in
theorem c_X3_fell (l : Launch) (dC : Nat → ClassId) (dI : Nat → Nat → Nat) (cI : ClassId) (ad : Nat → Nat) (n a : Nat) (T H : Nat → Nat) (b : Nat) (R : Nat → Nat) (st : Int32) (O S : Nat → Int32) (sz : Nat) (hI : st_I n a T H b R) (hst : st = 1 ∨ (st = 0 ∧ O = pg_all n a b T H R)) : Met l yX3_fell (wq yX3_fell cX3_fell 1 (some .int)) ({ frames := 0, cells := 0, slots := 0, locals := 0 }) (mu_P (dC, dI) classes [(cI, .int)] (cw ad cI n a T H b R st O S) sz [.ref (ad 0)]) (va_Qi (fun (r : Int32) (u : Int32) => r = (feF b).1 ∧ (u = 1 ∨ (u = 0 ∧ O = pg_all n a (feF b).2 T H R))) (mu_B (dC, dI) classes [(cI, .int)] (cw ad cI n a T H b R st O S) sz (fun u => cw ad cI n a T H (feF b).2 R u O S)) (va_A (cw ad cI n a T H b R st O S) sz)) 0 0 (va_A (cw ad cI n a T H b R st O S) sz) := by
  obtain ⟨n1, n7, a14, hT, hT2, hb3, hR3, hR⟩ := hI
  have p7 := bi_p7 n7
  have p0 := Nat.two_pow_pos n
  refine Met.ofW (cc := cX3_fell) (maxL := 1) (ret := (some .int)) (by decide) rfl ?_
  intro p e s m args below meth c s₁ B hml hv
  obtain ⟨rfl, hsz, hP, hK, hN, hD0⟩ := hv
  have hx := B.exec
  have hb := B.bytes
  have hr := B.returns
  have hlocks := B.notSynchronized
  have hts := atoms_spec (ws := (wq yX3_fell cX3_fell 1 (some .int))) B.pre
  have hw : ∀ w ∈ bigW, w.before _ s = true := fun w h => hts w (List.mem_cons_of_mem _ h)
  have hown : s.vm.findClass RX3 = some m.cls := findClass_of_methodNamed B.named
  subst hsz
  have hD := hD0.self (sz := s.heap.size)
  generalize hAe : va_A (cw ad cI n a T H b R st O S) s.heap.size = A at hD ⊢
  have hA : ∀ q : Nat, s.heap.size ≤ q → A q := fun q h => by rw [← hAe]; exact Or.inr h
  have hS : va_S A s.heap s.heap [] := va_S.rf
  have hl := lv_entry ([.ref (ad 0)]) (n := 1) (Nat.le_of_ble_eq_true rfl)
  rw [lg_entry_eq]
  generalize (lg_sl ([.ref (ad 0)]) ++ List.replicate (1 - (lg_sl ([.ref (ad 0)])).length) Slot.unset).toArray = ls at hl ⊢
  have hl : lv_has ls 1 [(0, .ref (ad 0))] := hl
  refine lv_aload_n hx hb dX3_fell_0 rfl (lv_at hl 0 rfl) ?_
  refine va_get (D := (dC, dI)) (ci := 3) (v := .ref (ad 4)) (C := RX3) (T := TX3) (N := 3) hx hb hw in_X3 hown hK hP 0 rfl rfl 1 (by decide) (hw _ mq_fl_X3_19) (fun _ h9 => h9) rfl dX3_fell_1 ?_
  refine va_getN (D := (dC, dI)) (ci := 0) (v := .int (nI b)) (C := RX0) (T := TX0) (N := 2) hx hb hw in_X0 hown hK hP 4 rfl rfl 1 (by decide) (nf_X3_34 hN) (fun _ h9 => h9) rfl dX3_fell_4 ?_
  refine lv_if_ne (tgt := 12) hx hb dX3_fell_7 (by decide) (fun b7 => ?_) (fun b7 => ?_)
  -- ifne at 7, t
  · have t7 : ¬ b = 0 := fun z => b7 (by rw [z]; exact nI_0)
    refine lv_aload_n hx hb dX3_fell_12 rfl (lv_at hl 0 rfl) ?_
    refine va_get (D := (dC, dI)) (ci := 3) (v := .ref (ad 4)) (C := RX3) (T := TX3) (N := 3) hx hb hw in_X3 hown hK hP 0 rfl rfl 1 (by decide) (hw _ mq_fl_X3_19) (fun _ h9 => h9) rfl dX3_fell_13 ?_
    refine lv_dup hx hb dX3_fell_16 rfl ?_
    refine va_getN (D := (dC, dI)) (ci := 0) (v := .int (nI b)) (C := RX0) (T := TX0) (N := 2) hx hb hw in_X0 hown hK hP 4 rfl rfl 1 (by decide) (nf_X3_34 hN) (fun _ h9 => h9) rfl dX3_fell_17 ?_
    refine lv_iconst (v := 1) hx hb dX3_fell_20 (by decide) ?_
    refine lv_isub hx hb dX3_fell_21 ?_
    refine lv_topi (fun z9 e9 => ?_)
    obtain rfl : z9 = nI (b - 1) := e9.trans (pk_sub (b := 1) (by omega))
    refine va_putN (D := (dC, dI)) (ci := 0) (v := .int (nI (b - 1))) (ty := .int) (C := RX0) (T := TX0) (N := 2) hx hb hw in_X0 tyX0 tyX0_ok nmX0 hown hK hP hD hS 4 rfl rfl 1 (by decide) (nf_X3_34 hN) (fun _ h9 => h9) rfl (by decide +kernel) rfl rfl (Nat.le_of_ble_eq_true rfl) dX3_fell_22 (fun Hp locs hP hD hS => ?_)
    have hP : va_P (dC, dI) classes (cw ad cI n a T H (b - 1) R st O S) Hp := hP
    have hD : va_D A (cw ad cI n a T H (b - 1) R st O S) := hD
    refine lv_aload_n hx hb dX3_fell_25 rfl (lv_at hl 0 rfl) ?_
    refine va_get (D := (dC, dI)) (ci := 3) (v := .ref (ad 6)) (C := RX3) (T := TX3) (N := 3) hx hb hw in_X3 hown hK hP 0 rfl rfl 2 (by decide) (hw _ mq_fl_X3_26) (fun _ h9 => h9) rfl dX3_fell_26 ?_
    refine lv_iconst (v := 1) hx hb dX3_fell_29 (by decide) ?_
    refine va_putN (D := (dC, dI)) (ci := 2) (v := .int 1) (ty := .boolean) (C := RX2) (T := TX2) (N := 3) hx hb hw in_X2 tyX2 tyX2_ok nmX2 hown hK hP hD hS 6 rfl rfl 2 (by decide) (nf_X3_38 hN) (fun _ h9 => h9) rfl (by decide +kernel) rfl rfl (Nat.le_of_ble_eq_true rfl) dX3_fell_30 (fun Hp locs hP hD hS => ?_)
    have hP : va_P (dC, dI) classes (cw ad cI n a T H (b - 1) R 1 O S) Hp := hP
    have hD : va_D A (cw ad cI n a T H (b - 1) R 1 O S) := hD
    refine lv_aload_n hx hb dX3_fell_33 rfl (lv_at hl 0 rfl) ?_
    refine va_get (D := (dC, dI)) (ci := 3) (v := .ref (ad 4)) (C := RX3) (T := TX3) (N := 3) hx hb hw in_X3 hown hK hP 0 rfl rfl 1 (by decide) (hw _ mq_fl_X3_19) (fun _ h9 => h9) rfl dX3_fell_34 ?_
    refine va_getN (D := (dC, dI)) (ci := 0) (v := .int (nI (b - 1))) (C := RX0) (T := TX0) (N := 2) hx hb hw in_X0 hown hK hP 4 rfl rfl 1 (by decide) (nf_X3_34 hN) (fun _ h9 => h9) rfl dX3_fell_37 ?_
    have e8 : feF b = (nI (b - 1), b - 1) := if_neg t7
    have hP : va_P (dC, dI) classes (cw ad cI n a T H (feF b).2 R 1 O S) Hp := by rw [e8]; exact hP
    have hD : va_D A (cw ad cI n a T H (feF b).2 R 1 O S) := by rw [e8]; exact hD
    exact W.iret (v := nI (b - 1)) hx hb hr (fun t ht hW => ⟨⟨_, 1, rfl, ⟨by rw [e8], Or.inl rfl⟩, by rw [ht]; exact hP, va_K.moved hW.alike hK, by rw [hAe]; exact hD⟩, hS.F ht⟩) hS.2.2 dX3_fell_40
  -- ifne at 7, f
  · have t7 : b = 0 := (nI_eq (by omega) (by decide)).mp (b7.trans nI_0.symm)
    refine lv_iconst (v := -1) hx hb dX3_fell_10 (by decide) ?_
    have e8 : feF b = (-1, b) := if_pos t7
    have hP : va_P (dC, dI) classes (cw ad cI n a T H (feF b).2 R st O S) s.heap := by rw [e8]; exact hP
    have hD : va_D A (cw ad cI n a T H (feF b).2 R st O S) := by rw [e8]; exact hD
    exact W.iret (v := -1) hx hb hr (fun t ht hW => ⟨⟨_, st, rfl, ⟨by rw [e8], by rw [e8]; exact hst⟩, by rw [ht]; exact hP, va_K.moved hW.alike hK, by rw [hAe]; exact hD⟩, hS.F ht⟩) hS.2.2 dX3_fell_11
set_option maxHeartbeats 4000000 in
set_option maxRecDepth 100000 in
theorem c_X3_owner (l : Launch) (dC : Nat → ClassId) (dI : Nat → Nat → Nat) (cI : ClassId) (ad : Nat → Nat) (n a : Nat) (T H : Nat → Nat) (b : Nat) (R : Nat → Nat) (st : Int32) (O S : Nat → Int32) (sz : Nat) (x : Int32) (hI : st_I n a T H b R) (hst : st = 1 ∨ (st = 0 ∧ O = pg_all n a b T H R)) : Met l yX3_owner (wq yX3_owner cX3_owner 2 (some .int)) ({ frames := 6, cells := 0, slots := 0, locals := 141 }) (mu_P (dC, dI) classes [(cI, .int)] (cw ad cI n a T H b R st O S) sz [.ref (ad 0), .int x]) (va_Qi (fun (r : Int32) (u : Int32 × (Nat → Int32) × (Nat → Int32)) => r = owF n a b T H R x ∧ (u.1 = 1 ∨ (u.1 = 0 ∧ u.2.1 = pg_all n a b T H R))) (mu_B (dC, dI) classes [(cI, .int)] (cw ad cI n a T H b R st O S) sz (fun u => cw ad cI n a T H b R u.1 u.2.1 u.2.2)) (va_A (cw ad cI n a T H b R st O S) sz)) 0 0 (va_A (cw ad cI n a T H b R st O S) sz) := by
  obtain ⟨n1, n7, a14, hT, hT2, hb3, hR3, hR⟩ := hI
  have p7 := bi_p7 n7
  have p0 := Nat.two_pow_pos n
  refine Met.ofW (cc := cX3_owner) (maxL := 2) (ret := (some .int)) (by decide) rfl ?_
  intro p e s m args below meth c s₁ B hml hv
  obtain ⟨rfl, hsz, hP, hK, hN, hD0⟩ := hv
  have hx := B.exec
  have hb := B.bytes
  have hr := B.returns
  have hlocks := B.notSynchronized
  have hts := atoms_spec (ws := (wq yX3_owner cX3_owner 2 (some .int))) B.pre
  have hw : ∀ w ∈ bigW, w.before _ s = true := fun w h => hts w (List.mem_cons_of_mem _ h)
  have hown : s.vm.findClass RX3 = some m.cls := findClass_of_methodNamed B.named
  subst hsz
  have hD := hD0.self (sz := s.heap.size)
  generalize hAe : va_A (cw ad cI n a T H b R st O S) s.heap.size = A at hD ⊢
  have hA : ∀ q : Nat, s.heap.size ≤ q → A q := fun q h => by rw [← hAe]; exact Or.inr h
  have hS : va_S A s.heap s.heap [] := va_S.rf
  have hl := lv_entry ([.ref (ad 0), .int x]) (n := 2) (Nat.le_of_ble_eq_true rfl)
  rw [lg_entry_eq]
  generalize (lg_sl ([.ref (ad 0), .int x]) ++ List.replicate (2 - (lg_sl ([.ref (ad 0), .int x])).length) Slot.unset).toArray = ls at hl ⊢
  have hl : lv_has ls 2 [(0, .ref (ad 0)), (1, .int x)] := hl
  refine lv_aload_n hx hb dX3_owner_0 rfl (lv_at hl 0 rfl) ?_
  refine va_get (D := (dC, dI)) (ci := 3) (v := .ref (ad 1)) (C := RX3) (T := TX3) (N := 3) hx hb hw in_X3 hown hK hP 0 rfl rfl 0 (by decide) (hw _ mq_fl_X3_10) (fun _ h9 => h9) rfl dX3_owner_1 ?_
  refine lv_iload_n hx hb dX3_owner_4 rfl (lv_at hl 1 rfl) ?_
  refine ro_V (As := [.int x]) (rest := []) (b := ad 1) ⟨hx, hb, hml, hown, hts⟩ (c_X1_hasArc l dC dI cI ad n a T H b R st O S x) (cwV 1 hts (bw_V mq_ml_X3_53 mq_im_X1_hasArc mq_se_X1_hasArc mq_in_X1 mq_co_X1_hasArc) rfl rfl rfl (by decide +kernel) ⟨Nat.le_of_ble_eq_true rfl, Nat.le_of_ble_eq_true rfl⟩) hP hK hN 1 rfl rfl rfl hl.1 rfl (Nat.le_of_ble_eq_true rfl) dX3_owner_5 ⟨Nat.zero_le _, Nat.zero_le _⟩ (fun r9 h9 => ?_)
  obtain rfl : r9 = nI (ed_b (decide (0 ≤ x ∧ x < nI a))) := h9
  refine lv_if_ne (tgt := 13) hx hb dX3_owner_8 (by decide) (fun b8 => ?_) (fun b8 => ?_)
  -- ifne at 8, t
  · have t8 := decide_eq_true_eq.mp (zb_n0.mp b8)
    obtain ⟨j, hj, rfl⟩ := is_in_of t8 (by omega)
    refine lv_aload_n hx hb dX3_owner_13 rfl (lv_at hl 0 rfl) ?_
    refine va_get (D := (dC, dI)) (ci := 3) (v := .ref (ad 6)) (C := RX3) (T := TX3) (N := 3) hx hb hw in_X3 hown hK hP 0 rfl rfl 2 (by decide) (hw _ mq_fl_X3_26) (fun _ h9 => h9) rfl dX3_owner_14 ?_
    refine lv_aload_n hx hb dX3_owner_17 rfl (lv_at hl 0 rfl) ?_
    refine va_get (D := (dC, dI)) (ci := 3) (v := .ref (ad 1)) (C := RX3) (T := TX3) (N := 3) hx hb hw in_X3 hown hK hP 0 rfl rfl 0 (by decide) (hw _ mq_fl_X3_10) (fun _ h9 => h9) rfl dX3_owner_18 ?_
    refine lv_aload_n hx hb dX3_owner_21 rfl (lv_at hl 0 rfl) ?_
    refine va_get (D := (dC, dI)) (ci := 3) (v := .ref (ad 4)) (C := RX3) (T := TX3) (N := 3) hx hb hw in_X3 hown hK hP 0 rfl rfl 1 (by decide) (hw _ mq_fl_X3_19) (fun _ h9 => h9) rfl dX3_owner_22 ?_
    refine mu_Vv (As := [.ref (ad 1), .ref (ad 4)]) (rest := []) (b := ad 6) ⟨hx, hb, hml, hown, hts⟩ (c_X2_refresh l dC dI cI ad n a T H b R st O S _ n7 a14 hT n1 hT2 hb3 hR hR3 hst) (cwV 2 hts (bw_V mq_ml_X3_85 mq_im_X2_refresh mq_se_X2_refresh mq_in_X2 mq_co_X2_refresh) rfl rfl rfl (by decide +kernel) ⟨Nat.le_of_ble_eq_true rfl, Nat.le_of_ble_eq_true rfl⟩) hP hK hN hD hS hA 6 rfl rfl rfl hl.1 rfl (Nat.le_of_ble_eq_true rfl) dX3_owner_25 ⟨Nat.zero_le _, Nat.zero_le _⟩ (fun u9 Hp locs h9 hP hD hS => ?_)
    obtain ⟨S2, rfl⟩ : ∃ z, z = u9 := ⟨_, rfl⟩
    have hP : va_P (dC, dI) classes (cw ad cI n a T H b R 0 (pg_all n a b T H R) S2) Hp := hP
    have hD : va_D A (cw ad cI n a T H b R 0 (pg_all n a b T H R) S2) := hD
    refine lv_aload_n hx hb dX3_owner_28 rfl (lv_at hl 0 rfl) ?_
    refine va_get (D := (dC, dI)) (ci := 3) (v := .ref (ad 6)) (C := RX3) (T := TX3) (N := 3) hx hb hw in_X3 hown hK hP 0 rfl rfl 2 (by decide) (hw _ mq_fl_X3_26) (fun _ h9 => h9) rfl dX3_owner_29 ?_
    refine va_getN (D := (dC, dI)) (ci := 2) (v := .ref (ad 7)) (C := RX2) (T := TX2) (N := 3) hx hb hw in_X2 hown hK hP 6 rfl rfl 0 (by decide) (nf_X3_89 hN) (fun _ h9 => h9) rfl dX3_owner_32 ?_
    refine lv_iload_n hx hb dX3_owner_35 rfl (lv_at hl 1 rfl) ?_
    refine va_iald hx hb hK hP 7 0 rfl rfl (vp_in_nI (by omega) (by decide)) dX3_owner_36 ?_
    refine lv_topi (fun z9 e9 => ?_)
    obtain rfl : z9 = pg_all n a b T H R j := e9.trans (by rw [nI_clamp (by omega)])
    exact W.iret (v := pg_all n a b T H R j) hx hb hr (fun t ht hW => ⟨⟨_, (0, pg_all n a b T H R, S2), rfl, ⟨(by rw [owF, if_pos t8, nI_clamp (by omega)]), Or.inr ⟨rfl, rfl⟩⟩, by rw [ht]; exact hP, va_K.moved hW.alike hK, by rw [hAe]; exact hD⟩, hS.F ht⟩) hS.2.2 dX3_owner_37
  -- ifne at 8, f
  · have t8 := decide_eq_false_iff_not.mp (zb_0.mp b8)
    refine lv_iconst (v := -1) hx hb dX3_owner_11 (by decide) ?_
    exact W.iret (v := -1) hx hb hr (fun t ht hW => ⟨⟨_, (st, O, S), rfl, ⟨(by rw [owF, if_neg t8]), hst⟩, by rw [ht]; exact hP, va_K.moved hW.alike hK, by rw [hAe]; exact hD⟩, hS.F ht⟩) hS.2.2 dX3_owner_12
set_option maxHeartbeats 4000000 in
set_option maxRecDepth 100000 in
theorem c_X3_way (l : Launch) (dC : Nat → ClassId) (dI : Nat → Nat → Nat) (cI : ClassId) (ad : Nat → Nat) (n a : Nat) (T H : Nat → Nat) (b : Nat) (R : Nat → Nat) (st : Int32) (O S : Nat → Int32) (sz : Nat) (x y : Int32) (hI : st_I n a T H b R) (hst : st = 1 ∨ (st = 0 ∧ O = pg_all n a b T H R)) : Met l yX3_way (wq yX3_way cX3_way 4 (some .int)) ({ frames := 6, cells := 0, slots := 0, locals := 141 }) (mu_P (dC, dI) classes [(cI, .int)] (cw ad cI n a T H b R st O S) sz [.ref (ad 0), .int x, .int y]) (va_Qi (fun (r : Int32) (u : Int32 × (Nat → Int32) × (Nat → Int32)) => r = wyF n a b T H R x y ∧ (u.1 = 1 ∨ (u.1 = 0 ∧ u.2.1 = pg_all n a b T H R))) (mu_B (dC, dI) classes [(cI, .int)] (cw ad cI n a T H b R st O S) sz (fun u => cw ad cI n a T H b R u.1 u.2.1 u.2.2)) (va_A (cw ad cI n a T H b R st O S) sz)) 0 0 (va_A (cw ad cI n a T H b R st O S) sz) := by
  obtain ⟨n1, n7, a14, hT, hT2, hb3, hR3, hR⟩ := hI
  have p7 := bi_p7 n7
  have p0 := Nat.two_pow_pos n
  refine Met.ofW (cc := cX3_way) (maxL := 4) (ret := (some .int)) (by decide) rfl ?_
  intro p e s m args below meth c s₁ B hml hv
  obtain ⟨rfl, hsz, hP, hK, hN, hD0⟩ := hv
  have hx := B.exec
  have hb := B.bytes
  have hr := B.returns
  have hlocks := B.notSynchronized
  have hts := atoms_spec (ws := (wq yX3_way cX3_way 4 (some .int))) B.pre
  have hw : ∀ w ∈ bigW, w.before _ s = true := fun w h => hts w (List.mem_cons_of_mem _ h)
  have hown : s.vm.findClass RX3 = some m.cls := findClass_of_methodNamed B.named
  subst hsz
  have hD := hD0.self (sz := s.heap.size)
  generalize hAe : va_A (cw ad cI n a T H b R st O S) s.heap.size = A at hD ⊢
  have hA : ∀ q : Nat, s.heap.size ≤ q → A q := fun q h => by rw [← hAe]; exact Or.inr h
  have hS : va_S A s.heap s.heap [] := va_S.rf
  have hl := lv_entry ([.ref (ad 0), .int x, .int y]) (n := 4) (Nat.le_of_ble_eq_true rfl)
  rw [lg_entry_eq]
  generalize (lg_sl ([.ref (ad 0), .int x, .int y]) ++ List.replicate (4 - (lg_sl ([.ref (ad 0), .int x, .int y])).length) Slot.unset).toArray = ls at hl ⊢
  have hl : lv_has ls 4 [(0, .ref (ad 0)), (1, .int x), (2, .int y)] := hl
  refine lv_iload_n hx hb dX3_way_0 rfl (lv_at hl 1 rfl) ?_
  refine lv_if_lt (tgt := 26) hx hb dX3_way_1 (by decide) (fun b1 => ?_) (fun b1 => ?_)
  -- iflt at 1, t
  · refine lv_iconst (v := -1) hx hb dX3_way_26 (by decide) ?_
    exact W.iret (v := -1) hx hb hr (fun t ht hW => ⟨⟨_, (st, O, S), rfl, ⟨(by rw [wyF, if_neg (fun h => absurd h.1.1 (i_le_lt.mpr b1))]), hst⟩, by rw [ht]; exact hP, va_K.moved hW.alike hK, by rw [hAe]; exact hD⟩, hS.F ht⟩) hS.2.2 dX3_way_27
  -- iflt at 1, f
  · refine lv_iload_n hx hb dX3_way_4 rfl (lv_at hl 1 rfl) ?_
    refine lv_aload_n hx hb dX3_way_5 rfl (lv_at hl 0 rfl) ?_
    refine va_get (D := (dC, dI)) (ci := 3) (v := .ref (ad 4)) (C := RX3) (T := TX3) (N := 3) hx hb hw in_X3 hown hK hP 0 rfl rfl 1 (by decide) (hw _ mq_fl_X3_19) (fun _ h9 => h9) rfl dX3_way_6 ?_
    refine va_getN (D := (dC, dI)) (ci := 0) (v := .int (nI b)) (C := RX0) (T := TX0) (N := 2) hx hb hw in_X0 hown hK hP 4 rfl rfl 1 (by decide) (nf_X3_34 hN) (fun _ h9 => h9) rfl dX3_way_9 ?_
    refine lv_icmp_ge (tgt := 26) hx hb dX3_way_12 (by decide) (fun b12 => ?_) (fun b12 => ?_)
    -- if_icmpge at 12, t
    · refine lv_iconst (v := -1) hx hb dX3_way_26 (by decide) ?_
      exact W.iret (v := -1) hx hb hr (fun t ht hW => ⟨⟨_, (st, O, S), rfl, ⟨(by rw [wyF, if_neg (fun h => absurd h.1.2 (i_lt_le.mpr b12))]), hst⟩, by rw [ht]; exact hP, va_K.moved hW.alike hK, by rw [hAe]; exact hD⟩, hS.F ht⟩) hS.2.2 dX3_way_27
    -- if_icmpge at 12, f
    · refine lv_aload_n hx hb dX3_way_15 rfl (lv_at hl 0 rfl) ?_
      refine va_get (D := (dC, dI)) (ci := 3) (v := .ref (ad 1)) (C := RX3) (T := TX3) (N := 3) hx hb hw in_X3 hown hK hP 0 rfl rfl 0 (by decide) (hw _ mq_fl_X3_10) (fun _ h9 => h9) rfl dX3_way_16 ?_
      refine lv_iload_n hx hb dX3_way_19 rfl (lv_at hl 2 rfl) ?_
      refine ro_V (As := [.int y]) (rest := []) (b := ad 1) ⟨hx, hb, hml, hown, hts⟩ (c_X1_hasVertex l dC dI cI ad n a T H b R st O S y) (cwV 1 hts (bw_V mq_ml_X3_45 mq_im_X1_hasVertex mq_se_X1_hasVertex mq_in_X1 mq_co_X1_hasVertex) rfl rfl rfl (by decide +kernel) ⟨Nat.le_of_ble_eq_true rfl, Nat.le_of_ble_eq_true rfl⟩) hP hK hN 1 rfl rfl rfl hl.1 rfl (Nat.le_of_ble_eq_true rfl) dX3_way_20 ⟨Nat.zero_le _, Nat.zero_le _⟩ (fun r9 h9 => ?_)
      obtain rfl : r9 = nI (ed_b (decide (0 ≤ y ∧ y < nI n))) := h9
      refine lv_if_ne (tgt := 28) hx hb dX3_way_23 (by decide) (fun b23 => ?_) (fun b23 => ?_)
      -- ifne at 23, t
      · have t23 := decide_eq_true_eq.mp (zb_n0.mp b23)
        refine lv_aload_n hx hb dX3_way_28 rfl (lv_at hl 0 rfl) ?_
        refine va_get (D := (dC, dI)) (ci := 3) (v := .ref (ad 6)) (C := RX3) (T := TX3) (N := 3) hx hb hw in_X3 hown hK hP 0 rfl rfl 2 (by decide) (hw _ mq_fl_X3_26) (fun _ h9 => h9) rfl dX3_way_29 ?_
        refine lv_aload_n hx hb dX3_way_32 rfl (lv_at hl 0 rfl) ?_
        refine va_get (D := (dC, dI)) (ci := 3) (v := .ref (ad 1)) (C := RX3) (T := TX3) (N := 3) hx hb hw in_X3 hown hK hP 0 rfl rfl 0 (by decide) (hw _ mq_fl_X3_10) (fun _ h9 => h9) rfl dX3_way_33 ?_
        refine lv_aload_n hx hb dX3_way_36 rfl (lv_at hl 0 rfl) ?_
        refine va_get (D := (dC, dI)) (ci := 3) (v := .ref (ad 4)) (C := RX3) (T := TX3) (N := 3) hx hb hw in_X3 hown hK hP 0 rfl rfl 1 (by decide) (hw _ mq_fl_X3_19) (fun _ h9 => h9) rfl dX3_way_37 ?_
        refine mu_Vv (As := [.ref (ad 1), .ref (ad 4)]) (rest := []) (b := ad 6) ⟨hx, hb, hml, hown, hts⟩ (c_X2_refresh l dC dI cI ad n a T H b R st O S _ n7 a14 hT n1 hT2 hb3 hR hR3 hst) (cwV 2 hts (bw_V mq_ml_X3_85 mq_im_X2_refresh mq_se_X2_refresh mq_in_X2 mq_co_X2_refresh) rfl rfl rfl (by decide +kernel) ⟨Nat.le_of_ble_eq_true rfl, Nat.le_of_ble_eq_true rfl⟩) hP hK hN hD hS hA 6 rfl rfl rfl hl.1 rfl (Nat.le_of_ble_eq_true rfl) dX3_way_40 ⟨Nat.zero_le _, Nat.zero_le _⟩ (fun u9 Hp locs h9 hP hD hS => ?_)
        obtain ⟨S2, rfl⟩ : ∃ z, z = u9 := ⟨_, rfl⟩
        have hP : va_P (dC, dI) classes (cw ad cI n a T H b R 0 (pg_all n a b T H R) S2) Hp := hP
        have hD : va_D A (cw ad cI n a T H b R 0 (pg_all n a b T H R) S2) := hD
        refine lv_iconst (v := nI 0) hx hb dX3_way_43 (by decide) ?_
        refine lv_istore_n (lv' := [(3, .int (nI 0)), (0, .ref (ad 0)), (1, .int x), (2, .int y)]) hx hb dX3_way_44 rfl hl (by decide) rfl (fun ls hl => ?_)
        refine wl_loop (fun k9 ls => ∃ (i : Nat), a - i = k9 ∧ (i ≤ a) ∧ (∀ j, j < i → (fun e => decide (pg_all n a b T H R e = x) && decide (nI (H e) = y)) j = false) ∧ lv_has ls 4 [(0, .ref (ad 0)), (1, .int x), (2, .int y), (3, .int (nI i))]) ?_ _ ⟨0, rfl, by omega, fun j hj => by omega, lv_sub hl [1, 2, 3, 0] rfl⟩
        clear hl
        intro k9 ls ih9 h9
        obtain ⟨i, k9e, hi, hno, hl⟩ := h9
        have ih_45 := ih9
        clear ih9
        subst k9e
        refine lv_iload_n hx hb dX3_way_45 rfl (lv_at hl 3 rfl) ?_
        refine lv_aload_n hx hb dX3_way_46 rfl (lv_at hl 0 rfl) ?_
        refine va_get (D := (dC, dI)) (ci := 3) (v := .ref (ad 1)) (C := RX3) (T := TX3) (N := 3) hx hb hw in_X3 hown hK hP 0 rfl rfl 0 (by decide) (hw _ mq_fl_X3_10) (fun _ h9 => h9) rfl dX3_way_47 ?_
        refine va_getN (D := (dC, dI)) (ci := 1) (v := .int (nI a)) (C := RX1) (T := TX1) (N := 4) hx hb hw in_X1 hown hK hP 1 rfl rfl 3 (by decide) (nf_X3_42 hN) (fun _ h9 => h9) rfl dX3_way_50 ?_
        refine lv_icmp_ge (tgt := 90) hx hb dX3_way_53 (by decide) (fun b53 => ?_) (fun b53 => ?_)
        -- if_icmpge at 53, t
        · have t53 := (nI_leI (by omega) (by omega)).mp b53
          refine lv_iconst (v := -1) hx hb dX3_way_90 (by decide) ?_
          exact W.iret (v := -1) hx hb hr (fun t ht hW => ⟨⟨_, (0, pg_all n a b T H R, S2), rfl, ⟨(by rw [wyF, if_pos ⟨⟨i_lt_le.mp b1, i_le_lt.mp b12⟩, t23⟩, ed_fd_no (P := (fun e => decide (pg_all n a b T H R e = x) && decide (nI (H e) = y))) (a := a) (fun j hj => hno j (by omega)), if_neg (Nat.lt_irrefl _)]), Or.inr ⟨rfl, rfl⟩⟩, by rw [ht]; exact hP, va_K.moved hW.alike hK, by rw [hAe]; exact hD⟩, hS.F ht⟩) hS.2.2 dX3_way_91
        -- if_icmpge at 53, f
        · have t53 : i < a := Nat.lt_of_not_le (fun z => b53 (nI_le z (by omega)))
          refine lv_aload_n hx hb dX3_way_56 rfl (lv_at hl 0 rfl) ?_
          refine va_get (D := (dC, dI)) (ci := 3) (v := .ref (ad 6)) (C := RX3) (T := TX3) (N := 3) hx hb hw in_X3 hown hK hP 0 rfl rfl 2 (by decide) (hw _ mq_fl_X3_26) (fun _ h9 => h9) rfl dX3_way_57 ?_
          refine va_getN (D := (dC, dI)) (ci := 2) (v := .ref (ad 7)) (C := RX2) (T := TX2) (N := 3) hx hb hw in_X2 hown hK hP 6 rfl rfl 0 (by decide) (nf_X3_89 hN) (fun _ h9 => h9) rfl dX3_way_60 ?_
          refine lv_iload_n hx hb dX3_way_63 rfl (lv_at hl 3 rfl) ?_
          refine va_iald hx hb hK hP 7 0 rfl rfl (vp_in_nI (by omega) (by decide)) dX3_way_64 ?_
          refine lv_topi (fun z9 e9 => ?_)
          obtain rfl : z9 = pg_all n a b T H R i := e9.trans (by rw [nI_clamp (by omega)])
          refine lv_iload_n hx hb dX3_way_65 rfl (lv_at hl 1 rfl) ?_
          refine lv_icmp_ne (tgt := 84) hx hb dX3_way_66 (by decide) (fun b66 => ?_) (fun b66 => ?_)
          -- if_icmpne at 66, t
          · refine lv_iinc (k := 3) (v := nI (i + 1)) (lv' := [(3, .int (nI (i + 1))), (0, .ref (ad 0)), (1, .int x), (2, .int y)]) hx hb dX3_way_84 hl rfl (ii_1 _) (by decide) rfl (fun ls hl => ?_)
            refine lv_goto (tgt := 45) hx hb dX3_way_87 (by decide) ?_
            have hno2 : ∀ j, j < i + 1 → (fun e => decide (pg_all n a b T H R e = x) && decide (nI (H e) = y)) j = false := by
              intro j hj
              rcases Nat.lt_or_ge j i with y3 | y3
              · exact hno j y3
              · have y4 : j = i := by omega
                rw [y4]
                show (decide _ && decide _) = false
                rw [decide_eq_false b66, Bool.false_and]
            exact ih_45 _ _ (by omega) ⟨i + 1, rfl, by omega, hno2, lv_sub hl [1, 2, 3, 0] rfl⟩
          -- if_icmpne at 66, f
          · refine lv_aload_n hx hb dX3_way_69 rfl (lv_at hl 0 rfl) ?_
            refine va_get (D := (dC, dI)) (ci := 3) (v := .ref (ad 1)) (C := RX3) (T := TX3) (N := 3) hx hb hw in_X3 hown hK hP 0 rfl rfl 0 (by decide) (hw _ mq_fl_X3_10) (fun _ h9 => h9) rfl dX3_way_70 ?_
            refine va_getN (D := (dC, dI)) (ci := 1) (v := .ref (ad 3)) (C := RX1) (T := TX1) (N := 4) hx hb hw in_X1 hown hK hP 1 rfl rfl 1 (by decide) (nf_X3_72 hN) (fun _ h9 => h9) rfl dX3_way_73 ?_
            refine lv_iload_n hx hb dX3_way_76 rfl (lv_at hl 3 rfl) ?_
            refine va_iald hx hb hK hP 3 0 rfl rfl (vp_in_nI (by omega) (by decide)) dX3_way_77 ?_
            refine lv_topi (fun z9 e9 => ?_)
            obtain rfl : z9 = nI (H i) := e9.trans (ar_at H (by omega))
            refine lv_iload_n hx hb dX3_way_78 rfl (lv_at hl 2 rfl) ?_
            refine lv_icmp_ne (tgt := 84) hx hb dX3_way_79 (by decide) (fun b79 => ?_) (fun b79 => ?_)
            -- if_icmpne at 79, t
            · refine lv_iinc (k := 3) (v := nI (i + 1)) (lv' := [(3, .int (nI (i + 1))), (0, .ref (ad 0)), (1, .int x), (2, .int y)]) hx hb dX3_way_84 hl rfl (ii_1 _) (by decide) rfl (fun ls hl => ?_)
              refine lv_goto (tgt := 45) hx hb dX3_way_87 (by decide) ?_
              have hno2 : ∀ j, j < i + 1 → (fun e => decide (pg_all n a b T H R e = x) && decide (nI (H e) = y)) j = false := by
                intro j hj
                rcases Nat.lt_or_ge j i with y3 | y3
                · exact hno j y3
                · have y4 : j = i := by omega
                  rw [y4]
                  show (decide _ && decide _) = false
                  rw [decide_eq_false b79, Bool.and_false]
              exact ih_45 _ _ (by omega) ⟨i + 1, rfl, by omega, hno2, lv_sub hl [1, 2, 3, 0] rfl⟩
            -- if_icmpne at 79, f
            · refine lv_iload_n hx hb dX3_way_82 rfl (lv_at hl 3 rfl) ?_
              exact W.iret (v := nI i) hx hb hr (fun t ht hW => ⟨⟨_, (0, pg_all n a b T H R, S2), rfl, ⟨(by rw [wyF, if_pos ⟨⟨i_lt_le.mp b1, i_le_lt.mp b12⟩, t23⟩, ed_fd_eq (P := (fun e => decide (pg_all n a b T H R e = x) && decide (nI (H e) = y))) (e := i) t53 (by show (decide _ && decide _) = true; rw [decide_eq_true b66, decide_eq_true b79]; rfl) hno, if_pos t53]), Or.inr ⟨rfl, rfl⟩⟩, by rw [ht]; exact hP, va_K.moved hW.alike hK, by rw [hAe]; exact hD⟩, hS.F ht⟩) hS.2.2 dX3_way_83
      -- ifne at 23, f
      · have t23 := decide_eq_false_iff_not.mp (zb_0.mp b23)
        refine lv_iconst (v := -1) hx hb dX3_way_26 (by decide) ?_
        exact W.iret (v := -1) hx hb hr (fun t ht hW => ⟨⟨_, (st, O, S), rfl, ⟨(by rw [wyF, if_neg (fun h => t23 h.2)]), hst⟩, by rw [ht]; exact hP, va_K.moved hW.alike hK, by rw [hAe]; exact hD⟩, hS.F ht⟩) hS.2.2 dX3_way_27
end
section
/-! the reference: its world, its leaves -/
abbrev mw (ad : Nat → Nat) (cI : ClassId) (n a b : Nat) (T H R : Nat → Nat) (O Wy tr hd us nx : Nat → Int32) : va_W := [(ad 0, .inr (4, [.int (nI n), .int (nI a), .int (nI b), .ref (ad 1), .ref (ad 2), .ref (ad 3), .ref (ad 4), .ref (ad 5), .ref (ad 6), .ref (ad 7), .ref (ad 8), .ref (ad 9)])), (ad 1, .inl (cI, 14, .inl (ar T))), (ad 2, .inl (cI, 14, .inl (ar H))), (ad 3, .inl (cI, 3, .inl (ar R))), (ad 4, .inl (cI, 14, .inl O)), (ad 5, .inl (cI, 21, .inl Wy)), (ad 6, .inl (cI, 16, .inl tr)), (ad 7, .inl (cI, 16, .inl hd)), (ad 8, .inl (cI, 16, .inl us)), (ad 9, .inl (cI, 16, .inl nx))]
theorem zb_eq {x y : Bool} : nI (ed_b x) = nI (ed_b y) ↔ x = y := by cases x <;> cases y <;> decide
theorem tb_0 : Nat.testBit 0 = fun _ => false := by
  funext i
  exact Nat.zero_testBit i
theorem ed_rho_s (T H : Nat → Nat) (i : Nat) (u : Nat → Bool) (X : Nat) : ed_rho T H (i + 1) u X = ed_rho T H i u X + ed_b (!u i && ed_en T H X i) := rfl
theorem et_in {n a X : Nat} {T H : Nat → Nat} (n7 : n ≤ 7) (hX : X ≤ 2 ^ n - 1) : etF n a T H (nI X) = nI (rho0 T H a X) := by
  have p7 := bi_p7 n7
  have p0 := Nat.two_pow_pos n
  rw [etF, if_pos ⟨nI_pos' (by omega), nI_le hX (by omega)⟩, nI_clamp (by omega)]
theorem mi_in {n b X : Nat} {R : Nat → Nat} (n7 : n ≤ 7) (hX : X ≤ 2 ^ n - 1) : miF n b R (nI X) = nI (ed_mis R b X) := by
  have p7 := bi_p7 n7
  have p0 := Nat.two_pow_pos n
  rw [miF, if_pos ⟨nI_pos' (by omega), nI_le hX (by omega)⟩, nI_clamp (by omega)]
def is_p (R : Nat → Nat) (k had X j : Nat) : Nat := ed_b (had &&& X == 0) + ed_ct (fun i => decide (k < i) && (R i &&& X == 0)) j
theorem is_p_s {R : Nat → Nat} {k had X j : Nat} (h : k < j) : is_p R k had X (j + 1) = is_p R k had X j + ed_b (R j &&& X == 0) := by
  rw [is_p, is_p, ed_ct_s, decide_eq_true h, Bool.true_and, Nat.add_assoc]
theorem is_p_b (R : Nat → Nat) (k had X : Nat) : is_p R k had X (k + 1) = ed_b (had &&& X == 0) := by
  rw [is_p, ed_ct_congr (g := fun _ => false), ed_ct_0, Nat.add_zero]
  intro i hi
  rw [decide_eq_false (by omega), Bool.false_and]
theorem is_p_0 {R : Nat → Nat} {k had X : Nat} (h : ¬ had &&& X = 0) : is_p R k had X (k + 1) = 0 := by rw [is_p_b, beq_false_of_ne h, ed_bf]
theorem is_p_1 {R : Nat → Nat} {k had X : Nat} (h : had &&& X = 0) : is_p R k had X (k + 1) = 1 := by
  rw [is_p_b, h]
  rfl
theorem is_p_le (R : Nat → Nat) (k had X j : Nat) : is_p R k had X j ≤ 1 + j := by
  have h1 := ed_b_le (had &&& X == 0)
  have h2 := ed_ct_le (fun i => decide (k < i) && (R i &&& X == 0)) j
  rw [is_p]
  omega
set_option maxHeartbeats 4000000 in
set_option maxRecDepth 100000 in
theorem c_X4_has (l : Launch) (dC : Nat → ClassId) (dI : Nat → Nat → Nat) (cI : ClassId) (ad : Nat → Nat) (n a b : Nat) (T H R : Nat → Nat) (O Wy tr hd us nx : Nat → Int32) (X k : Nat) (hX : X < 2 ^ 31) (hk : k < 31) : Met l yX4_has (wq yX4_has cX4_has 2 (some .boolean)) ({ frames := 0, cells := 0, slots := 0, locals := 0 }) (ro_P (dC, dI) classes [(cI, .int)] (mw ad cI n a b T H R O Wy tr hd us nx) [.int (nI X), .int (nI k)]) (vp_Si (fun r => r = nI (ed_b (Nat.testBit X k)))) 0 0 (fun _ => False) := by
  refine Met.ofW (cc := cX4_has) (maxL := 2) (ret := (some .boolean)) (by decide) rfl ?_
  intro p e s m args below meth c s₁ B hml hv
  obtain ⟨rfl, hP, hK, hN⟩ := hv
  have hx := B.exec
  have hb := B.bytes
  have hr := B.returns
  have hlocks := B.notSynchronized
  have hts := atoms_spec (ws := (wq yX4_has cX4_has 2 (some .boolean))) B.pre
  have hw : ∀ w ∈ bigW, w.before _ s = true := fun w h => hts w (List.mem_cons_of_mem _ h)
  have hown : s.vm.findClass RX4 = some m.cls := findClass_of_methodNamed B.named
  have hl := lv_entry ([.int (nI X), .int (nI k)]) (n := 2) (Nat.le_of_ble_eq_true rfl)
  rw [lg_entry_eq]
  generalize (lg_sl ([.int (nI X), .int (nI k)]) ++ List.replicate (2 - (lg_sl ([.int (nI X), .int (nI k)])).length) Slot.unset).toArray = ls at hl ⊢
  have hl : lv_has ls 2 [(0, .int (nI X)), (1, .int (nI k))] := hl
  refine lv_iload_n hx hb dX4_has_0 rfl (lv_at hl 0 rfl) ?_
  refine lv_iload_n hx hb dX4_has_1 rfl (lv_at hl 1 rfl) ?_
  refine lv_ishr hx hb dX4_has_2 ?_
  refine lv_iconst (v := 1) hx hb dX4_has_3 (by decide) ?_
  refine lv_iand hx hb dX4_has_4 ?_
  refine lv_iconst (v := 1) hx hb dX4_has_5 (by decide) ?_
  refine lv_icmp_ne (tgt := 13) hx hb dX4_has_6 (by decide) (fun b6 => ?_) (fun b6 => ?_)
  -- if_icmpne at 6, t
  · refine lv_iconst (v := 0) hx hb dX4_has_13 (by decide) ?_
    exact W.zret (v := 0) hx hb hr rfl (fun t ht hW => ⟨_, rfl, zb_F (Bool.eq_false_iff.mpr (fun z => b6 ((bi_sr1 hX (by omega)).mpr z))), ht⟩) (fun _ h => by cases h) dX4_has_14
  -- if_icmpne at 6, f
  · refine lv_iconst (v := 1) hx hb dX4_has_9 (by decide) ?_
    refine lv_goto (tgt := 14) hx hb dX4_has_10 (by decide) ?_
    exact W.zret (v := 1) hx hb hr rfl (fun t ht hW => ⟨_, rfl, zb_T ((bi_sr1 hX (by omega)).mp b6), ht⟩) (fun _ h => by cases h) dX4_has_14
set_option maxHeartbeats 4000000 in
set_option maxRecDepth 100000 in
theorem c_X4_all (l : Launch) (dC : Nat → ClassId) (dI : Nat → Nat → Nat) (cI : ClassId) (ad : Nat → Nat) (n a b : Nat) (T H R : Nat → Nat) (O Wy tr hd us nx : Nat → Int32) (hn : n ≤ 7) : Met l yX4_all (wq yX4_all cX4_all 1 (some .int)) ({ frames := 0, cells := 0, slots := 0, locals := 0 }) (ro_P (dC, dI) classes [(cI, .int)] (mw ad cI n a b T H R O Wy tr hd us nx) [.ref (ad 0)]) (vp_Si (fun r => r = nI (2 ^ n - 1))) 0 0 (fun _ => False) := by
  refine Met.ofW (cc := cX4_all) (maxL := 1) (ret := (some .int)) (by decide) rfl ?_
  intro p e s m args below meth c s₁ B hml hv
  obtain ⟨rfl, hP, hK, hN⟩ := hv
  have hx := B.exec
  have hb := B.bytes
  have hr := B.returns
  have hlocks := B.notSynchronized
  have hts := atoms_spec (ws := (wq yX4_all cX4_all 1 (some .int))) B.pre
  have hw : ∀ w ∈ bigW, w.before _ s = true := fun w h => hts w (List.mem_cons_of_mem _ h)
  have hown : s.vm.findClass RX4 = some m.cls := findClass_of_methodNamed B.named
  have hl := lv_entry ([.ref (ad 0)]) (n := 1) (Nat.le_of_ble_eq_true rfl)
  rw [lg_entry_eq]
  generalize (lg_sl ([.ref (ad 0)]) ++ List.replicate (1 - (lg_sl ([.ref (ad 0)])).length) Slot.unset).toArray = ls at hl ⊢
  have hl : lv_has ls 1 [(0, .ref (ad 0))] := hl
  refine lv_iconst (v := 1) hx hb dX4_all_0 (by decide) ?_
  refine lv_aload_n hx hb dX4_all_1 rfl (lv_at hl 0 rfl) ?_
  refine va_get (D := (dC, dI)) (ci := 4) (v := .int (nI n)) (C := RX4) (T := TX4) (N := 12) hx hb hw in_X4 hown hK hP 0 rfl rfl 0 (by decide) (hw _ mq_fl_X4_7) (fun _ h9 => h9) rfl dX4_all_2 ?_
  refine lv_ishl hx hb dX4_all_5 ?_
  refine lv_iconst (v := 1) hx hb dX4_all_6 (by decide) ?_
  refine lv_isub hx hb dX4_all_7 ?_
  refine lv_topi (fun z9 e9 => ?_)
  obtain rfl : z9 = nI (2 ^ n - 1) := e9.trans (bi_all hn)
  exact W.iret (v := nI (2 ^ n - 1)) hx hb hr (fun t ht hW => ⟨_, rfl, rfl, ht⟩) (fun _ h => by cases h) dX4_all_8
set_option maxHeartbeats 4000000 in
set_option maxRecDepth 100000 in
theorem c_X4_isSet (l : Launch) (dC : Nat → ClassId) (dI : Nat → Nat → Nat) (cI : ClassId) (ad : Nat → Nat) (n a b : Nat) (T H R : Nat → Nat) (O Wy tr hd us nx : Nat → Int32) (n7 : n ≤ 7) (x : Int32) : Met l yX4_isSet (wq yX4_isSet cX4_isSet 2 (some .boolean)) ({ frames := 1, cells := 0, slots := 0, locals := 20 }) (ro_P (dC, dI) classes [(cI, .int)] (mw ad cI n a b T H R O Wy tr hd us nx) [.ref (ad 0), .int x]) (vp_Si (fun r => r = nI (ed_b (decide (0 ≤ x ∧ x ≤ nI (2 ^ n - 1)))))) 0 0 (fun _ => False) := by
  refine Met.ofW (cc := cX4_isSet) (maxL := 2) (ret := (some .boolean)) (by decide) rfl ?_
  intro p e s m args below meth c s₁ B hml hv
  obtain ⟨rfl, hP, hK, hN⟩ := hv
  have hx := B.exec
  have hb := B.bytes
  have hr := B.returns
  have hlocks := B.notSynchronized
  have hts := atoms_spec (ws := (wq yX4_isSet cX4_isSet 2 (some .boolean))) B.pre
  have hw : ∀ w ∈ bigW, w.before _ s = true := fun w h => hts w (List.mem_cons_of_mem _ h)
  have hown : s.vm.findClass RX4 = some m.cls := findClass_of_methodNamed B.named
  have hl := lv_entry ([.ref (ad 0), .int x]) (n := 2) (Nat.le_of_ble_eq_true rfl)
  rw [lg_entry_eq]
  generalize (lg_sl ([.ref (ad 0), .int x]) ++ List.replicate (2 - (lg_sl ([.ref (ad 0), .int x])).length) Slot.unset).toArray = ls at hl ⊢
  have hl : lv_has ls 2 [(0, .ref (ad 0)), (1, .int x)] := hl
  refine lv_iload_n hx hb dX4_isSet_0 rfl (lv_at hl 1 rfl) ?_
  refine lv_if_lt (tgt := 16) hx hb dX4_isSet_1 (by decide) (fun b1 => ?_) (fun b1 => ?_)
  -- iflt at 1, t
  · refine lv_iconst (v := 0) hx hb dX4_isSet_16 (by decide) ?_
    exact W.zret (v := 0) hx hb hr rfl (fun t ht hW => ⟨_, rfl, zb_f (fun h => absurd h.1 (i_le_lt.mpr b1)), ht⟩) (fun _ h => by cases h) dX4_isSet_17
  -- iflt at 1, f
  · refine lv_iload_n hx hb dX4_isSet_4 rfl (lv_at hl 1 rfl) ?_
    refine lv_aload_n hx hb dX4_isSet_5 rfl (lv_at hl 0 rfl) ?_
    refine ro_V (As := []) (rest := [.int x]) (b := ad 0) ⟨hx, hb, hml, hown, hts⟩ (c_X4_all l dC dI cI ad n a b T H R O Wy tr hd us nx n7) (cwV 0 hts (bw_V mq_ml_X4_41 mq_im_X4_all mq_se_X4_all mq_in_X4 mq_co_X4_all) rfl rfl rfl (by decide +kernel) ⟨Nat.le_of_ble_eq_true rfl, Nat.le_of_ble_eq_true rfl⟩) hP hK hN 0 rfl rfl rfl hl.1 rfl (Nat.le_of_ble_eq_true rfl) dX4_isSet_6 ⟨Nat.zero_le _, Nat.zero_le _⟩ (fun r9 h9 => ?_)
    obtain rfl : r9 = nI (2 ^ n - 1) := h9
    refine lv_icmp_gt (tgt := 16) hx hb dX4_isSet_9 (by decide) (fun b9 => ?_) (fun b9 => ?_)
    -- if_icmpgt at 9, t
    · refine lv_iconst (v := 0) hx hb dX4_isSet_16 (by decide) ?_
      exact W.zret (v := 0) hx hb hr rfl (fun t ht hW => ⟨_, rfl, zb_f (fun h => absurd h.2 (i_le_lt.mpr b9)), ht⟩) (fun _ h => by cases h) dX4_isSet_17
    -- if_icmpgt at 9, f
    · refine lv_iconst (v := 1) hx hb dX4_isSet_12 (by decide) ?_
      refine lv_goto (tgt := 17) hx hb dX4_isSet_13 (by decide) ?_
      exact W.zret (v := 1) hx hb hr rfl (fun t ht hW => ⟨_, rfl, zb_t ⟨i_lt_le.mp b1, i_lt_le.mp b9⟩, ht⟩) (fun _ h => by cases h) dX4_isSet_17
set_option maxHeartbeats 4000000 in
set_option maxRecDepth 100000 in
theorem c_X4_isArc (l : Launch) (dC : Nat → ClassId) (dI : Nat → Nat → Nat) (cI : ClassId) (ad : Nat → Nat) (n a b : Nat) (T H R : Nat → Nat) (O Wy tr hd us nx : Nat → Int32) (x : Int32) : Met l yX4_isArc (wq yX4_isArc cX4_isArc 2 (some .boolean)) ({ frames := 0, cells := 0, slots := 0, locals := 0 }) (ro_P (dC, dI) classes [(cI, .int)] (mw ad cI n a b T H R O Wy tr hd us nx) [.ref (ad 0), .int x]) (vp_Si (fun r => r = nI (ed_b (decide (0 ≤ x ∧ x < nI a))))) 0 0 (fun _ => False) := by
  refine Met.ofW (cc := cX4_isArc) (maxL := 2) (ret := (some .boolean)) (by decide) rfl ?_
  intro p e s m args below meth c s₁ B hml hv
  obtain ⟨rfl, hP, hK, hN⟩ := hv
  have hx := B.exec
  have hb := B.bytes
  have hr := B.returns
  have hlocks := B.notSynchronized
  have hts := atoms_spec (ws := (wq yX4_isArc cX4_isArc 2 (some .boolean))) B.pre
  have hw : ∀ w ∈ bigW, w.before _ s = true := fun w h => hts w (List.mem_cons_of_mem _ h)
  have hown : s.vm.findClass RX4 = some m.cls := findClass_of_methodNamed B.named
  have hl := lv_entry ([.ref (ad 0), .int x]) (n := 2) (Nat.le_of_ble_eq_true rfl)
  rw [lg_entry_eq]
  generalize (lg_sl ([.ref (ad 0), .int x]) ++ List.replicate (2 - (lg_sl ([.ref (ad 0), .int x])).length) Slot.unset).toArray = ls at hl ⊢
  have hl : lv_has ls 2 [(0, .ref (ad 0)), (1, .int x)] := hl
  refine lv_iload_n hx hb dX4_isArc_0 rfl (lv_at hl 1 rfl) ?_
  refine lv_if_lt (tgt := 16) hx hb dX4_isArc_1 (by decide) (fun b1 => ?_) (fun b1 => ?_)
  -- iflt at 1, t
  · refine lv_iconst (v := 0) hx hb dX4_isArc_16 (by decide) ?_
    exact W.zret (v := 0) hx hb hr rfl (fun t ht hW => ⟨_, rfl, zb_f (fun h => absurd h.1 (i_le_lt.mpr b1)), ht⟩) (fun _ h => by cases h) dX4_isArc_17
  -- iflt at 1, f
  · refine lv_iload_n hx hb dX4_isArc_4 rfl (lv_at hl 1 rfl) ?_
    refine lv_aload_n hx hb dX4_isArc_5 rfl (lv_at hl 0 rfl) ?_
    refine va_get (D := (dC, dI)) (ci := 4) (v := .int (nI a)) (C := RX4) (T := TX4) (N := 12) hx hb hw in_X4 hown hK hP 0 rfl rfl 1 (by decide) (hw _ mq_fl_X4_45) (fun _ h9 => h9) rfl dX4_isArc_6 ?_
    refine lv_icmp_ge (tgt := 16) hx hb dX4_isArc_9 (by decide) (fun b9 => ?_) (fun b9 => ?_)
    -- if_icmpge at 9, t
    · refine lv_iconst (v := 0) hx hb dX4_isArc_16 (by decide) ?_
      exact W.zret (v := 0) hx hb hr rfl (fun t ht hW => ⟨_, rfl, zb_f (fun h => absurd h.2 (i_lt_le.mpr b9)), ht⟩) (fun _ h => by cases h) dX4_isArc_17
    -- if_icmpge at 9, f
    · refine lv_iconst (v := 1) hx hb dX4_isArc_12 (by decide) ?_
      refine lv_goto (tgt := 17) hx hb dX4_isArc_13 (by decide) ?_
      exact W.zret (v := 1) hx hb hr rfl (fun t ht hW => ⟨_, rfl, zb_t ⟨i_lt_le.mp b1, i_le_lt.mp b9⟩, ht⟩) (fun _ h => by cases h) dX4_isArc_17
set_option maxHeartbeats 4000000 in
set_option maxRecDepth 100000 in
theorem c_X4_size (l : Launch) (dC : Nat → ClassId) (dI : Nat → Nat → Nat) (cI : ClassId) (ad : Nat → Nat) (n a b : Nat) (T H R : Nat → Nat) (O Wy tr hd us nx : Nat → Int32) (X : Nat) (hX : X < 128) : Met l yX4_size (wq yX4_size cX4_size 3 (some .int)) ({ frames := 1, cells := 0, slots := 0, locals := 21 }) (ro_P (dC, dI) classes [(cI, .int)] (mw ad cI n a b T H R O Wy tr hd us nx) [.int (nI X)]) (vp_Si (fun r => r = nI (or_pop X))) 0 0 (fun _ => False) := by
  refine Met.ofW (cc := cX4_size) (maxL := 3) (ret := (some .int)) (by decide) rfl ?_
  intro p e s m args below meth c s₁ B hml hv
  obtain ⟨rfl, hP, hK, hN⟩ := hv
  have hx := B.exec
  have hb := B.bytes
  have hr := B.returns
  have hlocks := B.notSynchronized
  have hts := atoms_spec (ws := (wq yX4_size cX4_size 3 (some .int))) B.pre
  have hw : ∀ w ∈ bigW, w.before _ s = true := fun w h => hts w (List.mem_cons_of_mem _ h)
  have hown : s.vm.findClass RX4 = some m.cls := findClass_of_methodNamed B.named
  have hl := lv_entry ([.int (nI X)]) (n := 3) (Nat.le_of_ble_eq_true rfl)
  rw [lg_entry_eq]
  generalize (lg_sl ([.int (nI X)]) ++ List.replicate (3 - (lg_sl ([.int (nI X)])).length) Slot.unset).toArray = ls at hl ⊢
  have hl : lv_has ls 3 [(0, .int (nI X))] := hl
  refine lv_iconst (v := nI (ed_ct (Nat.testBit X) 0)) hx hb dX4_size_0 rfl ?_
  refine lv_istore_n (lv' := [(1, .int (nI (ed_ct (Nat.testBit X) 0))), (0, .int (nI X))]) hx hb dX4_size_1 rfl hl (by decide) rfl (fun ls hl => ?_)
  refine lv_iconst (v := nI 0) hx hb dX4_size_2 (by decide) ?_
  refine lv_istore_n (lv' := [(2, .int (nI 0)), (1, .int (nI (ed_ct (Nat.testBit X) 0))), (0, .int (nI X))]) hx hb dX4_size_3 rfl hl (by decide) rfl (fun ls hl => ?_)
  refine wl_loop (fun k9 ls => ∃ (i : Nat), 7 - i = k9 ∧ (i ≤ 7) ∧ lv_has ls 3 [(0, .int (nI X)), (1, .int (nI (ed_ct (Nat.testBit X) i))), (2, .int (nI i))]) ?_ _ ⟨0, rfl, by omega, lv_sub hl [2, 1, 0] rfl⟩
  clear hl
  intro k9 ls ih9 h9
  obtain ⟨i, k9e, hi, hl⟩ := h9
  have ih_4 := ih9
  clear ih9
  subst k9e
  refine lv_iload_n hx hb dX4_size_4 rfl (lv_at hl 2 rfl) ?_
  refine lv_bipush (v := nI 7) hx hb dX4_size_5 (by decide) ?_
  refine lv_icmp_ge (tgt := 32) hx hb dX4_size_7 (by decide) (fun b7 => ?_) (fun b7 => ?_)
  -- if_icmpge at 7, t
  · have t7 := (nI_leI (by omega) (by omega)).mp b7
    have e7 : i = 7 := by omega
    refine lv_iload_n hx hb dX4_size_32 rfl (lv_at hl 1 rfl) ?_
    exact W.iret (v := nI (ed_ct (Nat.testBit X) i)) hx hb hr (fun t ht hW => ⟨_, rfl, (by rw [e7]; rfl), ht⟩) (fun _ h => by cases h) dX4_size_33
  -- if_icmpge at 7, f
  · have t7 : i < 7 := Nat.lt_of_not_le (fun z => b7 (nI_le z (by omega)))
    refine lv_iload_n hx hb dX4_size_10 rfl (lv_at hl 0 rfl) ?_
    refine lv_iload_n hx hb dX4_size_11 rfl (lv_at hl 2 rfl) ?_
    refine ro_S (As := [.int (nI X), .int (nI i)]) (rest := []) ⟨hx, hb, hml, hown, hts⟩ (c_X4_has l dC dI cI ad n a b T H R O Wy tr hd us nx X i (by omega) (by omega)) (cwS 2 hts (bw_S mq_ml_X4_48 mq_st_X4_has mq_in_X4 mq_co_X4_has) rfl rfl rfl (by decide +kernel) ⟨Nat.le_of_ble_eq_true rfl, Nat.le_of_ble_eq_true rfl⟩) hP hK hN rfl hl.1 rfl (Nat.le_of_ble_eq_true rfl) dX4_size_12 ⟨Nat.zero_le _, Nat.zero_le _⟩ (fun r9 h9 => ?_)
    obtain rfl : r9 = nI (ed_b (Nat.testBit X i)) := h9
    refine lv_if_eq (tgt := 24) hx hb dX4_size_15 (by decide) (fun b15 => ?_) (fun b15 => ?_)
    -- ifeq at 15, t
    · have t15 := zb_0.mp b15
      refine lv_iload_n hx hb dX4_size_24 rfl (lv_at hl 1 rfl) ?_
      refine lv_istore_n (lv' := [(1, .int (nI (ed_ct (Nat.testBit X) i))), (0, .int (nI X)), (2, .int (nI i))]) hx hb dX4_size_25 rfl hl (by decide) rfl (fun ls hl => ?_)
      refine lv_iinc (k := 2) (v := nI (i + 1)) (lv' := [(2, .int (nI (i + 1))), (1, .int (nI (ed_ct (Nat.testBit X) i))), (0, .int (nI X))]) hx hb dX4_size_26 hl rfl (ii_1 _) (by decide) rfl (fun ls hl => ?_)
      refine lv_goto (tgt := 4) hx hb dX4_size_29 (by decide) ?_
      have e8 : ed_ct (Nat.testBit X) (i + 1) = ed_ct (Nat.testBit X) i := by rw [ed_ct_s, t15]; rfl
      rw [← e8] at hl
      exact ih_4 _ _ (by omega) ⟨i + 1, rfl, by omega, lv_sub hl [2, 1, 0] rfl⟩
    -- ifeq at 15, f
    · have t15 := zb_n0.mp b15
      refine lv_iload_n hx hb dX4_size_18 rfl (lv_at hl 1 rfl) ?_
      refine lv_iconst (v := 1) hx hb dX4_size_19 (by decide) ?_
      refine lv_iadd hx hb dX4_size_20 ?_
      refine lv_topi (fun z9 e9 => ?_)
      obtain rfl : z9 = nI (ed_ct (Nat.testBit X) i + 1) := e9.trans (nI_1 _)
      refine lv_goto (tgt := 25) hx hb dX4_size_21 (by decide) ?_
      refine lv_istore_n (lv' := [(1, .int (nI (ed_ct (Nat.testBit X) i + 1))), (0, .int (nI X)), (2, .int (nI i))]) hx hb dX4_size_25 rfl hl (by decide) rfl (fun ls hl => ?_)
      refine lv_iinc (k := 2) (v := nI (i + 1)) (lv' := [(2, .int (nI (i + 1))), (1, .int (nI (ed_ct (Nat.testBit X) i + 1))), (0, .int (nI X))]) hx hb dX4_size_26 hl rfl (ii_1 _) (by decide) rfl (fun ls hl => ?_)
      refine lv_goto (tgt := 4) hx hb dX4_size_29 (by decide) ?_
      have e8 : ed_ct (Nat.testBit X) (i + 1) = ed_ct (Nat.testBit X) i + 1 := by rw [ed_ct_s, t15]; rfl
      rw [← e8] at hl
      exact ih_4 _ _ (by omega) ⟨i + 1, rfl, by omega, lv_sub hl [2, 1, 0] rfl⟩
set_option maxHeartbeats 4000000 in
set_option maxRecDepth 100000 in
theorem c_X4_isBefore (l : Launch) (dC : Nat → ClassId) (dI : Nat → Nat → Nat) (cI : ClassId) (ad : Nat → Nat) (n a b : Nat) (T H R : Nat → Nat) (O Wy tr hd us nx : Nat → Int32) (X Y : Nat) (hX : X < 128) (hY : Y < 128) : Met l yX4_isBefore (wq yX4_isBefore cX4_isBefore 3 (some .boolean)) ({ frames := 2, cells := 0, slots := 0, locals := 43 }) (ro_P (dC, dI) classes [(cI, .int)] (mw ad cI n a b T H R O Wy tr hd us nx) [.int (nI X), .int (nI Y)]) (vp_Si (fun r => r = nI (ed_b (or_bf X Y)))) 0 0 (fun _ => False) := by
  have zX : or_pop X ≤ 7 := ed_ct_le _ _
  have zY : or_pop Y ≤ 7 := ed_ct_le _ _
  refine Met.ofW (cc := cX4_isBefore) (maxL := 3) (ret := (some .boolean)) (by decide) rfl ?_
  intro p e s m args below meth c s₁ B hml hv
  obtain ⟨rfl, hP, hK, hN⟩ := hv
  have hx := B.exec
  have hb := B.bytes
  have hr := B.returns
  have hlocks := B.notSynchronized
  have hts := atoms_spec (ws := (wq yX4_isBefore cX4_isBefore 3 (some .boolean))) B.pre
  have hw : ∀ w ∈ bigW, w.before _ s = true := fun w h => hts w (List.mem_cons_of_mem _ h)
  have hown : s.vm.findClass RX4 = some m.cls := findClass_of_methodNamed B.named
  have hl := lv_entry ([.int (nI X), .int (nI Y)]) (n := 3) (Nat.le_of_ble_eq_true rfl)
  rw [lg_entry_eq]
  generalize (lg_sl ([.int (nI X), .int (nI Y)]) ++ List.replicate (3 - (lg_sl ([.int (nI X), .int (nI Y)])).length) Slot.unset).toArray = ls at hl ⊢
  have hl : lv_has ls 3 [(0, .int (nI X)), (1, .int (nI Y))] := hl
  refine lv_iload_n hx hb dX4_isBefore_0 rfl (lv_at hl 0 rfl) ?_
  refine ro_S (As := [.int (nI X)]) (rest := []) ⟨hx, hb, hml, hown, hts⟩ (c_X4_size l dC dI cI ad n a b T H R O Wy tr hd us nx X hX) (cwS 1 hts (bw_S mq_ml_X4_52 mq_st_X4_size mq_in_X4 mq_co_X4_size) rfl rfl rfl (by decide +kernel) ⟨Nat.le_of_ble_eq_true rfl, Nat.le_of_ble_eq_true rfl⟩) hP hK hN rfl hl.1 rfl (Nat.le_of_ble_eq_true rfl) dX4_isBefore_1 ⟨Nat.zero_le _, Nat.zero_le _⟩ (fun r9 h9 => ?_)
  obtain rfl : r9 = nI (or_pop X) := h9
  refine lv_iload_n hx hb dX4_isBefore_4 rfl (lv_at hl 1 rfl) ?_
  refine ro_S (As := [.int (nI Y)]) (rest := [.int (nI (or_pop X))]) ⟨hx, hb, hml, hown, hts⟩ (c_X4_size l dC dI cI ad n a b T H R O Wy tr hd us nx Y hY) (cwS 1 hts (bw_S mq_ml_X4_52 mq_st_X4_size mq_in_X4 mq_co_X4_size) rfl rfl rfl (by decide +kernel) ⟨Nat.le_of_ble_eq_true rfl, Nat.le_of_ble_eq_true rfl⟩) hP hK hN rfl hl.1 rfl (Nat.le_of_ble_eq_true rfl) dX4_isBefore_5 ⟨Nat.zero_le _, Nat.zero_le _⟩ (fun r9 h9 => ?_)
  obtain rfl : r9 = nI (or_pop Y) := h9
  refine lv_icmp_eq (tgt := 28) hx hb dX4_isBefore_8 (by decide) (fun b8 => ?_) (fun b8 => ?_)
  -- if_icmpeq at 8, t
  · have t8 := (nI_eq (by omega) (by omega)).mp b8
    refine lv_iconst (v := nI 0) hx hb dX4_isBefore_28 (by decide) ?_
    refine lv_istore_n (lv' := [(2, .int (nI 0)), (0, .int (nI X)), (1, .int (nI Y))]) hx hb dX4_isBefore_29 rfl hl (by decide) rfl (fun ls hl => ?_)
    refine wl_loop (fun k9 ls => ∃ (i : Nat), 7 - i = k9 ∧ (i ≤ 7) ∧ (∀ j, j < i → (X.testBit j != Y.testBit j) = false) ∧ lv_has ls 3 [(0, .int (nI X)), (1, .int (nI Y)), (2, .int (nI i))]) ?_ _ ⟨0, rfl, by omega, fun j hj => by omega, lv_sub hl [1, 2, 0] rfl⟩
    clear hl
    intro k9 ls ih9 h9
    obtain ⟨i, k9e, hi, hs, hl⟩ := h9
    have ih_30 := ih9
    clear ih9
    subst k9e
    refine lv_iload_n hx hb dX4_isBefore_30 rfl (lv_at hl 2 rfl) ?_
    refine lv_bipush (v := nI 7) hx hb dX4_isBefore_31 (by decide) ?_
    refine lv_icmp_ge (tgt := 55) hx hb dX4_isBefore_33 (by decide) (fun b33 => ?_) (fun b33 => ?_)
    -- if_icmpge at 33, t
    · have t33 := (nI_leI (by omega) (by omega)).mp b33
      have e55 : or_dif X Y = 7 := ed_fd_no (fun j hj => hs j (by omega))
      refine lv_iload_n hx hb dX4_isBefore_55 rfl (lv_at hl 2 rfl) ?_
      refine lv_bipush (v := nI 7) hx hb dX4_isBefore_56 (by decide) ?_
      refine lv_icmp_ge (tgt := 73) hx hb dX4_isBefore_58 (by decide) (fun _ => ?_) (fun b9 => absurd (nI_le (by omega) (by omega)) b9)
      refine lv_iconst (v := 0) hx hb dX4_isBefore_73 (by decide) ?_
      exact W.zret (v := 0) hx hb hr rfl (fun t ht hW => ⟨_, rfl, zb_F (by rw [or_bf, if_pos t8, e55, decide_eq_false (by omega), Bool.false_and]), ht⟩) (fun _ h => by cases h) dX4_isBefore_74
    -- if_icmpge at 33, f
    · have t33 : i < 7 := Nat.lt_of_not_le (fun z => b33 (nI_le z (by omega)))
      refine lv_iload_n hx hb dX4_isBefore_36 rfl (lv_at hl 0 rfl) ?_
      refine lv_iload_n hx hb dX4_isBefore_37 rfl (lv_at hl 2 rfl) ?_
      refine ro_S (As := [.int (nI X), .int (nI i)]) (rest := []) ⟨hx, hb, hml, hown, hts⟩ (c_X4_has l dC dI cI ad n a b T H R O Wy tr hd us nx X i (by omega) (by omega)) (cwS 2 hts (bw_S mq_ml_X4_48 mq_st_X4_has mq_in_X4 mq_co_X4_has) rfl rfl rfl (by decide +kernel) ⟨Nat.le_of_ble_eq_true rfl, Nat.le_of_ble_eq_true rfl⟩) hP hK hN rfl hl.1 rfl (Nat.le_of_ble_eq_true rfl) dX4_isBefore_38 ⟨Nat.zero_le _, Nat.zero_le _⟩ (fun r9 h9 => ?_)
      obtain rfl : r9 = nI (ed_b (Nat.testBit X i)) := h9
      refine lv_iload_n hx hb dX4_isBefore_41 rfl (lv_at hl 1 rfl) ?_
      refine lv_iload_n hx hb dX4_isBefore_42 rfl (lv_at hl 2 rfl) ?_
      refine ro_S (As := [.int (nI Y), .int (nI i)]) (rest := [.int (nI (ed_b (Nat.testBit X i)))]) ⟨hx, hb, hml, hown, hts⟩ (c_X4_has l dC dI cI ad n a b T H R O Wy tr hd us nx Y i (by omega) (by omega)) (cwS 2 hts (bw_S mq_ml_X4_48 mq_st_X4_has mq_in_X4 mq_co_X4_has) rfl rfl rfl (by decide +kernel) ⟨Nat.le_of_ble_eq_true rfl, Nat.le_of_ble_eq_true rfl⟩) hP hK hN rfl hl.1 rfl (Nat.le_of_ble_eq_true rfl) dX4_isBefore_43 ⟨Nat.zero_le _, Nat.zero_le _⟩ (fun r9 h9 => ?_)
      obtain rfl : r9 = nI (ed_b (Nat.testBit Y i)) := h9
      refine lv_icmp_ne (tgt := 55) hx hb dX4_isBefore_46 (by decide) (fun b46 => ?_) (fun b46 => ?_)
      -- if_icmpne at 46, t
      · have e55 : or_dif X Y = i := ed_fd_eq t33 (bne_iff_ne.mpr (fun z => b46 (by rw [z]))) hs
        refine lv_iload_n hx hb dX4_isBefore_55 rfl (lv_at hl 2 rfl) ?_
        refine lv_bipush (v := nI 7) hx hb dX4_isBefore_56 (by decide) ?_
        refine lv_icmp_ge (tgt := 73) hx hb dX4_isBefore_58 (by decide) (fun b9 => absurd b9 (fun z => absurd ((nI_leI (by omega) (by omega)).mp z) (by omega))) (fun _ => ?_)
        refine lv_iload_n hx hb dX4_isBefore_61 rfl (lv_at hl 0 rfl) ?_
        refine lv_iload_n hx hb dX4_isBefore_62 rfl (lv_at hl 2 rfl) ?_
        refine ro_S (As := [.int (nI X), .int (nI i)]) (rest := []) ⟨hx, hb, hml, hown, hts⟩ (c_X4_has l dC dI cI ad n a b T H R O Wy tr hd us nx X i (by omega) (by omega)) (cwS 2 hts (bw_S mq_ml_X4_48 mq_st_X4_has mq_in_X4 mq_co_X4_has) rfl rfl rfl (by decide +kernel) ⟨Nat.le_of_ble_eq_true rfl, Nat.le_of_ble_eq_true rfl⟩) hP hK hN rfl hl.1 rfl (Nat.le_of_ble_eq_true rfl) dX4_isBefore_63 ⟨Nat.zero_le _, Nat.zero_le _⟩ (fun r9 h9 => ?_)
        obtain rfl : r9 = nI (ed_b (Nat.testBit X i)) := h9
        refine lv_if_eq (tgt := 73) hx hb dX4_isBefore_66 (by decide) (fun b66 => ?_) (fun b66 => ?_)
        -- ifeq at 66, t
        · have t66 := zb_0.mp b66
          refine lv_iconst (v := 0) hx hb dX4_isBefore_73 (by decide) ?_
          exact W.zret (v := 0) hx hb hr rfl (fun t ht hW => ⟨_, rfl, zb_F (by rw [or_bf, if_pos t8, e55, t66, Bool.and_false]), ht⟩) (fun _ h => by cases h) dX4_isBefore_74
        -- ifeq at 66, f
        · have t66 := zb_n0.mp b66
          refine lv_iconst (v := 1) hx hb dX4_isBefore_69 (by decide) ?_
          refine lv_goto (tgt := 74) hx hb dX4_isBefore_70 (by decide) ?_
          exact W.zret (v := 1) hx hb hr rfl (fun t ht hW => ⟨_, rfl, zb_T (by rw [or_bf, if_pos t8, e55, decide_eq_true t33, t66]; rfl), ht⟩) (fun _ h => by cases h) dX4_isBefore_74
      -- if_icmpne at 46, f
      · refine lv_iinc (k := 2) (v := nI (i + 1)) (lv' := [(2, .int (nI (i + 1))), (0, .int (nI X)), (1, .int (nI Y))]) hx hb dX4_isBefore_49 hl rfl (ii_1 _) (by decide) rfl (fun ls hl => ?_)
        refine lv_goto (tgt := 30) hx hb dX4_isBefore_52 (by decide) ?_
        have hs2 : ∀ j, j < i + 1 → (X.testBit j != Y.testBit j) = false := by
          intro j hj
          rcases Nat.lt_or_ge j i with y3 | y3
          · exact hs j y3
          · have y4 : j = i := by omega
            rw [y4, zb_eq.mp b46]
            cases Y.testBit i <;> rfl
        exact ih_30 _ _ (by omega) ⟨i + 1, rfl, by omega, hs2, lv_sub hl [1, 2, 0] rfl⟩
  -- if_icmpeq at 8, f
  · have t8 : ¬ or_pop X = or_pop Y := fun z => b8 (by rw [z])
    refine lv_iload_n hx hb dX4_isBefore_11 rfl (lv_at hl 0 rfl) ?_
    refine ro_S (As := [.int (nI X)]) (rest := []) ⟨hx, hb, hml, hown, hts⟩ (c_X4_size l dC dI cI ad n a b T H R O Wy tr hd us nx X hX) (cwS 1 hts (bw_S mq_ml_X4_52 mq_st_X4_size mq_in_X4 mq_co_X4_size) rfl rfl rfl (by decide +kernel) ⟨Nat.le_of_ble_eq_true rfl, Nat.le_of_ble_eq_true rfl⟩) hP hK hN rfl hl.1 rfl (Nat.le_of_ble_eq_true rfl) dX4_isBefore_12 ⟨Nat.zero_le _, Nat.zero_le _⟩ (fun r9 h9 => ?_)
    obtain rfl : r9 = nI (or_pop X) := h9
    refine lv_iload_n hx hb dX4_isBefore_15 rfl (lv_at hl 1 rfl) ?_
    refine ro_S (As := [.int (nI Y)]) (rest := [.int (nI (or_pop X))]) ⟨hx, hb, hml, hown, hts⟩ (c_X4_size l dC dI cI ad n a b T H R O Wy tr hd us nx Y hY) (cwS 1 hts (bw_S mq_ml_X4_52 mq_st_X4_size mq_in_X4 mq_co_X4_size) rfl rfl rfl (by decide +kernel) ⟨Nat.le_of_ble_eq_true rfl, Nat.le_of_ble_eq_true rfl⟩) hP hK hN rfl hl.1 rfl (Nat.le_of_ble_eq_true rfl) dX4_isBefore_16 ⟨Nat.zero_le _, Nat.zero_le _⟩ (fun r9 h9 => ?_)
    obtain rfl : r9 = nI (or_pop Y) := h9
    refine lv_icmp_ge (tgt := 26) hx hb dX4_isBefore_19 (by decide) (fun b19 => ?_) (fun b19 => ?_)
    -- if_icmpge at 19, t
    · have t19 := (nI_leI (by omega) (by omega)).mp b19
      refine lv_iconst (v := 0) hx hb dX4_isBefore_26 (by decide) ?_
      exact W.zret (v := 0) hx hb hr rfl (fun t ht hW => ⟨_, rfl, zb_F (by rw [or_bf, if_neg t8, decide_eq_false (by omega)]), ht⟩) (fun _ h => by cases h) dX4_isBefore_27
    -- if_icmpge at 19, f
    · have t19 := Nat.lt_of_not_le (fun z => b19 (nI_le z (by omega)))
      refine lv_iconst (v := 1) hx hb dX4_isBefore_22 (by decide) ?_
      refine lv_goto (tgt := 27) hx hb dX4_isBefore_23 (by decide) ?_
      exact W.zret (v := 1) hx hb hr rfl (fun t ht hW => ⟨_, rfl, zb_T (by rw [or_bf, if_neg t8, decide_eq_true t19]), ht⟩) (fun _ h => by cases h) dX4_isBefore_27
set_option maxHeartbeats 4000000 in
set_option maxRecDepth 100000 in
theorem c_X4_begin (l : Launch) (dC : Nat → ClassId) (dI : Nat → Nat → Nat) (cI : ClassId) (ad : Nat → Nat) (n a b : Nat) (T H R : Nat → Nat) (O Wy tr hd us nx : Nat → Int32) (sz : Nat) (x : Int32) : Met l yX4_begin (wq yX4_begin cX4_begin 2 (some .boolean)) ({ frames := 0, cells := 0, slots := 0, locals := 0 }) (mu_P (dC, dI) classes [(cI, .int)] (mw ad cI n a b T H R O Wy tr hd us nx) sz [.ref (ad 0), .int x]) (va_Qi (fun (r : Int32) (_ : Unit) => r = (bgF x n a b).1) (mu_B (dC, dI) classes [(cI, .int)] (mw ad cI n a b T H R O Wy tr hd us nx) sz (fun _ => mw ad cI (bgF x n a b).2.1 (bgF x n a b).2.2.1 (bgF x n a b).2.2.2 T H R O Wy tr hd us nx)) (va_A (mw ad cI n a b T H R O Wy tr hd us nx) sz)) 0 0 (va_A (mw ad cI n a b T H R O Wy tr hd us nx) sz) := by
  refine Met.ofW (cc := cX4_begin) (maxL := 2) (ret := (some .boolean)) (by decide) rfl ?_
  intro p e s m args below meth c s₁ B hml hv
  obtain ⟨rfl, hsz, hP, hK, hN, hD0⟩ := hv
  have hx := B.exec
  have hb := B.bytes
  have hr := B.returns
  have hlocks := B.notSynchronized
  have hts := atoms_spec (ws := (wq yX4_begin cX4_begin 2 (some .boolean))) B.pre
  have hw : ∀ w ∈ bigW, w.before _ s = true := fun w h => hts w (List.mem_cons_of_mem _ h)
  have hown : s.vm.findClass RX4 = some m.cls := findClass_of_methodNamed B.named
  subst hsz
  have hD := hD0.self (sz := s.heap.size)
  generalize hAe : va_A (mw ad cI n a b T H R O Wy tr hd us nx) s.heap.size = A at hD ⊢
  have hA : ∀ q : Nat, s.heap.size ≤ q → A q := fun q h => by rw [← hAe]; exact Or.inr h
  have hS : va_S A s.heap s.heap [] := va_S.rf
  have hl := lv_entry ([.ref (ad 0), .int x]) (n := 2) (Nat.le_of_ble_eq_true rfl)
  rw [lg_entry_eq]
  generalize (lg_sl ([.ref (ad 0), .int x]) ++ List.replicate (2 - (lg_sl ([.ref (ad 0), .int x])).length) Slot.unset).toArray = ls at hl ⊢
  have hl : lv_has ls 2 [(0, .ref (ad 0)), (1, .int x)] := hl
  refine lv_iload_n hx hb dX4_begin_0 rfl (lv_at hl 1 rfl) ?_
  refine lv_iconst (v := 1) hx hb dX4_begin_1 (by decide) ?_
  refine lv_icmp_lt (tgt := 11) hx hb dX4_begin_2 (by decide) (fun b2 => ?_) (fun b2 => ?_)
  -- if_icmplt at 2, t
  · refine lv_iconst (v := 0) hx hb dX4_begin_11 (by decide) ?_
    have e8 : bgF x n a b = (0, n, a, b) := if_neg (fun h => absurd h.1 (i_le_lt.mpr b2))
    have hP : va_P (dC, dI) classes (mw ad cI (bgF x n a b).2.1 (bgF x n a b).2.2.1 (bgF x n a b).2.2.2 T H R O Wy tr hd us nx) s.heap := by rw [e8]; exact hP
    have hD : va_D A (mw ad cI (bgF x n a b).2.1 (bgF x n a b).2.2.1 (bgF x n a b).2.2.2 T H R O Wy tr hd us nx) := by rw [e8]; exact hD
    exact W.zret (v := 0) hx hb hr rfl (fun t ht hW => ⟨⟨_, (), rfl, by rw [e8], by rw [ht]; exact hP, va_K.moved hW.alike hK, by rw [hAe]; exact hD⟩, hS.F ht⟩) hS.2.2 dX4_begin_12
  -- if_icmplt at 2, f
  · refine lv_iload_n hx hb dX4_begin_5 rfl (lv_at hl 1 rfl) ?_
    refine lv_bipush (v := 7) hx hb dX4_begin_6 (by decide) ?_
    refine lv_icmp_le (tgt := 13) hx hb dX4_begin_8 (by decide) (fun b8 => ?_) (fun b8 => ?_)
    -- if_icmple at 8, t
    · have hv1 := i_lt_le.mp b2
      obtain ⟨v, hv, rfl⟩ := nI_of2 (x := x) (M := 7) (n := 7) (by decide) (i_lt_le.mpr (Int32.le_trans (by decide) hv1)) b8
      replace hv1 : 1 ≤ v := (nI_leI (a := 1) (by omega) (by omega)).mp hv1
      refine lv_aload_n hx hb dX4_begin_13 rfl (lv_at hl 0 rfl) ?_
      refine lv_iload_n hx hb dX4_begin_14 rfl (lv_at hl 1 rfl) ?_
      refine va_put (D := (dC, dI)) (ci := 4) (v := .int (nI v)) (ty := .int) (C := RX4) (T := TX4) (N := 12) hx hb hw in_X4 tyX4 tyX4_ok nmX4 hown hK hP hD hS 0 rfl rfl 0 (by decide) (hw _ mq_fl_X4_7) (fun _ h9 => h9) rfl (by decide +kernel) rfl rfl (Nat.le_of_ble_eq_true rfl) dX4_begin_15 (fun Hp locs hP hD hS => ?_)
      have hP : va_P (dC, dI) classes (mw ad cI v a b T H R O Wy tr hd us nx) Hp := hP
      have hD : va_D A (mw ad cI v a b T H R O Wy tr hd us nx) := hD
      refine lv_aload_n hx hb dX4_begin_18 rfl (lv_at hl 0 rfl) ?_
      refine lv_iconst (v := nI 0) hx hb dX4_begin_19 (by decide) ?_
      refine va_put (D := (dC, dI)) (ci := 4) (v := .int (nI 0)) (ty := .int) (C := RX4) (T := TX4) (N := 12) hx hb hw in_X4 tyX4 tyX4_ok nmX4 hown hK hP hD hS 0 rfl rfl 1 (by decide) (hw _ mq_fl_X4_45) (fun _ h9 => h9) rfl (by decide +kernel) rfl rfl (Nat.le_of_ble_eq_true rfl) dX4_begin_20 (fun Hp locs hP hD hS => ?_)
      have hP : va_P (dC, dI) classes (mw ad cI v 0 b T H R O Wy tr hd us nx) Hp := hP
      have hD : va_D A (mw ad cI v 0 b T H R O Wy tr hd us nx) := hD
      refine lv_aload_n hx hb dX4_begin_23 rfl (lv_at hl 0 rfl) ?_
      refine lv_iconst (v := nI 0) hx hb dX4_begin_24 (by decide) ?_
      refine va_put (D := (dC, dI)) (ci := 4) (v := .int (nI 0)) (ty := .int) (C := RX4) (T := TX4) (N := 12) hx hb hw in_X4 tyX4 tyX4_ok nmX4 hown hK hP hD hS 0 rfl rfl 2 (by decide) (hw _ mq_fl_X4_56) (fun _ h9 => h9) rfl (by decide +kernel) rfl rfl (Nat.le_of_ble_eq_true rfl) dX4_begin_25 (fun Hp locs hP hD hS => ?_)
      have hP : va_P (dC, dI) classes (mw ad cI v 0 0 T H R O Wy tr hd us nx) Hp := hP
      have hD : va_D A (mw ad cI v 0 0 T H R O Wy tr hd us nx) := hD
      refine lv_iconst (v := 1) hx hb dX4_begin_28 (by decide) ?_
      have e8 : bgF (nI v) n a b = (1, v, 0, 0) := by rw [bgF, if_pos ⟨nI_le (a := 1) hv1 (by omega), nI_le (b := 7) hv (by omega)⟩, nI_clamp (by omega)]
      have hP : va_P (dC, dI) classes (mw ad cI (bgF (nI v) n a b).2.1 (bgF (nI v) n a b).2.2.1 (bgF (nI v) n a b).2.2.2 T H R O Wy tr hd us nx) Hp := by rw [e8]; exact hP
      have hD : va_D A (mw ad cI (bgF (nI v) n a b).2.1 (bgF (nI v) n a b).2.2.1 (bgF (nI v) n a b).2.2.2 T H R O Wy tr hd us nx) := by rw [e8]; exact hD
      exact W.zret (v := 1) hx hb hr rfl (fun t ht hW => ⟨⟨_, (), rfl, by rw [e8], by rw [ht]; exact hP, va_K.moved hW.alike hK, by rw [hAe]; exact hD⟩, hS.F ht⟩) hS.2.2 dX4_begin_29
    -- if_icmple at 8, f
    · refine lv_iconst (v := 0) hx hb dX4_begin_11 (by decide) ?_
      have e8 : bgF x n a b = (0, n, a, b) := if_neg (fun h => absurd h.2 b8)
      have hP : va_P (dC, dI) classes (mw ad cI (bgF x n a b).2.1 (bgF x n a b).2.2.1 (bgF x n a b).2.2.2 T H R O Wy tr hd us nx) s.heap := by rw [e8]; exact hP
      have hD : va_D A (mw ad cI (bgF x n a b).2.1 (bgF x n a b).2.2.1 (bgF x n a b).2.2.2 T H R O Wy tr hd us nx) := by rw [e8]; exact hD
      exact W.zret (v := 0) hx hb hr rfl (fun t ht hW => ⟨⟨_, (), rfl, by rw [e8], by rw [ht]; exact hP, va_K.moved hW.alike hK, by rw [hAe]; exact hD⟩, hS.F ht⟩) hS.2.2 dX4_begin_12
set_option maxHeartbeats 4000000 in
set_option maxRecDepth 100000 in
theorem c_X4_arc (l : Launch) (dC : Nat → ClassId) (dI : Nat → Nat → Nat) (cI : ClassId) (ad : Nat → Nat) (n a b : Nat) (T H R : Nat → Nat) (O Wy tr hd us nx : Nat → Int32) (sz : Nat) (x y : Int32) (n7 : n ≤ 7) (a14 : a ≤ 14) : Met l yX4_arc (wq yX4_arc cX4_arc 3 (some .int)) ({ frames := 0, cells := 0, slots := 0, locals := 0 }) (mu_P (dC, dI) classes [(cI, .int)] (mw ad cI n a b T H R O Wy tr hd us nx) sz [.ref (ad 0), .int x, .int y]) (va_Qi (fun (r : Int32) (_ : Unit) => r = (arF n a T H x y).1) (mu_B (dC, dI) classes [(cI, .int)] (mw ad cI n a b T H R O Wy tr hd us nx) sz (fun _ => mw ad cI n (arF n a T H x y).2.1 b (arF n a T H x y).2.2.1 (arF n a T H x y).2.2.2 R O Wy tr hd us nx)) (va_A (mw ad cI n a b T H R O Wy tr hd us nx) sz)) 0 0 (va_A (mw ad cI n a b T H R O Wy tr hd us nx) sz) := by
  refine Met.ofW (cc := cX4_arc) (maxL := 3) (ret := (some .int)) (by decide) rfl ?_
  intro p e s m args below meth c s₁ B hml hv
  obtain ⟨rfl, hsz, hP, hK, hN, hD0⟩ := hv
  have hx := B.exec
  have hb := B.bytes
  have hr := B.returns
  have hlocks := B.notSynchronized
  have hts := atoms_spec (ws := (wq yX4_arc cX4_arc 3 (some .int))) B.pre
  have hw : ∀ w ∈ bigW, w.before _ s = true := fun w h => hts w (List.mem_cons_of_mem _ h)
  have hown : s.vm.findClass RX4 = some m.cls := findClass_of_methodNamed B.named
  subst hsz
  have hD := hD0.self (sz := s.heap.size)
  generalize hAe : va_A (mw ad cI n a b T H R O Wy tr hd us nx) s.heap.size = A at hD ⊢
  have hA : ∀ q : Nat, s.heap.size ≤ q → A q := fun q h => by rw [← hAe]; exact Or.inr h
  have hS : va_S A s.heap s.heap [] := va_S.rf
  have hl := lv_entry ([.ref (ad 0), .int x, .int y]) (n := 3) (Nat.le_of_ble_eq_true rfl)
  rw [lg_entry_eq]
  generalize (lg_sl ([.ref (ad 0), .int x, .int y]) ++ List.replicate (3 - (lg_sl ([.ref (ad 0), .int x, .int y])).length) Slot.unset).toArray = ls at hl ⊢
  have hl : lv_has ls 3 [(0, .ref (ad 0)), (1, .int x), (2, .int y)] := hl
  refine lv_aload_n hx hb dX4_arc_0 rfl (lv_at hl 0 rfl) ?_
  refine va_get (D := (dC, dI)) (ci := 4) (v := .int (nI a)) (C := RX4) (T := TX4) (N := 12) hx hb hw in_X4 hown hK hP 0 rfl rfl 1 (by decide) (hw _ mq_fl_X4_45) (fun _ h9 => h9) rfl dX4_arc_1 ?_
  refine lv_bipush (v := nI 14) hx hb dX4_arc_4 (by decide) ?_
  refine lv_icmp_eq (tgt := 38) hx hb dX4_arc_6 (by decide) (fun b6 => ?_) (fun b6 => ?_)
  -- if_icmpeq at 6, t
  · have t6 := (nI_eq (by omega) (by omega)).mp b6
    refine lv_iconst (v := -1) hx hb dX4_arc_38 (by decide) ?_
    have e8 : arF n a T H x y = (-1, a, T, H) := if_neg (fun h => absurd h.1 (by omega))
    have hP : va_P (dC, dI) classes (mw ad cI n (arF n a T H x y).2.1 b (arF n a T H x y).2.2.1 (arF n a T H x y).2.2.2 R O Wy tr hd us nx) s.heap := by rw [e8]; exact hP
    have hD : va_D A (mw ad cI n (arF n a T H x y).2.1 b (arF n a T H x y).2.2.1 (arF n a T H x y).2.2.2 R O Wy tr hd us nx) := by rw [e8]; exact hD
    exact W.iret (v := -1) hx hb hr (fun t ht hW => ⟨⟨_, (), rfl, by rw [e8], by rw [ht]; exact hP, va_K.moved hW.alike hK, by rw [hAe]; exact hD⟩, hS.F ht⟩) hS.2.2 dX4_arc_39
  -- if_icmpeq at 6, f
  · have z6 : ¬ a = 14 := fun z => b6 (by rw [z])
    have t6 : a < 14 := by omega
    refine lv_iload_n hx hb dX4_arc_9 rfl (lv_at hl 1 rfl) ?_
    refine lv_if_lt (tgt := 38) hx hb dX4_arc_10 (by decide) (fun b10 => ?_) (fun b10 => ?_)
    -- iflt at 10, t
    · refine lv_iconst (v := -1) hx hb dX4_arc_38 (by decide) ?_
      have e8 : arF n a T H x y = (-1, a, T, H) := if_neg (fun h => absurd h.2.1.1 (i_le_lt.mpr b10))
      have hP : va_P (dC, dI) classes (mw ad cI n (arF n a T H x y).2.1 b (arF n a T H x y).2.2.1 (arF n a T H x y).2.2.2 R O Wy tr hd us nx) s.heap := by rw [e8]; exact hP
      have hD : va_D A (mw ad cI n (arF n a T H x y).2.1 b (arF n a T H x y).2.2.1 (arF n a T H x y).2.2.2 R O Wy tr hd us nx) := by rw [e8]; exact hD
      exact W.iret (v := -1) hx hb hr (fun t ht hW => ⟨⟨_, (), rfl, by rw [e8], by rw [ht]; exact hP, va_K.moved hW.alike hK, by rw [hAe]; exact hD⟩, hS.F ht⟩) hS.2.2 dX4_arc_39
    -- iflt at 10, f
    · refine lv_iload_n hx hb dX4_arc_13 rfl (lv_at hl 2 rfl) ?_
      refine lv_if_lt (tgt := 38) hx hb dX4_arc_14 (by decide) (fun b14 => ?_) (fun b14 => ?_)
      -- iflt at 14, t
      · refine lv_iconst (v := -1) hx hb dX4_arc_38 (by decide) ?_
        have e8 : arF n a T H x y = (-1, a, T, H) := if_neg (fun h => absurd h.2.2.1.1 (i_le_lt.mpr b14))
        have hP : va_P (dC, dI) classes (mw ad cI n (arF n a T H x y).2.1 b (arF n a T H x y).2.2.1 (arF n a T H x y).2.2.2 R O Wy tr hd us nx) s.heap := by rw [e8]; exact hP
        have hD : va_D A (mw ad cI n (arF n a T H x y).2.1 b (arF n a T H x y).2.2.1 (arF n a T H x y).2.2.2 R O Wy tr hd us nx) := by rw [e8]; exact hD
        exact W.iret (v := -1) hx hb hr (fun t ht hW => ⟨⟨_, (), rfl, by rw [e8], by rw [ht]; exact hP, va_K.moved hW.alike hK, by rw [hAe]; exact hD⟩, hS.F ht⟩) hS.2.2 dX4_arc_39
      -- iflt at 14, f
      · refine lv_iload_n hx hb dX4_arc_17 rfl (lv_at hl 1 rfl) ?_
        refine lv_aload_n hx hb dX4_arc_18 rfl (lv_at hl 0 rfl) ?_
        refine va_get (D := (dC, dI)) (ci := 4) (v := .int (nI n)) (C := RX4) (T := TX4) (N := 12) hx hb hw in_X4 hown hK hP 0 rfl rfl 0 (by decide) (hw _ mq_fl_X4_7) (fun _ h9 => h9) rfl dX4_arc_19 ?_
        refine lv_icmp_ge (tgt := 38) hx hb dX4_arc_22 (by decide) (fun b22 => ?_) (fun b22 => ?_)
        -- if_icmpge at 22, t
        · refine lv_iconst (v := -1) hx hb dX4_arc_38 (by decide) ?_
          have e8 : arF n a T H x y = (-1, a, T, H) := if_neg (fun h => absurd h.2.1.2 (i_lt_le.mpr b22))
          have hP : va_P (dC, dI) classes (mw ad cI n (arF n a T H x y).2.1 b (arF n a T H x y).2.2.1 (arF n a T H x y).2.2.2 R O Wy tr hd us nx) s.heap := by rw [e8]; exact hP
          have hD : va_D A (mw ad cI n (arF n a T H x y).2.1 b (arF n a T H x y).2.2.1 (arF n a T H x y).2.2.2 R O Wy tr hd us nx) := by rw [e8]; exact hD
          exact W.iret (v := -1) hx hb hr (fun t ht hW => ⟨⟨_, (), rfl, by rw [e8], by rw [ht]; exact hP, va_K.moved hW.alike hK, by rw [hAe]; exact hD⟩, hS.F ht⟩) hS.2.2 dX4_arc_39
        -- if_icmpge at 22, f
        · refine lv_iload_n hx hb dX4_arc_25 rfl (lv_at hl 2 rfl) ?_
          refine lv_aload_n hx hb dX4_arc_26 rfl (lv_at hl 0 rfl) ?_
          refine va_get (D := (dC, dI)) (ci := 4) (v := .int (nI n)) (C := RX4) (T := TX4) (N := 12) hx hb hw in_X4 hown hK hP 0 rfl rfl 0 (by decide) (hw _ mq_fl_X4_7) (fun _ h9 => h9) rfl dX4_arc_27 ?_
          refine lv_icmp_ge (tgt := 38) hx hb dX4_arc_30 (by decide) (fun b30 => ?_) (fun b30 => ?_)
          -- if_icmpge at 30, t
          · refine lv_iconst (v := -1) hx hb dX4_arc_38 (by decide) ?_
            have e8 : arF n a T H x y = (-1, a, T, H) := if_neg (fun h => absurd h.2.2.1.2 (i_lt_le.mpr b30))
            have hP : va_P (dC, dI) classes (mw ad cI n (arF n a T H x y).2.1 b (arF n a T H x y).2.2.1 (arF n a T H x y).2.2.2 R O Wy tr hd us nx) s.heap := by rw [e8]; exact hP
            have hD : va_D A (mw ad cI n (arF n a T H x y).2.1 b (arF n a T H x y).2.2.1 (arF n a T H x y).2.2.2 R O Wy tr hd us nx) := by rw [e8]; exact hD
            exact W.iret (v := -1) hx hb hr (fun t ht hW => ⟨⟨_, (), rfl, by rw [e8], by rw [ht]; exact hP, va_K.moved hW.alike hK, by rw [hAe]; exact hD⟩, hS.F ht⟩) hS.2.2 dX4_arc_39
          -- if_icmpge at 30, f
          · refine lv_iload_n hx hb dX4_arc_33 rfl (lv_at hl 1 rfl) ?_
            refine lv_iload_n hx hb dX4_arc_34 rfl (lv_at hl 2 rfl) ?_
            refine lv_icmp_ne (tgt := 40) hx hb dX4_arc_35 (by decide) (fun b35 => ?_) (fun b35 => ?_)
            -- if_icmpne at 35, t
            · have t20 : 0 ≤ x ∧ x < nI n := ⟨i_lt_le.mp b10, i_le_lt.mp b22⟩
              have t31 : 0 ≤ y ∧ y < nI n := ⟨i_lt_le.mp b14, i_le_lt.mp b30⟩
              obtain ⟨j, hj, rfl⟩ := is_in_of t20 (by omega)
              obtain ⟨k, hk, rfl⟩ := is_in_of t31 (by omega)
              refine lv_aload_n hx hb dX4_arc_40 rfl (lv_at hl 0 rfl) ?_
              refine va_get (D := (dC, dI)) (ci := 4) (v := .ref (ad 1)) (C := RX4) (T := TX4) (N := 12) hx hb hw in_X4 hown hK hP 0 rfl rfl 3 (by decide) (hw _ mq_fl_X4_13) (fun _ h9 => h9) rfl dX4_arc_41 ?_
              refine lv_aload_n hx hb dX4_arc_44 rfl (lv_at hl 0 rfl) ?_
              refine va_get (D := (dC, dI)) (ci := 4) (v := .int (nI a)) (C := RX4) (T := TX4) (N := 12) hx hb hw in_X4 hown hK hP 0 rfl rfl 1 (by decide) (hw _ mq_fl_X4_45) (fun _ h9 => h9) rfl dX4_arc_45 ?_
              refine lv_iload_n hx hb dX4_arc_48 rfl (lv_at hl 1 rfl) ?_
              refine va_iast hx hb hK hP hD hS 1 0 rfl rfl (vp_in_nI t6 (by decide)) dX4_arc_49 (fun Hp locs hP hD hS => ?_)
              rw [nI_clamp (show a < 2 ^ 31 by omega), ar_up] at hP hD
              have hP : va_P (dC, dI) classes (mw ad cI n a b (up T a j) H R O Wy tr hd us nx) Hp := hP
              have hD : va_D A (mw ad cI n a b (up T a j) H R O Wy tr hd us nx) := hD
              refine lv_aload_n hx hb dX4_arc_50 rfl (lv_at hl 0 rfl) ?_
              refine va_get (D := (dC, dI)) (ci := 4) (v := .ref (ad 2)) (C := RX4) (T := TX4) (N := 12) hx hb hw in_X4 hown hK hP 0 rfl rfl 4 (by decide) (hw _ mq_fl_X4_17) (fun _ h9 => h9) rfl dX4_arc_51 ?_
              refine lv_aload_n hx hb dX4_arc_54 rfl (lv_at hl 0 rfl) ?_
              refine va_get (D := (dC, dI)) (ci := 4) (v := .int (nI a)) (C := RX4) (T := TX4) (N := 12) hx hb hw in_X4 hown hK hP 0 rfl rfl 1 (by decide) (hw _ mq_fl_X4_45) (fun _ h9 => h9) rfl dX4_arc_55 ?_
              refine lv_iload_n hx hb dX4_arc_58 rfl (lv_at hl 2 rfl) ?_
              refine va_iast hx hb hK hP hD hS 2 0 rfl rfl (vp_in_nI t6 (by decide)) dX4_arc_59 (fun Hp locs hP hD hS => ?_)
              rw [nI_clamp (show a < 2 ^ 31 by omega), ar_up] at hP hD
              have hP : va_P (dC, dI) classes (mw ad cI n a b (up T a j) (up H a k) R O Wy tr hd us nx) Hp := hP
              have hD : va_D A (mw ad cI n a b (up T a j) (up H a k) R O Wy tr hd us nx) := hD
              refine lv_aload_n hx hb dX4_arc_60 rfl (lv_at hl 0 rfl) ?_
              refine lv_dup hx hb dX4_arc_61 rfl ?_
              refine va_get (D := (dC, dI)) (ci := 4) (v := .int (nI a)) (C := RX4) (T := TX4) (N := 12) hx hb hw in_X4 hown hK hP 0 rfl rfl 1 (by decide) (hw _ mq_fl_X4_45) (fun _ h9 => h9) rfl dX4_arc_62 ?_
              refine lv_iconst (v := 1) hx hb dX4_arc_65 (by decide) ?_
              refine lv_iadd hx hb dX4_arc_66 ?_
              refine lv_topi (fun z9 e9 => ?_)
              obtain rfl : z9 = nI (a + 1) := e9.trans (nI_1 a)
              refine va_put (D := (dC, dI)) (ci := 4) (v := .int (nI (a + 1))) (ty := .int) (C := RX4) (T := TX4) (N := 12) hx hb hw in_X4 tyX4 tyX4_ok nmX4 hown hK hP hD hS 0 rfl rfl 1 (by decide) (hw _ mq_fl_X4_45) (fun _ h9 => h9) rfl (by decide +kernel) rfl rfl (Nat.le_of_ble_eq_true rfl) dX4_arc_67 (fun Hp locs hP hD hS => ?_)
              have hP : va_P (dC, dI) classes (mw ad cI n (a + 1) b (up T a j) (up H a k) R O Wy tr hd us nx) Hp := hP
              have hD : va_D A (mw ad cI n (a + 1) b (up T a j) (up H a k) R O Wy tr hd us nx) := hD
              refine lv_aload_n hx hb dX4_arc_70 rfl (lv_at hl 0 rfl) ?_
              refine va_get (D := (dC, dI)) (ci := 4) (v := .int (nI (a + 1))) (C := RX4) (T := TX4) (N := 12) hx hb hw in_X4 hown hK hP 0 rfl rfl 1 (by decide) (hw _ mq_fl_X4_45) (fun _ h9 => h9) rfl dX4_arc_71 ?_
              refine lv_iconst (v := 1) hx hb dX4_arc_74 (by decide) ?_
              refine lv_isub hx hb dX4_arc_75 ?_
              refine lv_topi (fun z9 e9 => ?_)
              obtain rfl : z9 = nI a := e9.trans (nI_pred a)
              have e8 : arF n a T H (nI j) (nI k) = (nI a, a + 1, up T a j, up H a k) := by rw [arF, if_pos ⟨t6, t20, t31, b35⟩, nI_clamp (by omega), nI_clamp (by omega)]
              have hP : va_P (dC, dI) classes (mw ad cI n (arF n a T H (nI j) (nI k)).2.1 b (arF n a T H (nI j) (nI k)).2.2.1 (arF n a T H (nI j) (nI k)).2.2.2 R O Wy tr hd us nx) Hp := by rw [e8]; exact hP
              have hD : va_D A (mw ad cI n (arF n a T H (nI j) (nI k)).2.1 b (arF n a T H (nI j) (nI k)).2.2.1 (arF n a T H (nI j) (nI k)).2.2.2 R O Wy tr hd us nx) := by rw [e8]; exact hD
              exact W.iret (v := nI a) hx hb hr (fun t ht hW => ⟨⟨_, (), rfl, by rw [e8], by rw [ht]; exact hP, va_K.moved hW.alike hK, by rw [hAe]; exact hD⟩, hS.F ht⟩) hS.2.2 dX4_arc_76
            -- if_icmpne at 35, f
            · refine lv_iconst (v := -1) hx hb dX4_arc_38 (by decide) ?_
              have e8 : arF n a T H x y = (-1, a, T, H) := if_neg (fun h => h.2.2.2 b35)
              have hP : va_P (dC, dI) classes (mw ad cI n (arF n a T H x y).2.1 b (arF n a T H x y).2.2.1 (arF n a T H x y).2.2.2 R O Wy tr hd us nx) s.heap := by rw [e8]; exact hP
              have hD : va_D A (mw ad cI n (arF n a T H x y).2.1 b (arF n a T H x y).2.2.1 (arF n a T H x y).2.2.2 R O Wy tr hd us nx) := by rw [e8]; exact hD
              exact W.iret (v := -1) hx hb hr (fun t ht hW => ⟨⟨_, (), rfl, by rw [e8], by rw [ht]; exact hP, va_K.moved hW.alike hK, by rw [hAe]; exact hD⟩, hS.F ht⟩) hS.2.2 dX4_arc_39
set_option maxHeartbeats 4000000 in
set_option maxRecDepth 100000 in
theorem c_X4_remove (l : Launch) (dC : Nat → ClassId) (dI : Nat → Nat → Nat) (cI : ClassId) (ad : Nat → Nat) (n a b : Nat) (T H R : Nat → Nat) (O Wy tr hd us nx : Nat → Int32) (sz : Nat) (j : Nat) (hj : j < a) (ha : a ≤ 14) : Met l yX4_remove (wq yX4_remove cX4_remove 3 none) ({ frames := 0, cells := 0, slots := 0, locals := 0 }) (mu_P (dC, dI) classes [(cI, .int)] (mw ad cI n a b T H R O Wy tr hd us nx) sz [.ref (ad 0), .int (nI j)]) (va_Qv (fun _ : Unit => True) (mu_B (dC, dI) classes [(cI, .int)] (mw ad cI n a b T H R O Wy tr hd us nx) sz (fun _ => mw ad cI n (a - 1) b (rm_f T j (a - 1)) (rm_f H j (a - 1)) R O Wy tr hd us nx)) (va_A (mw ad cI n a b T H R O Wy tr hd us nx) sz)) 0 0 (va_A (mw ad cI n a b T H R O Wy tr hd us nx) sz) := by
  refine Met.ofW (cc := cX4_remove) (maxL := 3) (ret := none) (by decide) rfl ?_
  intro p e s m args below meth c s₁ B hml hv
  obtain ⟨rfl, hsz, hP, hK, hN, hD0⟩ := hv
  have hx := B.exec
  have hb := B.bytes
  have hr := B.returns
  have hlocks := B.notSynchronized
  have hts := atoms_spec (ws := (wq yX4_remove cX4_remove 3 none)) B.pre
  have hw : ∀ w ∈ bigW, w.before _ s = true := fun w h => hts w (List.mem_cons_of_mem _ h)
  have hown : s.vm.findClass RX4 = some m.cls := findClass_of_methodNamed B.named
  subst hsz
  have hD := hD0.self (sz := s.heap.size)
  generalize hAe : va_A (mw ad cI n a b T H R O Wy tr hd us nx) s.heap.size = A at hD ⊢
  have hA : ∀ q : Nat, s.heap.size ≤ q → A q := fun q h => by rw [← hAe]; exact Or.inr h
  have hS : va_S A s.heap s.heap [] := va_S.rf
  have hl := lv_entry ([.ref (ad 0), .int (nI j)]) (n := 3) (Nat.le_of_ble_eq_true rfl)
  rw [lg_entry_eq]
  generalize (lg_sl ([.ref (ad 0), .int (nI j)]) ++ List.replicate (3 - (lg_sl ([.ref (ad 0), .int (nI j)])).length) Slot.unset).toArray = ls at hl ⊢
  have hl : lv_has ls 3 [(0, .ref (ad 0)), (1, .int (nI j))] := hl
  refine lv_aload_n hx hb dX4_remove_0 rfl (lv_at hl 0 rfl) ?_
  refine lv_dup hx hb dX4_remove_1 rfl ?_
  refine va_get (D := (dC, dI)) (ci := 4) (v := .int (nI a)) (C := RX4) (T := TX4) (N := 12) hx hb hw in_X4 hown hK hP 0 rfl rfl 1 (by decide) (hw _ mq_fl_X4_45) (fun _ h9 => h9) rfl dX4_remove_2 ?_
  refine lv_iconst (v := 1) hx hb dX4_remove_5 (by decide) ?_
  refine lv_isub hx hb dX4_remove_6 ?_
  refine lv_topi (fun z9 e9 => ?_)
  obtain rfl : z9 = nI (a - 1) := e9.trans (pk_sub (b := 1) (by omega))
  refine va_put (D := (dC, dI)) (ci := 4) (v := .int (nI (a - 1))) (ty := .int) (C := RX4) (T := TX4) (N := 12) hx hb hw in_X4 tyX4 tyX4_ok nmX4 hown hK hP hD hS 0 rfl rfl 1 (by decide) (hw _ mq_fl_X4_45) (fun _ h9 => h9) rfl (by decide +kernel) rfl rfl (Nat.le_of_ble_eq_true rfl) dX4_remove_7 (fun Hp locs hP hD hS => ?_)
  have hP : va_P (dC, dI) classes (mw ad cI n (a - 1) b T H R O Wy tr hd us nx) Hp := hP
  have hD : va_D A (mw ad cI n (a - 1) b T H R O Wy tr hd us nx) := hD
  refine lv_iload_n hx hb dX4_remove_10 rfl (lv_at hl 1 rfl) ?_
  refine lv_istore_n (lv' := [(2, .int (nI j)), (0, .ref (ad 0)), (1, .int (nI j))]) hx hb dX4_remove_11 rfl hl (by decide) rfl (fun ls hl => ?_)
  rw [← rm_0 T j, ← rm_0 H j] at hP hD
  refine wl_loopH (fun k9 Hp locs ls => ∃ (i : Nat), a - i = k9 ∧ (j ≤ i ∧ i ≤ a - 1) ∧ lv_has ls 3 [(0, .ref (ad 0)), (1, .int (nI j)), (2, .int (nI i))] ∧ va_P (dC, dI) classes (mw ad cI n (a - 1) b (rm_f T j i) (rm_f H j i) R O Wy tr hd us nx) Hp ∧ va_D A (mw ad cI n (a - 1) b (rm_f T j i) (rm_f H j i) R O Wy tr hd us nx) ∧ va_S A s.heap Hp locs) ?_ _ ⟨j, rfl, by omega, lv_sub hl [1, 2, 0] rfl, hP, hD, hS⟩
  clear hP hD hS hl
  intro k9 Hp locs ls ih9 h9
  obtain ⟨i, k9e, hi, hl, hP, hD, hS⟩ := h9
  have ih_12 := ih9
  clear ih9
  subst k9e
  refine lv_iload_n hx hb dX4_remove_12 rfl (lv_at hl 2 rfl) ?_
  refine lv_aload_n hx hb dX4_remove_13 rfl (lv_at hl 0 rfl) ?_
  refine va_get (D := (dC, dI)) (ci := 4) (v := .int (nI (a - 1))) (C := RX4) (T := TX4) (N := 12) hx hb hw in_X4 hown hK hP 0 rfl rfl 1 (by decide) (hw _ mq_fl_X4_45) (fun _ h9 => h9) rfl dX4_remove_14 ?_
  refine lv_icmp_ge (tgt := 54) hx hb dX4_remove_17 (by decide) (fun b17 => ?_) (fun b17 => ?_)
  -- if_icmpge at 17, t
  · have t17 := (nI_leI (by omega) (by omega)).mp b17
    obtain rfl : i = a - 1 := by omega
    exact W.vret hx hb hr (fun t ht hW => ⟨⟨(), rfl, trivial, by rw [ht]; exact hP, va_K.moved hW.alike hK, by rw [hAe]; exact hD⟩, hS.F ht⟩) hS.2.2 dX4_remove_54
  -- if_icmpge at 17, f
  · have t17 : i < a - 1 := Nat.lt_of_not_le (fun z => b17 (nI_le z (by omega)))
    refine lv_aload_n hx hb dX4_remove_20 rfl (lv_at hl 0 rfl) ?_
    refine va_get (D := (dC, dI)) (ci := 4) (v := .ref (ad 1)) (C := RX4) (T := TX4) (N := 12) hx hb hw in_X4 hown hK hP 0 rfl rfl 3 (by decide) (hw _ mq_fl_X4_13) (fun _ h9 => h9) rfl dX4_remove_21 ?_
    refine lv_iload_n hx hb dX4_remove_24 rfl (lv_at hl 2 rfl) ?_
    refine lv_aload_n hx hb dX4_remove_25 rfl (lv_at hl 0 rfl) ?_
    refine va_get (D := (dC, dI)) (ci := 4) (v := .ref (ad 1)) (C := RX4) (T := TX4) (N := 12) hx hb hw in_X4 hown hK hP 0 rfl rfl 3 (by decide) (hw _ mq_fl_X4_13) (fun _ h9 => h9) rfl dX4_remove_26 ?_
    refine lv_iload_n hx hb dX4_remove_29 rfl (lv_at hl 2 rfl) ?_
    refine lv_iconst (v := 1) hx hb dX4_remove_30 (by decide) ?_
    refine lv_iadd hx hb dX4_remove_31 ?_
    refine lv_topi (fun z9 e9 => ?_)
    obtain rfl : z9 = nI (i + 1) := e9.trans (nI_1 i)
    refine va_iald hx hb hK hP 1 0 rfl rfl (vp_in_nI (by omega) (by decide)) dX4_remove_32 ?_
    refine lv_topi (fun z9 e9 => ?_)
    obtain rfl : z9 = nI (rm_f T j i (i + 1)) := e9.trans (ar_at _ (by omega))
    refine va_iast hx hb hK hP hD hS 1 0 rfl rfl (vp_in_nI (by omega) (by decide)) dX4_remove_33 (fun Hp locs hP hD hS => ?_)
    rw [nI_clamp (show i < 2 ^ 31 by omega), ar_up, rm_s hi.1] at hP hD
    have hP : va_P (dC, dI) classes (mw ad cI n (a - 1) b (rm_f T j (i + 1)) (rm_f H j i) R O Wy tr hd us nx) Hp := hP
    have hD : va_D A (mw ad cI n (a - 1) b (rm_f T j (i + 1)) (rm_f H j i) R O Wy tr hd us nx) := hD
    refine lv_aload_n hx hb dX4_remove_34 rfl (lv_at hl 0 rfl) ?_
    refine va_get (D := (dC, dI)) (ci := 4) (v := .ref (ad 2)) (C := RX4) (T := TX4) (N := 12) hx hb hw in_X4 hown hK hP 0 rfl rfl 4 (by decide) (hw _ mq_fl_X4_17) (fun _ h9 => h9) rfl dX4_remove_35 ?_
    refine lv_iload_n hx hb dX4_remove_38 rfl (lv_at hl 2 rfl) ?_
    refine lv_aload_n hx hb dX4_remove_39 rfl (lv_at hl 0 rfl) ?_
    refine va_get (D := (dC, dI)) (ci := 4) (v := .ref (ad 2)) (C := RX4) (T := TX4) (N := 12) hx hb hw in_X4 hown hK hP 0 rfl rfl 4 (by decide) (hw _ mq_fl_X4_17) (fun _ h9 => h9) rfl dX4_remove_40 ?_
    refine lv_iload_n hx hb dX4_remove_43 rfl (lv_at hl 2 rfl) ?_
    refine lv_iconst (v := 1) hx hb dX4_remove_44 (by decide) ?_
    refine lv_iadd hx hb dX4_remove_45 ?_
    refine lv_topi (fun z9 e9 => ?_)
    obtain rfl : z9 = nI (i + 1) := e9.trans (nI_1 i)
    refine va_iald hx hb hK hP 2 0 rfl rfl (vp_in_nI (by omega) (by decide)) dX4_remove_46 ?_
    refine lv_topi (fun z9 e9 => ?_)
    obtain rfl : z9 = nI (rm_f H j i (i + 1)) := e9.trans (ar_at _ (by omega))
    refine va_iast hx hb hK hP hD hS 2 0 rfl rfl (vp_in_nI (by omega) (by decide)) dX4_remove_47 (fun Hp locs hP hD hS => ?_)
    rw [nI_clamp (show i < 2 ^ 31 by omega), ar_up, rm_s hi.1] at hP hD
    have hP : va_P (dC, dI) classes (mw ad cI n (a - 1) b (rm_f T j (i + 1)) (rm_f H j (i + 1)) R O Wy tr hd us nx) Hp := hP
    have hD : va_D A (mw ad cI n (a - 1) b (rm_f T j (i + 1)) (rm_f H j (i + 1)) R O Wy tr hd us nx) := hD
    refine lv_iinc (k := 2) (v := nI (i + 1)) (lv' := [(2, .int (nI (i + 1))), (0, .ref (ad 0)), (1, .int (nI j))]) hx hb dX4_remove_48 hl rfl (ii_1 _) (by decide) rfl (fun ls hl => ?_)
    refine lv_goto (tgt := 12) hx hb dX4_remove_51 (by decide) ?_
    exact ih_12 _ _ _ _ (by omega) ⟨i + 1, rfl, by omega, lv_sub hl [1, 2, 0] rfl, hP, hD, hS⟩
set_option maxHeartbeats 4000000 in
set_option maxRecDepth 100000 in
theorem c_X4_drop (l : Launch) (dC : Nat → ClassId) (dI : Nat → Nat → Nat) (cI : ClassId) (ad : Nat → Nat) (n a b : Nat) (T H R : Nat → Nat) (O Wy tr hd us nx : Nat → Int32) (sz : Nat) (x : Int32) (a14 : a ≤ 14) : Met l yX4_drop (wq yX4_drop cX4_drop 2 (some .boolean)) ({ frames := 1, cells := 0, slots := 0, locals := 22 }) (mu_P (dC, dI) classes [(cI, .int)] (mw ad cI n a b T H R O Wy tr hd us nx) sz [.ref (ad 0), .int x]) (va_Qi (fun (r : Int32) (_ : Unit) => r = (drF a T H x).1) (mu_B (dC, dI) classes [(cI, .int)] (mw ad cI n a b T H R O Wy tr hd us nx) sz (fun _ => mw ad cI n (drF a T H x).2.1 b (drF a T H x).2.2.1 (drF a T H x).2.2.2 R O Wy tr hd us nx)) (va_A (mw ad cI n a b T H R O Wy tr hd us nx) sz)) 0 0 (va_A (mw ad cI n a b T H R O Wy tr hd us nx) sz) := by
  refine Met.ofW (cc := cX4_drop) (maxL := 2) (ret := (some .boolean)) (by decide) rfl ?_
  intro p e s m args below meth c s₁ B hml hv
  obtain ⟨rfl, hsz, hP, hK, hN, hD0⟩ := hv
  have hx := B.exec
  have hb := B.bytes
  have hr := B.returns
  have hlocks := B.notSynchronized
  have hts := atoms_spec (ws := (wq yX4_drop cX4_drop 2 (some .boolean))) B.pre
  have hw : ∀ w ∈ bigW, w.before _ s = true := fun w h => hts w (List.mem_cons_of_mem _ h)
  have hown : s.vm.findClass RX4 = some m.cls := findClass_of_methodNamed B.named
  subst hsz
  have hD := hD0.self (sz := s.heap.size)
  generalize hAe : va_A (mw ad cI n a b T H R O Wy tr hd us nx) s.heap.size = A at hD ⊢
  have hA : ∀ q : Nat, s.heap.size ≤ q → A q := fun q h => by rw [← hAe]; exact Or.inr h
  have hS : va_S A s.heap s.heap [] := va_S.rf
  have hl := lv_entry ([.ref (ad 0), .int x]) (n := 2) (Nat.le_of_ble_eq_true rfl)
  rw [lg_entry_eq]
  generalize (lg_sl ([.ref (ad 0), .int x]) ++ List.replicate (2 - (lg_sl ([.ref (ad 0), .int x])).length) Slot.unset).toArray = ls at hl ⊢
  have hl : lv_has ls 2 [(0, .ref (ad 0)), (1, .int x)] := hl
  refine lv_aload_n hx hb dX4_drop_0 rfl (lv_at hl 0 rfl) ?_
  refine lv_iload_n hx hb dX4_drop_1 rfl (lv_at hl 1 rfl) ?_
  refine ro_V (As := [.int x]) (rest := []) (b := ad 0) ⟨hx, hb, hml, hown, hts⟩ (c_X4_isArc l dC dI cI ad n a b T H R O Wy tr hd us nx x) (cwV 1 hts (bw_V mq_ml_X4_59 mq_im_X4_isArc mq_se_X4_isArc mq_in_X4 mq_co_X4_isArc) rfl rfl rfl (by decide +kernel) ⟨Nat.le_of_ble_eq_true rfl, Nat.le_of_ble_eq_true rfl⟩) hP hK hN 0 rfl rfl rfl hl.1 rfl (Nat.le_of_ble_eq_true rfl) dX4_drop_2 ⟨Nat.zero_le _, Nat.zero_le _⟩ (fun r9 h9 => ?_)
  obtain rfl : r9 = nI (ed_b (decide (0 ≤ x ∧ x < nI a))) := h9
  refine lv_if_ne (tgt := 10) hx hb dX4_drop_5 (by decide) (fun b5 => ?_) (fun b5 => ?_)
  -- ifne at 5, t
  · have t5 := decide_eq_true_eq.mp (zb_n0.mp b5)
    obtain ⟨j, hj, rfl⟩ := is_in_of t5 (by omega)
    refine lv_aload_n hx hb dX4_drop_10 rfl (lv_at hl 0 rfl) ?_
    refine lv_iload_n hx hb dX4_drop_11 rfl (lv_at hl 1 rfl) ?_
    refine mu_Vv (As := [.int (nI j)]) (rest := []) (b := ad 0) ⟨hx, hb, hml, hown, hts⟩ (c_X4_remove l dC dI cI ad n a b T H R O Wy tr hd us nx _ j hj a14) (cwV 1 hts (bw_V mq_ml_X4_63 mq_im_X4_remove mq_se_X4_remove mq_in_X4 mq_co_X4_remove) rfl rfl rfl (by decide +kernel) ⟨Nat.le_of_ble_eq_true rfl, Nat.le_of_ble_eq_true rfl⟩) hP hK hN hD hS hA 0 rfl rfl rfl hl.1 rfl (Nat.le_of_ble_eq_true rfl) dX4_drop_12 ⟨Nat.zero_le _, Nat.zero_le _⟩ (fun u9 Hp locs h9 hP hD hS => ?_)
    have hP : va_P (dC, dI) classes (mw ad cI n (a - 1) b (rm_f T j (a - 1)) (rm_f H j (a - 1)) R O Wy tr hd us nx) Hp := hP
    have hD : va_D A (mw ad cI n (a - 1) b (rm_f T j (a - 1)) (rm_f H j (a - 1)) R O Wy tr hd us nx) := hD
    refine lv_iconst (v := 1) hx hb dX4_drop_15 (by decide) ?_
    have e8 : drF a T H (nI j) = (1, a - 1, rm_f T j (a - 1), rm_f H j (a - 1)) := by rw [drF, if_pos t5, nI_clamp (by omega)]
    have hP : va_P (dC, dI) classes (mw ad cI n (drF a T H (nI j)).2.1 b (drF a T H (nI j)).2.2.1 (drF a T H (nI j)).2.2.2 R O Wy tr hd us nx) Hp := by rw [e8]; exact hP
    have hD : va_D A (mw ad cI n (drF a T H (nI j)).2.1 b (drF a T H (nI j)).2.2.1 (drF a T H (nI j)).2.2.2 R O Wy tr hd us nx) := by rw [e8]; exact hD
    exact W.zret (v := 1) hx hb hr rfl (fun t ht hW => ⟨⟨_, (), rfl, by rw [e8], by rw [ht]; exact hP, va_K.moved hW.alike hK, by rw [hAe]; exact hD⟩, hS.F ht⟩) hS.2.2 dX4_drop_16
  -- ifne at 5, f
  · have t5 := decide_eq_false_iff_not.mp (zb_0.mp b5)
    refine lv_iconst (v := 0) hx hb dX4_drop_8 (by decide) ?_
    have e8 : drF a T H x = (0, a, T, H) := if_neg t5
    have hP : va_P (dC, dI) classes (mw ad cI n (drF a T H x).2.1 b (drF a T H x).2.2.1 (drF a T H x).2.2.2 R O Wy tr hd us nx) s.heap := by rw [e8]; exact hP
    have hD : va_D A (mw ad cI n (drF a T H x).2.1 b (drF a T H x).2.2.1 (drF a T H x).2.2.2 R O Wy tr hd us nx) := by rw [e8]; exact hD
    exact W.zret (v := 0) hx hb hr rfl (fun t ht hW => ⟨⟨_, (), rfl, by rw [e8], by rw [ht]; exact hP, va_K.moved hW.alike hK, by rw [hAe]; exact hD⟩, hS.F ht⟩) hS.2.2 dX4_drop_9
set_option maxHeartbeats 4000000 in
set_option maxRecDepth 100000 in
theorem c_X4_plant (l : Launch) (dC : Nat → ClassId) (dI : Nat → Nat → Nat) (cI : ClassId) (ad : Nat → Nat) (n a b : Nat) (T H R : Nat → Nat) (O Wy tr hd us nx : Nat → Int32) (sz : Nat) (x : Int32) (n7 : n ≤ 7) (hb3 : b ≤ 3) : Met l yX4_plant (wq yX4_plant cX4_plant 2 (some .int)) ({ frames := 2, cells := 0, slots := 0, locals := 41 }) (mu_P (dC, dI) classes [(cI, .int)] (mw ad cI n a b T H R O Wy tr hd us nx) sz [.ref (ad 0), .int x]) (va_Qi (fun (r : Int32) (_ : Unit) => r = (plF n b R x).1) (mu_B (dC, dI) classes [(cI, .int)] (mw ad cI n a b T H R O Wy tr hd us nx) sz (fun _ => mw ad cI n a (plF n b R x).2.1 T H (plF n b R x).2.2 O Wy tr hd us nx)) (va_A (mw ad cI n a b T H R O Wy tr hd us nx) sz)) 0 0 (va_A (mw ad cI n a b T H R O Wy tr hd us nx) sz) := by
  have p7 := bi_p7 n7
  have p0 := Nat.two_pow_pos n
  refine Met.ofW (cc := cX4_plant) (maxL := 2) (ret := (some .int)) (by decide) rfl ?_
  intro p e s m args below meth c s₁ B hml hv
  obtain ⟨rfl, hsz, hP, hK, hN, hD0⟩ := hv
  have hx := B.exec
  have hb := B.bytes
  have hr := B.returns
  have hlocks := B.notSynchronized
  have hts := atoms_spec (ws := (wq yX4_plant cX4_plant 2 (some .int))) B.pre
  have hw : ∀ w ∈ bigW, w.before _ s = true := fun w h => hts w (List.mem_cons_of_mem _ h)
  have hown : s.vm.findClass RX4 = some m.cls := findClass_of_methodNamed B.named
  subst hsz
  have hD := hD0.self (sz := s.heap.size)
  generalize hAe : va_A (mw ad cI n a b T H R O Wy tr hd us nx) s.heap.size = A at hD ⊢
  have hA : ∀ q : Nat, s.heap.size ≤ q → A q := fun q h => by rw [← hAe]; exact Or.inr h
  have hS : va_S A s.heap s.heap [] := va_S.rf
  have hl := lv_entry ([.ref (ad 0), .int x]) (n := 2) (Nat.le_of_ble_eq_true rfl)
  rw [lg_entry_eq]
  generalize (lg_sl ([.ref (ad 0), .int x]) ++ List.replicate (2 - (lg_sl ([.ref (ad 0), .int x])).length) Slot.unset).toArray = ls at hl ⊢
  have hl : lv_has ls 2 [(0, .ref (ad 0)), (1, .int x)] := hl
  refine lv_aload_n hx hb dX4_plant_0 rfl (lv_at hl 0 rfl) ?_
  refine va_get (D := (dC, dI)) (ci := 4) (v := .int (nI b)) (C := RX4) (T := TX4) (N := 12) hx hb hw in_X4 hown hK hP 0 rfl rfl 2 (by decide) (hw _ mq_fl_X4_56) (fun _ h9 => h9) rfl dX4_plant_1 ?_
  refine lv_iconst (v := nI 3) hx hb dX4_plant_4 (by decide) ?_
  refine lv_icmp_eq (tgt := 20) hx hb dX4_plant_5 (by decide) (fun b5 => ?_) (fun b5 => ?_)
  -- if_icmpeq at 5, t
  · have t5 := (nI_eq (by omega) (by omega)).mp b5
    refine lv_iconst (v := -1) hx hb dX4_plant_20 (by decide) ?_
    have e8 : plF n b R x = (-1, b, R) := if_neg (fun h => absurd h.1 (by omega))
    have hP : va_P (dC, dI) classes (mw ad cI n a (plF n b R x).2.1 T H (plF n b R x).2.2 O Wy tr hd us nx) s.heap := by rw [e8]; exact hP
    have hD : va_D A (mw ad cI n a (plF n b R x).2.1 T H (plF n b R x).2.2 O Wy tr hd us nx) := by rw [e8]; exact hD
    exact W.iret (v := -1) hx hb hr (fun t ht hW => ⟨⟨_, (), rfl, by rw [e8], by rw [ht]; exact hP, va_K.moved hW.alike hK, by rw [hAe]; exact hD⟩, hS.F ht⟩) hS.2.2 dX4_plant_21
  -- if_icmpeq at 5, f
  · have z5 : ¬ b = 3 := fun z => b5 (by rw [z])
    have t5 : b < 3 := by omega
    refine lv_iload_n hx hb dX4_plant_8 rfl (lv_at hl 1 rfl) ?_
    refine lv_if_eq (tgt := 20) hx hb dX4_plant_9 (by decide) (fun b9 => ?_) (fun b9 => ?_)
    -- ifeq at 9, t
    · refine lv_iconst (v := -1) hx hb dX4_plant_20 (by decide) ?_
      have e8 : plF n b R x = (-1, b, R) := if_neg (fun h => h.2.1 b9)
      have hP : va_P (dC, dI) classes (mw ad cI n a (plF n b R x).2.1 T H (plF n b R x).2.2 O Wy tr hd us nx) s.heap := by rw [e8]; exact hP
      have hD : va_D A (mw ad cI n a (plF n b R x).2.1 T H (plF n b R x).2.2 O Wy tr hd us nx) := by rw [e8]; exact hD
      exact W.iret (v := -1) hx hb hr (fun t ht hW => ⟨⟨_, (), rfl, by rw [e8], by rw [ht]; exact hP, va_K.moved hW.alike hK, by rw [hAe]; exact hD⟩, hS.F ht⟩) hS.2.2 dX4_plant_21
    -- ifeq at 9, f
    · refine lv_aload_n hx hb dX4_plant_12 rfl (lv_at hl 0 rfl) ?_
      refine lv_iload_n hx hb dX4_plant_13 rfl (lv_at hl 1 rfl) ?_
      refine ro_V (As := [.int x]) (rest := []) (b := ad 0) ⟨hx, hb, hml, hown, hts⟩ (c_X4_isSet l dC dI cI ad n a b T H R O Wy tr hd us nx n7 x) (cwV 1 hts (bw_V mq_ml_X4_67 mq_im_X4_isSet mq_se_X4_isSet mq_in_X4 mq_co_X4_isSet) rfl rfl rfl (by decide +kernel) ⟨Nat.le_of_ble_eq_true rfl, Nat.le_of_ble_eq_true rfl⟩) hP hK hN 0 rfl rfl rfl hl.1 rfl (Nat.le_of_ble_eq_true rfl) dX4_plant_14 ⟨Nat.zero_le _, Nat.zero_le _⟩ (fun r9 h9 => ?_)
      obtain rfl : r9 = nI (ed_b (decide (0 ≤ x ∧ x ≤ nI (2 ^ n - 1)))) := h9
      refine lv_if_ne (tgt := 22) hx hb dX4_plant_17 (by decide) (fun b17 => ?_) (fun b17 => ?_)
      -- ifne at 17, t
      · have t17 := decide_eq_true_eq.mp (zb_n0.mp b17)
        obtain ⟨X, hX, rfl⟩ := is_in_of ((is_set_in n7).mp t17) (by omega)
        refine lv_aload_n hx hb dX4_plant_22 rfl (lv_at hl 0 rfl) ?_
        refine va_get (D := (dC, dI)) (ci := 4) (v := .ref (ad 3)) (C := RX4) (T := TX4) (N := 12) hx hb hw in_X4 hown hK hP 0 rfl rfl 5 (by decide) (hw _ mq_fl_X4_20) (fun _ h9 => h9) rfl dX4_plant_23 ?_
        refine lv_aload_n hx hb dX4_plant_26 rfl (lv_at hl 0 rfl) ?_
        refine va_get (D := (dC, dI)) (ci := 4) (v := .int (nI b)) (C := RX4) (T := TX4) (N := 12) hx hb hw in_X4 hown hK hP 0 rfl rfl 2 (by decide) (hw _ mq_fl_X4_56) (fun _ h9 => h9) rfl dX4_plant_27 ?_
        refine lv_iload_n hx hb dX4_plant_30 rfl (lv_at hl 1 rfl) ?_
        refine va_iast hx hb hK hP hD hS 3 0 rfl rfl (vp_in_nI t5 (by decide)) dX4_plant_31 (fun Hp locs hP hD hS => ?_)
        rw [nI_clamp (show b < 2 ^ 31 by omega), ar_up] at hP hD
        have hP : va_P (dC, dI) classes (mw ad cI n a b T H (up R b X) O Wy tr hd us nx) Hp := hP
        have hD : va_D A (mw ad cI n a b T H (up R b X) O Wy tr hd us nx) := hD
        refine lv_aload_n hx hb dX4_plant_32 rfl (lv_at hl 0 rfl) ?_
        refine lv_dup hx hb dX4_plant_33 rfl ?_
        refine va_get (D := (dC, dI)) (ci := 4) (v := .int (nI b)) (C := RX4) (T := TX4) (N := 12) hx hb hw in_X4 hown hK hP 0 rfl rfl 2 (by decide) (hw _ mq_fl_X4_56) (fun _ h9 => h9) rfl dX4_plant_34 ?_
        refine lv_iconst (v := 1) hx hb dX4_plant_37 (by decide) ?_
        refine lv_iadd hx hb dX4_plant_38 ?_
        refine lv_topi (fun z9 e9 => ?_)
        obtain rfl : z9 = nI (b + 1) := e9.trans (nI_1 b)
        refine va_put (D := (dC, dI)) (ci := 4) (v := .int (nI (b + 1))) (ty := .int) (C := RX4) (T := TX4) (N := 12) hx hb hw in_X4 tyX4 tyX4_ok nmX4 hown hK hP hD hS 0 rfl rfl 2 (by decide) (hw _ mq_fl_X4_56) (fun _ h9 => h9) rfl (by decide +kernel) rfl rfl (Nat.le_of_ble_eq_true rfl) dX4_plant_39 (fun Hp locs hP hD hS => ?_)
        have hP : va_P (dC, dI) classes (mw ad cI n a (b + 1) T H (up R b X) O Wy tr hd us nx) Hp := hP
        have hD : va_D A (mw ad cI n a (b + 1) T H (up R b X) O Wy tr hd us nx) := hD
        refine lv_aload_n hx hb dX4_plant_42 rfl (lv_at hl 0 rfl) ?_
        refine va_get (D := (dC, dI)) (ci := 4) (v := .int (nI (b + 1))) (C := RX4) (T := TX4) (N := 12) hx hb hw in_X4 hown hK hP 0 rfl rfl 2 (by decide) (hw _ mq_fl_X4_56) (fun _ h9 => h9) rfl dX4_plant_43 ?_
        refine lv_iconst (v := 1) hx hb dX4_plant_46 (by decide) ?_
        refine lv_isub hx hb dX4_plant_47 ?_
        refine lv_topi (fun z9 e9 => ?_)
        obtain rfl : z9 = nI b := e9.trans (nI_pred b)
        have e8 : plF n b R (nI X) = (nI b, b + 1, up R b X) := by rw [plF, if_pos ⟨t5, b9, t17⟩, nI_clamp (by omega)]
        have hP : va_P (dC, dI) classes (mw ad cI n a (plF n b R (nI X)).2.1 T H (plF n b R (nI X)).2.2 O Wy tr hd us nx) Hp := by rw [e8]; exact hP
        have hD : va_D A (mw ad cI n a (plF n b R (nI X)).2.1 T H (plF n b R (nI X)).2.2 O Wy tr hd us nx) := by rw [e8]; exact hD
        exact W.iret (v := nI b) hx hb hr (fun t ht hW => ⟨⟨_, (), rfl, by rw [e8], by rw [ht]; exact hP, va_K.moved hW.alike hK, by rw [hAe]; exact hD⟩, hS.F ht⟩) hS.2.2 dX4_plant_48
      -- ifne at 17, f
      · have t17 := decide_eq_false_iff_not.mp (zb_0.mp b17)
        refine lv_iconst (v := -1) hx hb dX4_plant_20 (by decide) ?_
        have e8 : plF n b R x = (-1, b, R) := if_neg (fun h => t17 h.2.2)
        have hP : va_P (dC, dI) classes (mw ad cI n a (plF n b R x).2.1 T H (plF n b R x).2.2 O Wy tr hd us nx) s.heap := by rw [e8]; exact hP
        have hD : va_D A (mw ad cI n a (plF n b R x).2.1 T H (plF n b R x).2.2 O Wy tr hd us nx) := by rw [e8]; exact hD
        exact W.iret (v := -1) hx hb hr (fun t ht hW => ⟨⟨_, (), rfl, by rw [e8], by rw [ht]; exact hP, va_K.moved hW.alike hK, by rw [hAe]; exact hD⟩, hS.F ht⟩) hS.2.2 dX4_plant_21
set_option maxHeartbeats 4000000 in
set_option maxRecDepth 100000 in
theorem c_X4_fell (l : Launch) (dC : Nat → ClassId) (dI : Nat → Nat → Nat) (cI : ClassId) (ad : Nat → Nat) (n a b : Nat) (T H R : Nat → Nat) (O Wy tr hd us nx : Nat → Int32) (sz : Nat) (hb3 : b ≤ 3) : Met l yX4_fell (wq yX4_fell cX4_fell 1 (some .int)) ({ frames := 0, cells := 0, slots := 0, locals := 0 }) (mu_P (dC, dI) classes [(cI, .int)] (mw ad cI n a b T H R O Wy tr hd us nx) sz [.ref (ad 0)]) (va_Qi (fun (r : Int32) (_ : Unit) => r = (feF b).1) (mu_B (dC, dI) classes [(cI, .int)] (mw ad cI n a b T H R O Wy tr hd us nx) sz (fun _ => mw ad cI n a (feF b).2 T H R O Wy tr hd us nx)) (va_A (mw ad cI n a b T H R O Wy tr hd us nx) sz)) 0 0 (va_A (mw ad cI n a b T H R O Wy tr hd us nx) sz) := by
  refine Met.ofW (cc := cX4_fell) (maxL := 1) (ret := (some .int)) (by decide) rfl ?_
  intro p e s m args below meth c s₁ B hml hv
  obtain ⟨rfl, hsz, hP, hK, hN, hD0⟩ := hv
  have hx := B.exec
  have hb := B.bytes
  have hr := B.returns
  have hlocks := B.notSynchronized
  have hts := atoms_spec (ws := (wq yX4_fell cX4_fell 1 (some .int))) B.pre
  have hw : ∀ w ∈ bigW, w.before _ s = true := fun w h => hts w (List.mem_cons_of_mem _ h)
  have hown : s.vm.findClass RX4 = some m.cls := findClass_of_methodNamed B.named
  subst hsz
  have hD := hD0.self (sz := s.heap.size)
  generalize hAe : va_A (mw ad cI n a b T H R O Wy tr hd us nx) s.heap.size = A at hD ⊢
  have hA : ∀ q : Nat, s.heap.size ≤ q → A q := fun q h => by rw [← hAe]; exact Or.inr h
  have hS : va_S A s.heap s.heap [] := va_S.rf
  have hl := lv_entry ([.ref (ad 0)]) (n := 1) (Nat.le_of_ble_eq_true rfl)
  rw [lg_entry_eq]
  generalize (lg_sl ([.ref (ad 0)]) ++ List.replicate (1 - (lg_sl ([.ref (ad 0)])).length) Slot.unset).toArray = ls at hl ⊢
  have hl : lv_has ls 1 [(0, .ref (ad 0))] := hl
  refine lv_aload_n hx hb dX4_fell_0 rfl (lv_at hl 0 rfl) ?_
  refine va_get (D := (dC, dI)) (ci := 4) (v := .int (nI b)) (C := RX4) (T := TX4) (N := 12) hx hb hw in_X4 hown hK hP 0 rfl rfl 2 (by decide) (hw _ mq_fl_X4_56) (fun _ h9 => h9) rfl dX4_fell_1 ?_
  refine lv_if_ne (tgt := 9) hx hb dX4_fell_4 (by decide) (fun b4 => ?_) (fun b4 => ?_)
  -- ifne at 4, t
  · have t4 : ¬ b = 0 := fun z => b4 (by rw [z]; exact nI_0)
    refine lv_aload_n hx hb dX4_fell_9 rfl (lv_at hl 0 rfl) ?_
    refine lv_dup hx hb dX4_fell_10 rfl ?_
    refine va_get (D := (dC, dI)) (ci := 4) (v := .int (nI b)) (C := RX4) (T := TX4) (N := 12) hx hb hw in_X4 hown hK hP 0 rfl rfl 2 (by decide) (hw _ mq_fl_X4_56) (fun _ h9 => h9) rfl dX4_fell_11 ?_
    refine lv_iconst (v := 1) hx hb dX4_fell_14 (by decide) ?_
    refine lv_isub hx hb dX4_fell_15 ?_
    refine lv_topi (fun z9 e9 => ?_)
    obtain rfl : z9 = nI (b - 1) := e9.trans (pk_sub (b := 1) (by omega))
    refine va_put (D := (dC, dI)) (ci := 4) (v := .int (nI (b - 1))) (ty := .int) (C := RX4) (T := TX4) (N := 12) hx hb hw in_X4 tyX4 tyX4_ok nmX4 hown hK hP hD hS 0 rfl rfl 2 (by decide) (hw _ mq_fl_X4_56) (fun _ h9 => h9) rfl (by decide +kernel) rfl rfl (Nat.le_of_ble_eq_true rfl) dX4_fell_16 (fun Hp locs hP hD hS => ?_)
    have hP : va_P (dC, dI) classes (mw ad cI n a (b - 1) T H R O Wy tr hd us nx) Hp := hP
    have hD : va_D A (mw ad cI n a (b - 1) T H R O Wy tr hd us nx) := hD
    refine lv_aload_n hx hb dX4_fell_19 rfl (lv_at hl 0 rfl) ?_
    refine va_get (D := (dC, dI)) (ci := 4) (v := .int (nI (b - 1))) (C := RX4) (T := TX4) (N := 12) hx hb hw in_X4 hown hK hP 0 rfl rfl 2 (by decide) (hw _ mq_fl_X4_56) (fun _ h9 => h9) rfl dX4_fell_20 ?_
    have e8 : feF b = (nI (b - 1), b - 1) := if_neg t4
    have hP : va_P (dC, dI) classes (mw ad cI n a (feF b).2 T H R O Wy tr hd us nx) Hp := by rw [e8]; exact hP
    have hD : va_D A (mw ad cI n a (feF b).2 T H R O Wy tr hd us nx) := by rw [e8]; exact hD
    exact W.iret (v := nI (b - 1)) hx hb hr (fun t ht hW => ⟨⟨_, (), rfl, by rw [e8], by rw [ht]; exact hP, va_K.moved hW.alike hK, by rw [hAe]; exact hD⟩, hS.F ht⟩) hS.2.2 dX4_fell_23
  -- ifne at 4, f
  · have t4 : b = 0 := (nI_eq (by omega) (by decide)).mp (b4.trans nI_0.symm)
    refine lv_iconst (v := -1) hx hb dX4_fell_7 (by decide) ?_
    have e8 : feF b = (-1, b) := if_pos t4
    have hP : va_P (dC, dI) classes (mw ad cI n a (feF b).2 T H R O Wy tr hd us nx) s.heap := by rw [e8]; exact hP
    have hD : va_D A (mw ad cI n a (feF b).2 T H R O Wy tr hd us nx) := by rw [e8]; exact hD
    exact W.iret (v := -1) hx hb hr (fun t ht hW => ⟨⟨_, (), rfl, by rw [e8], by rw [ht]; exact hP, va_K.moved hW.alike hK, by rw [hAe]; exact hD⟩, hS.F ht⟩) hS.2.2 dX4_fell_8
set_option maxHeartbeats 4000000 in
set_option maxRecDepth 100000 in
theorem c_X4_count (l : Launch) (dC : Nat → ClassId) (dI : Nat → Nat → Nat) (cI : ClassId) (ad : Nat → Nat) (n a b : Nat) (T H R : Nat → Nat) (O Wy tr hd us nx : Nat → Int32) (x : Int32) : Met l yX4_count (wq yX4_count cX4_count 2 (some .int)) ({ frames := 0, cells := 0, slots := 0, locals := 0 }) (ro_P (dC, dI) classes [(cI, .int)] (mw ad cI n a b T H R O Wy tr hd us nx) [.ref (ad 0), .int x]) (vp_Si (fun r => r = coF n a b x)) 0 0 (fun _ => False) := by
  refine Met.ofW (cc := cX4_count) (maxL := 2) (ret := (some .int)) (by decide) rfl ?_
  intro p e s m args below meth c s₁ B hml hv
  obtain ⟨rfl, hP, hK, hN⟩ := hv
  have hx := B.exec
  have hb := B.bytes
  have hr := B.returns
  have hlocks := B.notSynchronized
  have hts := atoms_spec (ws := (wq yX4_count cX4_count 2 (some .int))) B.pre
  have hw : ∀ w ∈ bigW, w.before _ s = true := fun w h => hts w (List.mem_cons_of_mem _ h)
  have hown : s.vm.findClass RX4 = some m.cls := findClass_of_methodNamed B.named
  have hl := lv_entry ([.ref (ad 0), .int x]) (n := 2) (Nat.le_of_ble_eq_true rfl)
  rw [lg_entry_eq]
  generalize (lg_sl ([.ref (ad 0), .int x]) ++ List.replicate (2 - (lg_sl ([.ref (ad 0), .int x])).length) Slot.unset).toArray = ls at hl ⊢
  have hl : lv_has ls 2 [(0, .ref (ad 0)), (1, .int x)] := hl
  refine lv_iload_n hx hb dX4_count_0 rfl (lv_at hl 1 rfl) ?_
  refine lv_if_ne (tgt := 11) hx hb dX4_count_1 (by decide) (fun b1 => ?_) (fun b1 => ?_)
  -- ifne at 1, t
  · refine lv_iload_n hx hb dX4_count_11 rfl (lv_at hl 1 rfl) ?_
    refine lv_iconst (v := 1) hx hb dX4_count_12 (by decide) ?_
    refine lv_icmp_ne (tgt := 23) hx hb dX4_count_13 (by decide) (fun b13 => ?_) (fun b13 => ?_)
    -- if_icmpne at 13, t
    · refine lv_iload_n hx hb dX4_count_23 rfl (lv_at hl 1 rfl) ?_
      refine lv_iconst (v := 2) hx hb dX4_count_24 (by decide) ?_
      refine lv_icmp_ne (tgt := 35) hx hb dX4_count_25 (by decide) (fun b25 => ?_) (fun b25 => ?_)
      -- if_icmpne at 25, t
      · refine lv_iconst (v := -1) hx hb dX4_count_35 (by decide) ?_
        exact W.iret (v := -1) hx hb hr (fun t ht hW => ⟨_, rfl, (by rw [coF, if_neg b1, if_neg b13, if_neg b25]), ht⟩) (fun _ h => by cases h) dX4_count_36
      -- if_icmpne at 25, f
      · refine lv_aload_n hx hb dX4_count_28 rfl (lv_at hl 0 rfl) ?_
        refine va_get (D := (dC, dI)) (ci := 4) (v := .int (nI b)) (C := RX4) (T := TX4) (N := 12) hx hb hw in_X4 hown hK hP 0 rfl rfl 2 (by decide) (hw _ mq_fl_X4_56) (fun _ h9 => h9) rfl dX4_count_29 ?_
        refine lv_goto (tgt := 36) hx hb dX4_count_32 (by decide) ?_
        exact W.iret (v := nI b) hx hb hr (fun t ht hW => ⟨_, rfl, (by rw [coF, if_neg b1, if_neg b13, if_pos b25]), ht⟩) (fun _ h => by cases h) dX4_count_36
    -- if_icmpne at 13, f
    · refine lv_aload_n hx hb dX4_count_16 rfl (lv_at hl 0 rfl) ?_
      refine va_get (D := (dC, dI)) (ci := 4) (v := .int (nI a)) (C := RX4) (T := TX4) (N := 12) hx hb hw in_X4 hown hK hP 0 rfl rfl 1 (by decide) (hw _ mq_fl_X4_45) (fun _ h9 => h9) rfl dX4_count_17 ?_
      refine lv_goto (tgt := 36) hx hb dX4_count_20 (by decide) ?_
      exact W.iret (v := nI a) hx hb hr (fun t ht hW => ⟨_, rfl, (by rw [coF, if_neg b1, if_pos b13]), ht⟩) (fun _ h => by cases h) dX4_count_36
  -- ifne at 1, f
  · refine lv_aload_n hx hb dX4_count_4 rfl (lv_at hl 0 rfl) ?_
    refine va_get (D := (dC, dI)) (ci := 4) (v := .int (nI n)) (C := RX4) (T := TX4) (N := 12) hx hb hw in_X4 hown hK hP 0 rfl rfl 0 (by decide) (hw _ mq_fl_X4_7) (fun _ h9 => h9) rfl dX4_count_5 ?_
    refine lv_goto (tgt := 36) hx hb dX4_count_8 (by decide) ?_
    exact W.iret (v := nI n) hx hb hr (fun t ht hW => ⟨_, rfl, (by rw [coF, if_pos b1]), ht⟩) (fun _ h => by cases h) dX4_count_36
set_option maxHeartbeats 4000000 in
set_option maxRecDepth 100000 in
theorem c_X4_end (l : Launch) (dC : Nat → ClassId) (dI : Nat → Nat → Nat) (cI : ClassId) (ad : Nat → Nat) (n a b : Nat) (T H R : Nat → Nat) (O Wy tr hd us nx : Nat → Int32) (x y : Int32) (a14 : a ≤ 14) : Met l yX4_end (wq yX4_end cX4_end 3 (some .int)) ({ frames := 1, cells := 0, slots := 0, locals := 21 }) (ro_P (dC, dI) classes [(cI, .int)] (mw ad cI n a b T H R O Wy tr hd us nx) [.ref (ad 0), .int x, .int y]) (vp_Si (fun r => r = enF a T H x y)) 0 0 (fun _ => False) := by
  refine Met.ofW (cc := cX4_end) (maxL := 3) (ret := (some .int)) (by decide) rfl ?_
  intro p e s m args below meth c s₁ B hml hv
  obtain ⟨rfl, hP, hK, hN⟩ := hv
  have hx := B.exec
  have hb := B.bytes
  have hr := B.returns
  have hlocks := B.notSynchronized
  have hts := atoms_spec (ws := (wq yX4_end cX4_end 3 (some .int))) B.pre
  have hw : ∀ w ∈ bigW, w.before _ s = true := fun w h => hts w (List.mem_cons_of_mem _ h)
  have hown : s.vm.findClass RX4 = some m.cls := findClass_of_methodNamed B.named
  have hl := lv_entry ([.ref (ad 0), .int x, .int y]) (n := 3) (Nat.le_of_ble_eq_true rfl)
  rw [lg_entry_eq]
  generalize (lg_sl ([.ref (ad 0), .int x, .int y]) ++ List.replicate (3 - (lg_sl ([.ref (ad 0), .int x, .int y])).length) Slot.unset).toArray = ls at hl ⊢
  have hl : lv_has ls 3 [(0, .ref (ad 0)), (1, .int x), (2, .int y)] := hl
  refine lv_aload_n hx hb dX4_end_0 rfl (lv_at hl 0 rfl) ?_
  refine lv_iload_n hx hb dX4_end_1 rfl (lv_at hl 1 rfl) ?_
  refine ro_V (As := [.int x]) (rest := []) (b := ad 0) ⟨hx, hb, hml, hown, hts⟩ (c_X4_isArc l dC dI cI ad n a b T H R O Wy tr hd us nx x) (cwV 1 hts (bw_V mq_ml_X4_59 mq_im_X4_isArc mq_se_X4_isArc mq_in_X4 mq_co_X4_isArc) rfl rfl rfl (by decide +kernel) ⟨Nat.le_of_ble_eq_true rfl, Nat.le_of_ble_eq_true rfl⟩) hP hK hN 0 rfl rfl rfl hl.1 rfl (Nat.le_of_ble_eq_true rfl) dX4_end_2 ⟨Nat.zero_le _, Nat.zero_le _⟩ (fun r9 h9 => ?_)
  obtain rfl : r9 = nI (ed_b (decide (0 ≤ x ∧ x < nI a))) := h9
  refine lv_if_eq (tgt := 17) hx hb dX4_end_5 (by decide) (fun b5 => ?_) (fun b5 => ?_)
  -- ifeq at 5, t
  · have t5 := decide_eq_false_iff_not.mp (zb_0.mp b5)
    refine lv_iconst (v := -1) hx hb dX4_end_17 (by decide) ?_
    refine lv_goto (tgt := 40) hx hb dX4_end_18 (by decide) ?_
    exact W.iret (v := -1) hx hb hr (fun t ht hW => ⟨_, rfl, (by rw [enF, if_neg (fun h => t5 h.1)]), ht⟩) (fun _ h => by cases h) dX4_end_40
  -- ifeq at 5, f
  · have t5 := decide_eq_true_eq.mp (zb_n0.mp b5)
    obtain ⟨j, hj, rfl⟩ := is_in_of t5 (by omega)
    refine lv_iload_n hx hb dX4_end_8 rfl (lv_at hl 2 rfl) ?_
    refine lv_if_lt (tgt := 17) hx hb dX4_end_9 (by decide) (fun b9 => ?_) (fun b9 => ?_)
    -- iflt at 9, t
    · refine lv_iconst (v := -1) hx hb dX4_end_17 (by decide) ?_
      refine lv_goto (tgt := 40) hx hb dX4_end_18 (by decide) ?_
      exact W.iret (v := -1) hx hb hr (fun t ht hW => ⟨_, rfl, (by rw [enF, if_neg (fun h => by rcases h.2 with z | z <;> (rw [z] at b9; exact absurd b9 (by decide)))]), ht⟩) (fun _ h => by cases h) dX4_end_40
    -- iflt at 9, f
    · refine lv_iload_n hx hb dX4_end_12 rfl (lv_at hl 2 rfl) ?_
      refine lv_iconst (v := 1) hx hb dX4_end_13 (by decide) ?_
      refine lv_icmp_le (tgt := 21) hx hb dX4_end_14 (by decide) (fun b14 => ?_) (fun b14 => ?_)
      -- if_icmple at 14, t
      · refine lv_iload_n hx hb dX4_end_21 rfl (lv_at hl 2 rfl) ?_
        refine lv_if_ne (tgt := 34) hx hb dX4_end_22 (by decide) (fun b22 => ?_) (fun b22 => ?_)
        -- ifne at 22, t
        · refine lv_aload_n hx hb dX4_end_34 rfl (lv_at hl 0 rfl) ?_
          refine va_get (D := (dC, dI)) (ci := 4) (v := .ref (ad 2)) (C := RX4) (T := TX4) (N := 12) hx hb hw in_X4 hown hK hP 0 rfl rfl 4 (by decide) (hw _ mq_fl_X4_17) (fun _ h9 => h9) rfl dX4_end_35 ?_
          refine lv_iload_n hx hb dX4_end_38 rfl (lv_at hl 1 rfl) ?_
          refine va_iald hx hb hK hP 2 0 rfl rfl (vp_in_nI (by omega) (by decide)) dX4_end_39 ?_
          refine lv_topi (fun z9 e9 => ?_)
          obtain rfl : z9 = nI (H j) := e9.trans (ar_at H (by omega))
          exact W.iret (v := nI (H j)) hx hb hr (fun t ht hW => ⟨_, rfl, (by rw [enF, if_pos ⟨t5, Or.inr (y_one b9 b14 b22)⟩, if_neg b22, nI_clamp (by omega)]), ht⟩) (fun _ h => by cases h) dX4_end_40
        -- ifne at 22, f
        · refine lv_aload_n hx hb dX4_end_25 rfl (lv_at hl 0 rfl) ?_
          refine va_get (D := (dC, dI)) (ci := 4) (v := .ref (ad 1)) (C := RX4) (T := TX4) (N := 12) hx hb hw in_X4 hown hK hP 0 rfl rfl 3 (by decide) (hw _ mq_fl_X4_13) (fun _ h9 => h9) rfl dX4_end_26 ?_
          refine lv_iload_n hx hb dX4_end_29 rfl (lv_at hl 1 rfl) ?_
          refine va_iald hx hb hK hP 1 0 rfl rfl (vp_in_nI (by omega) (by decide)) dX4_end_30 ?_
          refine lv_topi (fun z9 e9 => ?_)
          obtain rfl : z9 = nI (T j) := e9.trans (ar_at T (by omega))
          refine lv_goto (tgt := 40) hx hb dX4_end_31 (by decide) ?_
          exact W.iret (v := nI (T j)) hx hb hr (fun t ht hW => ⟨_, rfl, (by rw [enF, if_pos ⟨t5, Or.inl b22⟩, if_pos b22, nI_clamp (by omega)]), ht⟩) (fun _ h => by cases h) dX4_end_40
      -- if_icmple at 14, f
      · refine lv_iconst (v := -1) hx hb dX4_end_17 (by decide) ?_
        refine lv_goto (tgt := 40) hx hb dX4_end_18 (by decide) ?_
        exact W.iret (v := -1) hx hb hr (fun t ht hW => ⟨_, rfl, (by rw [enF, if_neg (fun h => by rcases h.2 with z | z <;> (rw [z] at b14; exact b14 (by decide)))]), ht⟩) (fun _ h => by cases h) dX4_end_40
set_option maxHeartbeats 4000000 in
set_option maxRecDepth 100000 in
theorem c_X4_entryOf (l : Launch) (dC : Nat → ClassId) (dI : Nat → Nat → Nat) (cI : ClassId) (ad : Nat → Nat) (n a b : Nat) (T H R : Nat → Nat) (O Wy tr hd us nx : Nat → Int32) (X U : Nat) (a14 : a ≤ 14) (hX : X < 128) (hU : U < 2 ^ 14) (hT : ∀ i, T i < 7 ∧ H i < 7) : Met l yX4_entryOf (wq yX4_entryOf cX4_entryOf 5 (some .int)) ({ frames := 1, cells := 0, slots := 0, locals := 21 }) (ro_P (dC, dI) classes [(cI, .int)] (mw ad cI n a b T H R O Wy tr hd us nx) [.ref (ad 0), .int (nI X), .int (nI U)]) (vp_Si (fun r => r = nI (ed_rho T H a (Nat.testBit U) X))) 0 0 (fun _ => False) := by
  refine Met.ofW (cc := cX4_entryOf) (maxL := 5) (ret := (some .int)) (by decide) rfl ?_
  intro p e s m args below meth c s₁ B hml hv
  obtain ⟨rfl, hP, hK, hN⟩ := hv
  have hx := B.exec
  have hb := B.bytes
  have hr := B.returns
  have hlocks := B.notSynchronized
  have hts := atoms_spec (ws := (wq yX4_entryOf cX4_entryOf 5 (some .int))) B.pre
  have hw : ∀ w ∈ bigW, w.before _ s = true := fun w h => hts w (List.mem_cons_of_mem _ h)
  have hown : s.vm.findClass RX4 = some m.cls := findClass_of_methodNamed B.named
  have hl := lv_entry ([.ref (ad 0), .int (nI X), .int (nI U)]) (n := 5) (Nat.le_of_ble_eq_true rfl)
  rw [lg_entry_eq]
  generalize (lg_sl ([.ref (ad 0), .int (nI X), .int (nI U)]) ++ List.replicate (5 - (lg_sl ([.ref (ad 0), .int (nI X), .int (nI U)])).length) Slot.unset).toArray = ls at hl ⊢
  have hl : lv_has ls 5 [(0, .ref (ad 0)), (1, .int (nI X)), (2, .int (nI U))] := hl
  refine lv_iconst (v := nI (ed_rho T H 0 (Nat.testBit U) X)) hx hb dX4_entryOf_0 rfl ?_
  refine lv_istore_n (lv' := [(3, .int (nI (ed_rho T H 0 (Nat.testBit U) X))), (0, .ref (ad 0)), (1, .int (nI X)), (2, .int (nI U))]) hx hb dX4_entryOf_1 rfl hl (by decide) rfl (fun ls hl => ?_)
  refine lv_iconst (v := nI 0) hx hb dX4_entryOf_2 (by decide) ?_
  refine lv_istore (lv' := [(4, .int (nI 0)), (3, .int (nI (ed_rho T H 0 (Nat.testBit U) X))), (0, .ref (ad 0)), (1, .int (nI X)), (2, .int (nI U))]) hx hb dX4_entryOf_3 hl (by decide) rfl (fun ls hl => ?_)
  refine wl_loop (fun k9 ls => ∃ (i : Nat), a - i = k9 ∧ (i ≤ a) ∧ lv_has ls 5 [(0, .ref (ad 0)), (1, .int (nI X)), (2, .int (nI U)), (3, .int (nI (ed_rho T H i (Nat.testBit U) X))), (4, .int (nI i))]) ?_ _ ⟨0, rfl, by omega, lv_sub hl [2, 3, 4, 1, 0] rfl⟩
  clear hl
  intro k9 ls ih9 h9
  obtain ⟨i, k9e, hi, hl⟩ := h9
  have ih_5 := ih9
  clear ih9
  subst k9e
  refine lv_iload hx hb dX4_entryOf_5 (lv_at hl 4 rfl) ?_
  refine lv_aload_n hx hb dX4_entryOf_7 rfl (lv_at hl 0 rfl) ?_
  refine va_get (D := (dC, dI)) (ci := 4) (v := .int (nI a)) (C := RX4) (T := TX4) (N := 12) hx hb hw in_X4 hown hK hP 0 rfl rfl 1 (by decide) (hw _ mq_fl_X4_45) (fun _ h9 => h9) rfl dX4_entryOf_8 ?_
  refine lv_icmp_ge (tgt := 65) hx hb dX4_entryOf_11 (by decide) (fun b11 => ?_) (fun b11 => ?_)
  -- if_icmpge at 11, t
  · have t11 := (nI_leI (by omega) (by omega)).mp b11
    have e8 : i = a := by omega
    refine lv_iload_n hx hb dX4_entryOf_65 rfl (lv_at hl 3 rfl) ?_
    exact W.iret (v := nI (ed_rho T H i (Nat.testBit U) X)) hx hb hr (fun t ht hW => ⟨_, rfl, (by rw [e8]), ht⟩) (fun _ h => by cases h) dX4_entryOf_66
  -- if_icmpge at 11, f
  · have t11 : i < a := Nat.lt_of_not_le (fun z => b11 (nI_le z (by omega)))
    have q7 := hT i
    refine lv_iload_n hx hb dX4_entryOf_14 rfl (lv_at hl 2 rfl) ?_
    refine lv_iload hx hb dX4_entryOf_15 (lv_at hl 4 rfl) ?_
    refine ro_S (As := [.int (nI U), .int (nI i)]) (rest := []) ⟨hx, hb, hml, hown, hts⟩ (c_X4_has l dC dI cI ad n a b T H R O Wy tr hd us nx U i (by omega) (by omega)) (cwS 2 hts (bw_S mq_ml_X4_48 mq_st_X4_has mq_in_X4 mq_co_X4_has) rfl rfl rfl (by decide +kernel) ⟨Nat.le_of_ble_eq_true rfl, Nat.le_of_ble_eq_true rfl⟩) hP hK hN rfl hl.1 rfl (Nat.le_of_ble_eq_true rfl) dX4_entryOf_17 ⟨Nat.zero_le _, Nat.zero_le _⟩ (fun r9 h9 => ?_)
    obtain rfl : r9 = nI (ed_b (Nat.testBit U i)) := h9
    refine lv_if_ne (tgt := 57) hx hb dX4_entryOf_20 (by decide) (fun b20 => ?_) (fun b20 => ?_)
    -- ifne at 20, t
    · have t20 := zb_n0.mp b20
      refine lv_iload_n hx hb dX4_entryOf_57 rfl (lv_at hl 3 rfl) ?_
      refine lv_istore_n (lv' := [(3, .int (nI (ed_rho T H i (Nat.testBit U) X))), (0, .ref (ad 0)), (1, .int (nI X)), (2, .int (nI U)), (4, .int (nI i))]) hx hb dX4_entryOf_58 rfl hl (by decide) rfl (fun ls hl => ?_)
      refine lv_iinc (k := 4) (v := nI (i + 1)) (lv' := [(4, .int (nI (i + 1))), (3, .int (nI (ed_rho T H i (Nat.testBit U) X))), (0, .ref (ad 0)), (1, .int (nI X)), (2, .int (nI U))]) hx hb dX4_entryOf_59 hl rfl (ii_1 _) (by decide) rfl (fun ls hl => ?_)
      refine lv_goto (tgt := 5) hx hb dX4_entryOf_62 (by decide) ?_
      have e9 : ed_rho T H (i + 1) (Nat.testBit U) X = ed_rho T H i (Nat.testBit U) X := by rw [ed_rho_s, t20]; rfl
      rw [← e9] at hl
      exact ih_5 _ _ (by omega) ⟨i + 1, rfl, by omega, lv_sub hl [2, 3, 4, 1, 0] rfl⟩
    -- ifne at 20, f
    · have t20 := zb_0.mp b20
      refine lv_iload_n hx hb dX4_entryOf_23 rfl (lv_at hl 1 rfl) ?_
      refine lv_aload_n hx hb dX4_entryOf_24 rfl (lv_at hl 0 rfl) ?_
      refine va_get (D := (dC, dI)) (ci := 4) (v := .ref (ad 2)) (C := RX4) (T := TX4) (N := 12) hx hb hw in_X4 hown hK hP 0 rfl rfl 4 (by decide) (hw _ mq_fl_X4_17) (fun _ h9 => h9) rfl dX4_entryOf_25 ?_
      refine lv_iload hx hb dX4_entryOf_28 (lv_at hl 4 rfl) ?_
      refine va_iald hx hb hK hP 2 0 rfl rfl (vp_in_nI (by omega) (by decide)) dX4_entryOf_30 ?_
      refine lv_topi (fun z9 e9 => ?_)
      obtain rfl : z9 = nI (H i) := e9.trans (ar_at H (by omega))
      refine ro_S (As := [.int (nI X), .int (nI (H i))]) (rest := []) ⟨hx, hb, hml, hown, hts⟩ (c_X4_has l dC dI cI ad n a b T H R O Wy tr hd us nx X (H i) (by omega) (by omega)) (cwS 2 hts (bw_S mq_ml_X4_48 mq_st_X4_has mq_in_X4 mq_co_X4_has) rfl rfl rfl (by decide +kernel) ⟨Nat.le_of_ble_eq_true rfl, Nat.le_of_ble_eq_true rfl⟩) hP hK hN rfl hl.1 rfl (Nat.le_of_ble_eq_true rfl) dX4_entryOf_31 ⟨Nat.zero_le _, Nat.zero_le _⟩ (fun r9 h9 => ?_)
      obtain rfl : r9 = nI (ed_b (Nat.testBit X (H i))) := h9
      refine lv_if_eq (tgt := 57) hx hb dX4_entryOf_34 (by decide) (fun b34 => ?_) (fun b34 => ?_)
      -- ifeq at 34, t
      · have t34 := zb_0.mp b34
        refine lv_iload_n hx hb dX4_entryOf_57 rfl (lv_at hl 3 rfl) ?_
        refine lv_istore_n (lv' := [(3, .int (nI (ed_rho T H i (Nat.testBit U) X))), (0, .ref (ad 0)), (1, .int (nI X)), (2, .int (nI U)), (4, .int (nI i))]) hx hb dX4_entryOf_58 rfl hl (by decide) rfl (fun ls hl => ?_)
        refine lv_iinc (k := 4) (v := nI (i + 1)) (lv' := [(4, .int (nI (i + 1))), (3, .int (nI (ed_rho T H i (Nat.testBit U) X))), (0, .ref (ad 0)), (1, .int (nI X)), (2, .int (nI U))]) hx hb dX4_entryOf_59 hl rfl (ii_1 _) (by decide) rfl (fun ls hl => ?_)
        refine lv_goto (tgt := 5) hx hb dX4_entryOf_62 (by decide) ?_
        have e9 : ed_rho T H (i + 1) (Nat.testBit U) X = ed_rho T H i (Nat.testBit U) X := by rw [ed_rho_s, ed_en, t34, Bool.false_and, Bool.and_false]; rfl
        rw [← e9] at hl
        exact ih_5 _ _ (by omega) ⟨i + 1, rfl, by omega, lv_sub hl [2, 3, 4, 1, 0] rfl⟩
      -- ifeq at 34, f
      · have t34 := zb_n0.mp b34
        refine lv_iload_n hx hb dX4_entryOf_37 rfl (lv_at hl 1 rfl) ?_
        refine lv_aload_n hx hb dX4_entryOf_38 rfl (lv_at hl 0 rfl) ?_
        refine va_get (D := (dC, dI)) (ci := 4) (v := .ref (ad 1)) (C := RX4) (T := TX4) (N := 12) hx hb hw in_X4 hown hK hP 0 rfl rfl 3 (by decide) (hw _ mq_fl_X4_13) (fun _ h9 => h9) rfl dX4_entryOf_39 ?_
        refine lv_iload hx hb dX4_entryOf_42 (lv_at hl 4 rfl) ?_
        refine va_iald hx hb hK hP 1 0 rfl rfl (vp_in_nI (by omega) (by decide)) dX4_entryOf_44 ?_
        refine lv_topi (fun z9 e9 => ?_)
        obtain rfl : z9 = nI (T i) := e9.trans (ar_at T (by omega))
        refine ro_S (As := [.int (nI X), .int (nI (T i))]) (rest := []) ⟨hx, hb, hml, hown, hts⟩ (c_X4_has l dC dI cI ad n a b T H R O Wy tr hd us nx X (T i) (by omega) (by omega)) (cwS 2 hts (bw_S mq_ml_X4_48 mq_st_X4_has mq_in_X4 mq_co_X4_has) rfl rfl rfl (by decide +kernel) ⟨Nat.le_of_ble_eq_true rfl, Nat.le_of_ble_eq_true rfl⟩) hP hK hN rfl hl.1 rfl (Nat.le_of_ble_eq_true rfl) dX4_entryOf_45 ⟨Nat.zero_le _, Nat.zero_le _⟩ (fun r9 h9 => ?_)
        obtain rfl : r9 = nI (ed_b (Nat.testBit X (T i))) := h9
        refine lv_if_ne (tgt := 57) hx hb dX4_entryOf_48 (by decide) (fun b48 => ?_) (fun b48 => ?_)
        -- ifne at 48, t
        · have t48 := zb_n0.mp b48
          refine lv_iload_n hx hb dX4_entryOf_57 rfl (lv_at hl 3 rfl) ?_
          refine lv_istore_n (lv' := [(3, .int (nI (ed_rho T H i (Nat.testBit U) X))), (0, .ref (ad 0)), (1, .int (nI X)), (2, .int (nI U)), (4, .int (nI i))]) hx hb dX4_entryOf_58 rfl hl (by decide) rfl (fun ls hl => ?_)
          refine lv_iinc (k := 4) (v := nI (i + 1)) (lv' := [(4, .int (nI (i + 1))), (3, .int (nI (ed_rho T H i (Nat.testBit U) X))), (0, .ref (ad 0)), (1, .int (nI X)), (2, .int (nI U))]) hx hb dX4_entryOf_59 hl rfl (ii_1 _) (by decide) rfl (fun ls hl => ?_)
          refine lv_goto (tgt := 5) hx hb dX4_entryOf_62 (by decide) ?_
          have e9 : ed_rho T H (i + 1) (Nat.testBit U) X = ed_rho T H i (Nat.testBit U) X := by rw [ed_rho_s, ed_en, t48, Bool.not_true, Bool.and_false, Bool.and_false]; rfl
          rw [← e9] at hl
          exact ih_5 _ _ (by omega) ⟨i + 1, rfl, by omega, lv_sub hl [2, 3, 4, 1, 0] rfl⟩
        -- ifne at 48, f
        · have t48 := zb_0.mp b48
          refine lv_iload_n hx hb dX4_entryOf_51 rfl (lv_at hl 3 rfl) ?_
          refine lv_iconst (v := 1) hx hb dX4_entryOf_52 (by decide) ?_
          refine lv_iadd hx hb dX4_entryOf_53 ?_
          refine lv_topi (fun z9 e9 => ?_)
          obtain rfl : z9 = nI (ed_rho T H i (Nat.testBit U) X + 1) := e9.trans (nI_1 _)
          refine lv_goto (tgt := 58) hx hb dX4_entryOf_54 (by decide) ?_
          refine lv_istore_n (lv' := [(3, .int (nI (ed_rho T H i (Nat.testBit U) X + 1))), (0, .ref (ad 0)), (1, .int (nI X)), (2, .int (nI U)), (4, .int (nI i))]) hx hb dX4_entryOf_58 rfl hl (by decide) rfl (fun ls hl => ?_)
          refine lv_iinc (k := 4) (v := nI (i + 1)) (lv' := [(4, .int (nI (i + 1))), (3, .int (nI (ed_rho T H i (Nat.testBit U) X + 1))), (0, .ref (ad 0)), (1, .int (nI X)), (2, .int (nI U))]) hx hb dX4_entryOf_59 hl rfl (ii_1 _) (by decide) rfl (fun ls hl => ?_)
          refine lv_goto (tgt := 5) hx hb dX4_entryOf_62 (by decide) ?_
          have e9 : ed_rho T H (i + 1) (Nat.testBit U) X = ed_rho T H i (Nat.testBit U) X + 1 := by rw [ed_rho_s, ed_en, t20, t34, t48]; rfl
          rw [← e9] at hl
          exact ih_5 _ _ (by omega) ⟨i + 1, rfl, by omega, lv_sub hl [2, 3, 4, 1, 0] rfl⟩
set_option maxHeartbeats 4000000 in
set_option maxRecDepth 100000 in
theorem c_X4_entry (l : Launch) (dC : Nat → ClassId) (dI : Nat → Nat → Nat) (cI : ClassId) (ad : Nat → Nat) (n a b : Nat) (T H R : Nat → Nat) (O Wy tr hd us nx : Nat → Int32) (x : Int32) (n7 : n ≤ 7) (a14 : a ≤ 14) (hT : ∀ i, T i < 7 ∧ H i < 7) : Met l yX4_entry (wq yX4_entry cX4_entry 2 (some .int)) ({ frames := 2, cells := 0, slots := 0, locals := 45 }) (ro_P (dC, dI) classes [(cI, .int)] (mw ad cI n a b T H R O Wy tr hd us nx) [.ref (ad 0), .int x]) (vp_Si (fun r => r = etF n a T H x)) 0 0 (fun _ => False) := by
  have p7 := bi_p7 n7
  have p0 := Nat.two_pow_pos n
  refine Met.ofW (cc := cX4_entry) (maxL := 2) (ret := (some .int)) (by decide) rfl ?_
  intro p e s m args below meth c s₁ B hml hv
  obtain ⟨rfl, hP, hK, hN⟩ := hv
  have hx := B.exec
  have hb := B.bytes
  have hr := B.returns
  have hlocks := B.notSynchronized
  have hts := atoms_spec (ws := (wq yX4_entry cX4_entry 2 (some .int))) B.pre
  have hw : ∀ w ∈ bigW, w.before _ s = true := fun w h => hts w (List.mem_cons_of_mem _ h)
  have hown : s.vm.findClass RX4 = some m.cls := findClass_of_methodNamed B.named
  have hl := lv_entry ([.ref (ad 0), .int x]) (n := 2) (Nat.le_of_ble_eq_true rfl)
  rw [lg_entry_eq]
  generalize (lg_sl ([.ref (ad 0), .int x]) ++ List.replicate (2 - (lg_sl ([.ref (ad 0), .int x])).length) Slot.unset).toArray = ls at hl ⊢
  have hl : lv_has ls 2 [(0, .ref (ad 0)), (1, .int x)] := hl
  refine lv_aload_n hx hb dX4_entry_0 rfl (lv_at hl 0 rfl) ?_
  refine lv_iload_n hx hb dX4_entry_1 rfl (lv_at hl 1 rfl) ?_
  refine ro_V (As := [.int x]) (rest := []) (b := ad 0) ⟨hx, hb, hml, hown, hts⟩ (c_X4_isSet l dC dI cI ad n a b T H R O Wy tr hd us nx n7 x) (cwV 1 hts (bw_V mq_ml_X4_67 mq_im_X4_isSet mq_se_X4_isSet mq_in_X4 mq_co_X4_isSet) rfl rfl rfl (by decide +kernel) ⟨Nat.le_of_ble_eq_true rfl, Nat.le_of_ble_eq_true rfl⟩) hP hK hN 0 rfl rfl rfl hl.1 rfl (Nat.le_of_ble_eq_true rfl) dX4_entry_2 ⟨Nat.zero_le _, Nat.zero_le _⟩ (fun r9 h9 => ?_)
  obtain rfl : r9 = nI (ed_b (decide (0 ≤ x ∧ x ≤ nI (2 ^ n - 1)))) := h9
  refine lv_if_eq (tgt := 17) hx hb dX4_entry_5 (by decide) (fun b5 => ?_) (fun b5 => ?_)
  -- ifeq at 5, t
  · have t5 := decide_eq_false_iff_not.mp (zb_0.mp b5)
    refine lv_iconst (v := -1) hx hb dX4_entry_17 (by decide) ?_
    exact W.iret (v := -1) hx hb hr (fun t ht hW => ⟨_, rfl, (by rw [etF, if_neg t5]), ht⟩) (fun _ h => by cases h) dX4_entry_18
  -- ifeq at 5, f
  · have t5 := decide_eq_true_eq.mp (zb_n0.mp b5)
    obtain ⟨X, hX, rfl⟩ := is_in_of ((is_set_in n7).mp t5) (by omega)
    refine lv_aload_n hx hb dX4_entry_8 rfl (lv_at hl 0 rfl) ?_
    refine lv_iload_n hx hb dX4_entry_9 rfl (lv_at hl 1 rfl) ?_
    refine lv_iconst (v := nI 0) hx hb dX4_entry_10 (by decide) ?_
    refine ro_V (As := [.int (nI X), .int (nI 0)]) (rest := []) (b := ad 0) ⟨hx, hb, hml, hown, hts⟩ (c_X4_entryOf l dC dI cI ad n a b T H R O Wy tr hd us nx X 0 a14 (by omega) (by decide) hT) (cwV 2 hts (bw_V mq_ml_X4_70 mq_im_X4_entryOf mq_se_X4_entryOf mq_in_X4 mq_co_X4_entryOf) rfl rfl rfl (by decide +kernel) ⟨Nat.le_of_ble_eq_true rfl, Nat.le_of_ble_eq_true rfl⟩) hP hK hN 0 rfl rfl rfl hl.1 rfl (Nat.le_of_ble_eq_true rfl) dX4_entry_11 ⟨Nat.zero_le _, Nat.zero_le _⟩ (fun r9 h9 => ?_)
    obtain rfl : r9 = nI (rho0 T H a X) := h9.trans (by rw [tb_0]; rfl)
    refine lv_goto (tgt := 18) hx hb dX4_entry_14 (by decide) ?_
    exact W.iret (v := nI (rho0 T H a X)) hx hb hr (fun t ht hW => ⟨_, rfl, (by rw [etF, if_pos t5, nI_clamp (by omega)]), ht⟩) (fun _ h => by cases h) dX4_entry_18
set_option maxHeartbeats 4000000 in
set_option maxRecDepth 100000 in
theorem c_X4_missed (l : Launch) (dC : Nat → ClassId) (dI : Nat → Nat → Nat) (cI : ClassId) (ad : Nat → Nat) (n a b : Nat) (T H R : Nat → Nat) (O Wy tr hd us nx : Nat → Int32) (x : Int32) (n7 : n ≤ 7) (hb3 : b ≤ 3) (hR : ∀ k, R k < 128) : Met l yX4_missed (wq yX4_missed cX4_missed 4 (some .int)) ({ frames := 2, cells := 0, slots := 0, locals := 41 }) (ro_P (dC, dI) classes [(cI, .int)] (mw ad cI n a b T H R O Wy tr hd us nx) [.ref (ad 0), .int x]) (vp_Si (fun r => r = miF n b R x)) 0 0 (fun _ => False) := by
  have p7 := bi_p7 n7
  have p0 := Nat.two_pow_pos n
  refine Met.ofW (cc := cX4_missed) (maxL := 4) (ret := (some .int)) (by decide) rfl ?_
  intro p e s m args below meth c s₁ B hml hv
  obtain ⟨rfl, hP, hK, hN⟩ := hv
  have hx := B.exec
  have hb := B.bytes
  have hr := B.returns
  have hlocks := B.notSynchronized
  have hts := atoms_spec (ws := (wq yX4_missed cX4_missed 4 (some .int))) B.pre
  have hw : ∀ w ∈ bigW, w.before _ s = true := fun w h => hts w (List.mem_cons_of_mem _ h)
  have hown : s.vm.findClass RX4 = some m.cls := findClass_of_methodNamed B.named
  have hl := lv_entry ([.ref (ad 0), .int x]) (n := 4) (Nat.le_of_ble_eq_true rfl)
  rw [lg_entry_eq]
  generalize (lg_sl ([.ref (ad 0), .int x]) ++ List.replicate (4 - (lg_sl ([.ref (ad 0), .int x])).length) Slot.unset).toArray = ls at hl ⊢
  have hl : lv_has ls 4 [(0, .ref (ad 0)), (1, .int x)] := hl
  refine lv_aload_n hx hb dX4_missed_0 rfl (lv_at hl 0 rfl) ?_
  refine lv_iload_n hx hb dX4_missed_1 rfl (lv_at hl 1 rfl) ?_
  refine ro_V (As := [.int x]) (rest := []) (b := ad 0) ⟨hx, hb, hml, hown, hts⟩ (c_X4_isSet l dC dI cI ad n a b T H R O Wy tr hd us nx n7 x) (cwV 1 hts (bw_V mq_ml_X4_67 mq_im_X4_isSet mq_se_X4_isSet mq_in_X4 mq_co_X4_isSet) rfl rfl rfl (by decide +kernel) ⟨Nat.le_of_ble_eq_true rfl, Nat.le_of_ble_eq_true rfl⟩) hP hK hN 0 rfl rfl rfl hl.1 rfl (Nat.le_of_ble_eq_true rfl) dX4_missed_2 ⟨Nat.zero_le _, Nat.zero_le _⟩ (fun r9 h9 => ?_)
  obtain rfl : r9 = nI (ed_b (decide (0 ≤ x ∧ x ≤ nI (2 ^ n - 1)))) := h9
  refine lv_if_ne (tgt := 10) hx hb dX4_missed_5 (by decide) (fun b5 => ?_) (fun b5 => ?_)
  -- ifne at 5, t
  · have t5 := decide_eq_true_eq.mp (zb_n0.mp b5)
    obtain ⟨X, hX, rfl⟩ := is_in_of ((is_set_in n7).mp t5) (by omega)
    refine lv_iconst (v := nI (ed_mis R 0 X)) hx hb dX4_missed_10 rfl ?_
    refine lv_istore_n (lv' := [(2, .int (nI (ed_mis R 0 X))), (0, .ref (ad 0)), (1, .int (nI X))]) hx hb dX4_missed_11 rfl hl (by decide) rfl (fun ls hl => ?_)
    refine lv_iconst (v := nI 0) hx hb dX4_missed_12 (by decide) ?_
    refine lv_istore_n (lv' := [(3, .int (nI 0)), (2, .int (nI (ed_mis R 0 X))), (0, .ref (ad 0)), (1, .int (nI X))]) hx hb dX4_missed_13 rfl hl (by decide) rfl (fun ls hl => ?_)
    refine wl_loop (fun k9 ls => ∃ (i : Nat), b - i = k9 ∧ (i ≤ b) ∧ lv_has ls 4 [(0, .ref (ad 0)), (1, .int (nI X)), (2, .int (nI (ed_mis R i X))), (3, .int (nI i))]) ?_ _ ⟨0, rfl, by omega, lv_sub hl [2, 3, 1, 0] rfl⟩
    clear hl
    intro k9 ls ih9 h9
    obtain ⟨i, k9e, hi, hl⟩ := h9
    have ih_14 := ih9
    clear ih9
    subst k9e
    refine lv_iload_n hx hb dX4_missed_14 rfl (lv_at hl 3 rfl) ?_
    refine lv_aload_n hx hb dX4_missed_15 rfl (lv_at hl 0 rfl) ?_
    refine va_get (D := (dC, dI)) (ci := 4) (v := .int (nI b)) (C := RX4) (T := TX4) (N := 12) hx hb hw in_X4 hown hK hP 0 rfl rfl 2 (by decide) (hw _ mq_fl_X4_56) (fun _ h9 => h9) rfl dX4_missed_16 ?_
    refine lv_icmp_ge (tgt := 47) hx hb dX4_missed_19 (by decide) (fun b19 => ?_) (fun b19 => ?_)
    -- if_icmpge at 19, t
    · have t19 := (nI_leI (by omega) (by omega)).mp b19
      have e8 : i = b := by omega
      refine lv_iload_n hx hb dX4_missed_47 rfl (lv_at hl 2 rfl) ?_
      exact W.iret (v := nI (ed_mis R i X)) hx hb hr (fun t ht hW => ⟨_, rfl, (by rw [miF, if_pos t5, nI_clamp (by omega), e8]), ht⟩) (fun _ h => by cases h) dX4_missed_48
    -- if_icmpge at 19, f
    · have t19 : i < b := Nat.lt_of_not_le (fun z => b19 (nI_le z (by omega)))
      have q7 := hR i
      refine lv_aload_n hx hb dX4_missed_22 rfl (lv_at hl 0 rfl) ?_
      refine va_get (D := (dC, dI)) (ci := 4) (v := .ref (ad 3)) (C := RX4) (T := TX4) (N := 12) hx hb hw in_X4 hown hK hP 0 rfl rfl 5 (by decide) (hw _ mq_fl_X4_20) (fun _ h9 => h9) rfl dX4_missed_23 ?_
      refine lv_iload_n hx hb dX4_missed_26 rfl (lv_at hl 3 rfl) ?_
      refine va_iald hx hb hK hP 3 0 rfl rfl (vp_in_nI (by omega) (by decide)) dX4_missed_27 ?_
      refine lv_topi (fun z9 e9 => ?_)
      obtain rfl : z9 = nI (R i) := e9.trans (ar_at R (by omega))
      refine lv_iload_n hx hb dX4_missed_28 rfl (lv_at hl 1 rfl) ?_
      refine lv_iand hx hb dX4_missed_29 ?_
      refine lv_if_ne (tgt := 39) hx hb dX4_missed_30 (by decide) (fun b30 => ?_) (fun b30 => ?_)
      -- ifne at 30, t
      · have t30 : ¬ R i &&& X = 0 := fun z => b30 ((bi_z (by omega)).mpr z)
        refine lv_iload_n hx hb dX4_missed_39 rfl (lv_at hl 2 rfl) ?_
        refine lv_istore_n (lv' := [(2, .int (nI (ed_mis R i X))), (0, .ref (ad 0)), (1, .int (nI X)), (3, .int (nI i))]) hx hb dX4_missed_40 rfl hl (by decide) rfl (fun ls hl => ?_)
        refine lv_iinc (k := 3) (v := nI (i + 1)) (lv' := [(3, .int (nI (i + 1))), (2, .int (nI (ed_mis R i X))), (0, .ref (ad 0)), (1, .int (nI X))]) hx hb dX4_missed_41 hl rfl (ii_1 _) (by decide) rfl (fun ls hl => ?_)
        refine lv_goto (tgt := 14) hx hb dX4_missed_44 (by decide) ?_
        have e8 : ed_mis R (i + 1) X = ed_mis R i X := by rw [ed_mis_s, beq_false_of_ne t30]; rfl
        rw [← e8] at hl
        exact ih_14 _ _ (by omega) ⟨i + 1, rfl, by omega, lv_sub hl [2, 3, 1, 0] rfl⟩
      -- ifne at 30, f
      · have t30 : R i &&& X = 0 := (bi_z (by omega)).mp b30
        refine lv_iload_n hx hb dX4_missed_33 rfl (lv_at hl 2 rfl) ?_
        refine lv_iconst (v := 1) hx hb dX4_missed_34 (by decide) ?_
        refine lv_iadd hx hb dX4_missed_35 ?_
        refine lv_topi (fun z9 e9 => ?_)
        obtain rfl : z9 = nI (ed_mis R i X + 1) := e9.trans (nI_1 _)
        refine lv_goto (tgt := 40) hx hb dX4_missed_36 (by decide) ?_
        refine lv_istore_n (lv' := [(2, .int (nI (ed_mis R i X + 1))), (0, .ref (ad 0)), (1, .int (nI X)), (3, .int (nI i))]) hx hb dX4_missed_40 rfl hl (by decide) rfl (fun ls hl => ?_)
        refine lv_iinc (k := 3) (v := nI (i + 1)) (lv' := [(3, .int (nI (i + 1))), (2, .int (nI (ed_mis R i X + 1))), (0, .ref (ad 0)), (1, .int (nI X))]) hx hb dX4_missed_41 hl rfl (ii_1 _) (by decide) rfl (fun ls hl => ?_)
        refine lv_goto (tgt := 14) hx hb dX4_missed_44 (by decide) ?_
        have e8 : ed_mis R (i + 1) X = ed_mis R i X + 1 := by rw [ed_mis_s, beq_iff_eq.mpr t30]; rfl
        rw [← e8] at hl
        exact ih_14 _ _ (by omega) ⟨i + 1, rfl, by omega, lv_sub hl [2, 3, 1, 0] rfl⟩
  -- ifne at 5, f
  · have t5 := decide_eq_false_iff_not.mp (zb_0.mp b5)
    refine lv_iconst (v := -1) hx hb dX4_missed_8 (by decide) ?_
    exact W.iret (v := -1) hx hb hr (fun t ht hW => ⟨_, rfl, (by rw [miF, if_neg t5]), ht⟩) (fun _ h => by cases h) dX4_missed_9
set_option maxHeartbeats 4000000 in
set_option maxRecDepth 100000 in
theorem c_X4_stopper (l : Launch) (dC : Nat → ClassId) (dI : Nat → Nat → Nat) (cI : ClassId) (ad : Nat → Nat) (n a b : Nat) (T H R : Nat → Nat) (O Wy tr hd us nx : Nat → Int32) (hI : st_I n a T H b R) : Met l yX4_stopper (wq yX4_stopper cX4_stopper 3 (some .int)) ({ frames := 3, cells := 0, slots := 0, locals := 66 }) (ro_P (dC, dI) classes [(cI, .int)] (mw ad cI n a b T H R O Wy tr hd us nx) [.ref (ad 0)]) (vp_Si (fun r => r = nI (spF n a T H b R))) 0 0 (fun _ => False) := by
  obtain ⟨n1, n7, a14, hT, hT2, hb3, hR3, hR⟩ := hI
  have p7 := bi_p7 n7
  have p0 := Nat.two_pow_pos n
  refine Met.ofW (cc := cX4_stopper) (maxL := 3) (ret := (some .int)) (by decide) rfl ?_
  intro p e s m args below meth c s₁ B hml hv
  obtain ⟨rfl, hP, hK, hN⟩ := hv
  have hx := B.exec
  have hb := B.bytes
  have hr := B.returns
  have hlocks := B.notSynchronized
  have hts := atoms_spec (ws := (wq yX4_stopper cX4_stopper 3 (some .int))) B.pre
  have hw : ∀ w ∈ bigW, w.before _ s = true := fun w h => hts w (List.mem_cons_of_mem _ h)
  have hown : s.vm.findClass RX4 = some m.cls := findClass_of_methodNamed B.named
  have hl := lv_entry ([.ref (ad 0)]) (n := 3) (Nat.le_of_ble_eq_true rfl)
  rw [lg_entry_eq]
  generalize (lg_sl ([.ref (ad 0)]) ++ List.replicate (3 - (lg_sl ([.ref (ad 0)])).length) Slot.unset).toArray = ls at hl ⊢
  have hl : lv_has ls 3 [(0, .ref (ad 0))] := hl
  refine lv_iconst (v := nI (fs_at (stp T H a R b) 0)) hx hb dX4_stopper_0 rfl ?_
  refine lv_istore_n (lv' := [(1, .int (nI (fs_at (stp T H a R b) 0))), (0, .ref (ad 0))]) hx hb dX4_stopper_1 rfl hl (by decide) rfl (fun ls hl => ?_)
  refine lv_iconst (v := nI (0 + 1)) hx hb dX4_stopper_2 (by decide) ?_
  refine lv_istore_n (lv' := [(2, .int (nI (0 + 1))), (1, .int (nI (fs_at (stp T H a R b) 0))), (0, .ref (ad 0))]) hx hb dX4_stopper_3 rfl hl (by decide) rfl (fun ls hl => ?_)
  refine wl_loop (fun k9 ls => ∃ (i : Nat), 2 ^ n - i = k9 ∧ (i ≤ 2 ^ n - 1) ∧ lv_has ls 3 [(0, .ref (ad 0)), (1, .int (nI (fs_at (stp T H a R b) i))), (2, .int (nI (i + 1)))]) ?_ _ ⟨0, rfl, by omega, lv_sub hl [2, 1, 0] rfl⟩
  clear hl
  intro k9 ls ih9 h9
  obtain ⟨i, k9e, hi, hl⟩ := h9
  have ih_4 := ih9
  clear ih9
  subst k9e
  have z9 := fs_le (stp T H a R b) i
  refine lv_iload_n hx hb dX4_stopper_4 rfl (lv_at hl 2 rfl) ?_
  refine lv_aload_n hx hb dX4_stopper_5 rfl (lv_at hl 0 rfl) ?_
  refine ro_V (As := []) (rest := [.int (nI (i + 1))]) (b := ad 0) ⟨hx, hb, hml, hown, hts⟩ (c_X4_all l dC dI cI ad n a b T H R O Wy tr hd us nx n7) (cwV 0 hts (bw_V mq_ml_X4_41 mq_im_X4_all mq_se_X4_all mq_in_X4 mq_co_X4_all) rfl rfl rfl (by decide +kernel) ⟨Nat.le_of_ble_eq_true rfl, Nat.le_of_ble_eq_true rfl⟩) hP hK hN 0 rfl rfl rfl hl.1 rfl (Nat.le_of_ble_eq_true rfl) dX4_stopper_6 ⟨Nat.zero_le _, Nat.zero_le _⟩ (fun r9 h9 => ?_)
  obtain rfl : r9 = nI (2 ^ n - 1) := h9
  refine lv_icmp_gt (tgt := 45) hx hb dX4_stopper_9 (by decide) (fun b9 => ?_) (fun b9 => ?_)
  -- if_icmpgt at 9, t
  · have t9 := (nI_ltI (by omega) (by omega)).mp b9
    have e12 : i = 2 ^ n - 1 := by omega
    refine lv_iload_n hx hb dX4_stopper_45 rfl (lv_at hl 1 rfl) ?_
    exact W.iret (v := nI (fs_at (stp T H a R b) i)) hx hb hr (fun t ht hW => ⟨_, rfl, (by rw [e12]; rfl), ht⟩) (fun _ h => by cases h) dX4_stopper_46
  -- if_icmpgt at 9, f
  · have t9 : i + 1 ≤ 2 ^ n - 1 := Nat.le_of_not_lt (fun z => b9 (nI_lt z (by omega)))
    have z8 : rho0 T H a (i + 1) ≤ a := ed_ct_le _ _
    have z7 : ed_mis R b (i + 1) ≤ b := ed_ct_le _ _
    refine lv_aload_n hx hb dX4_stopper_12 rfl (lv_at hl 0 rfl) ?_
    refine lv_iload_n hx hb dX4_stopper_13 rfl (lv_at hl 2 rfl) ?_
    refine ro_V (As := [.int (nI (i + 1))]) (rest := []) (b := ad 0) ⟨hx, hb, hml, hown, hts⟩ (c_X4_entry l dC dI cI ad n a b T H R O Wy tr hd us nx (nI (i + 1)) n7 a14 hT) (cwV 1 hts (bw_V mq_ml_X4_74 mq_im_X4_entry mq_se_X4_entry mq_in_X4 mq_co_X4_entry) rfl rfl rfl (by decide +kernel) ⟨Nat.le_of_ble_eq_true rfl, Nat.le_of_ble_eq_true rfl⟩) hP hK hN 0 rfl rfl rfl hl.1 rfl (Nat.le_of_ble_eq_true rfl) dX4_stopper_14 ⟨Nat.zero_le _, Nat.zero_le _⟩ (fun r9 h9 => ?_)
    obtain rfl : r9 = nI (rho0 T H a (i + 1)) := h9.trans (et_in n7 (by omega))
    refine lv_aload_n hx hb dX4_stopper_17 rfl (lv_at hl 0 rfl) ?_
    refine lv_iload_n hx hb dX4_stopper_18 rfl (lv_at hl 2 rfl) ?_
    refine ro_V (As := [.int (nI (i + 1))]) (rest := [.int (nI (rho0 T H a (i + 1)))]) (b := ad 0) ⟨hx, hb, hml, hown, hts⟩ (c_X4_missed l dC dI cI ad n a b T H R O Wy tr hd us nx (nI (i + 1)) n7 hb3 hR) (cwV 1 hts (bw_V mq_ml_X4_77 mq_im_X4_missed mq_se_X4_missed mq_in_X4 mq_co_X4_missed) rfl rfl rfl (by decide +kernel) ⟨Nat.le_of_ble_eq_true rfl, Nat.le_of_ble_eq_true rfl⟩) hP hK hN 0 rfl rfl rfl hl.1 rfl (Nat.le_of_ble_eq_true rfl) dX4_stopper_19 ⟨Nat.zero_le _, Nat.zero_le _⟩ (fun r9 h9 => ?_)
    obtain rfl : r9 = nI (ed_mis R b (i + 1)) := h9.trans (mi_in n7 (by omega))
    refine lv_icmp_ge (tgt := 39) hx hb dX4_stopper_22 (by decide) (fun b22 => ?_) (fun b22 => ?_)
    -- if_icmpge at 22, t
    · have z22 := (nI_leI (by omega) (by omega)).mp b22
      have t22 : stp T H a R b (i + 1) = false := decide_eq_false (by omega)
      refine lv_iinc (k := 2) (v := nI (i + 1 + 1)) (lv' := [(2, .int (nI (i + 1 + 1))), (0, .ref (ad 0)), (1, .int (nI (fs_at (stp T H a R b) i)))]) hx hb dX4_stopper_39 hl rfl (ii_1 _) (by decide) rfl (fun ls hl => ?_)
      refine lv_goto (tgt := 4) hx hb dX4_stopper_42 (by decide) ?_
      have e8 : fs_at (stp T H a R b) (i + 1) = fs_at (stp T H a R b) i := by rw [fs_s, t22, Bool.and_false, if_neg (by decide)]
      replace hl := lv_sub hl [1, 2, 0] rfl
      have hl : lv_has ls 3 [(0, .ref (ad 0)), (1, .int (nI (fs_at (stp T H a R b) (i + 1)))), (2, .int (nI (i + 1 + 1)))] := by rw [e8]; exact hl
      exact ih_4 _ _ (by omega) ⟨i + 1, rfl, by omega, lv_sub hl [0, 1, 2] rfl⟩
    -- if_icmpge at 22, f
    · have t22 : stp T H a R b (i + 1) = true := decide_eq_true (Nat.lt_of_not_le (fun z => b22 (nI_le z (by omega))))
      refine lv_iload_n hx hb dX4_stopper_25 rfl (lv_at hl 1 rfl) ?_
      refine lv_if_eq (tgt := 37) hx hb dX4_stopper_26 (by decide) (fun b26 => ?_) (fun b26 => ?_)
      -- ifeq at 26, t
      · have t26 : fs_at (stp T H a R b) i = 0 := (nI_eq (by omega) (by decide)).mp (b26.trans nI_0.symm)
        refine lv_iload_n hx hb dX4_stopper_37 rfl (lv_at hl 2 rfl) ?_
        refine lv_istore_n (lv' := [(1, .int (nI (i + 1))), (0, .ref (ad 0)), (2, .int (nI (i + 1)))]) hx hb dX4_stopper_38 rfl hl (by decide) rfl (fun ls hl => ?_)
        refine lv_iinc (k := 2) (v := nI (i + 1 + 1)) (lv' := [(2, .int (nI (i + 1 + 1))), (1, .int (nI (i + 1))), (0, .ref (ad 0))]) hx hb dX4_stopper_39 hl rfl (ii_1 _) (by decide) rfl (fun ls hl => ?_)
        refine lv_goto (tgt := 4) hx hb dX4_stopper_42 (by decide) ?_
        have e8 : fs_at (stp T H a R b) (i + 1) = i + 1 := by rw [fs_s, t22, beq_iff_eq.mpr t26, Bool.true_or, Bool.true_and, if_pos rfl]
        replace hl := lv_sub hl [2, 1, 0] rfl
        have hl : lv_has ls 3 [(0, .ref (ad 0)), (1, .int (nI (fs_at (stp T H a R b) (i + 1)))), (2, .int (nI (i + 1 + 1)))] := by rw [e8]; exact hl
        exact ih_4 _ _ (by omega) ⟨i + 1, rfl, by omega, lv_sub hl [0, 1, 2] rfl⟩
      -- ifeq at 26, f
      · have t26 : ¬ fs_at (stp T H a R b) i = 0 := fun z => b26 (by rw [z]; exact nI_0)
        refine lv_iload_n hx hb dX4_stopper_29 rfl (lv_at hl 2 rfl) ?_
        refine lv_iload_n hx hb dX4_stopper_30 rfl (lv_at hl 1 rfl) ?_
        refine ro_S (As := [.int (nI (i + 1)), .int (nI (fs_at (stp T H a R b) i))]) (rest := []) ⟨hx, hb, hml, hown, hts⟩ (c_X4_isBefore l dC dI cI ad n a b T H R O Wy tr hd us nx (i + 1) (fs_at (stp T H a R b) i) (by omega) (by omega)) (cwS 2 hts (bw_S mq_ml_X4_80 mq_st_X4_isBefore mq_in_X4 mq_co_X4_isBefore) rfl rfl rfl (by decide +kernel) ⟨Nat.le_of_ble_eq_true rfl, Nat.le_of_ble_eq_true rfl⟩) hP hK hN rfl hl.1 rfl (Nat.le_of_ble_eq_true rfl) dX4_stopper_31 ⟨Nat.zero_le _, Nat.zero_le _⟩ (fun r9 h9 => ?_)
        obtain rfl : r9 = nI (ed_b (or_bf (i + 1) (fs_at (stp T H a R b) i))) := h9
        refine lv_if_eq (tgt := 39) hx hb dX4_stopper_34 (by decide) (fun b34 => ?_) (fun b34 => ?_)
        -- ifeq at 34, t
        · have t34 := zb_0.mp b34
          refine lv_iinc (k := 2) (v := nI (i + 1 + 1)) (lv' := [(2, .int (nI (i + 1 + 1))), (0, .ref (ad 0)), (1, .int (nI (fs_at (stp T H a R b) i)))]) hx hb dX4_stopper_39 hl rfl (ii_1 _) (by decide) rfl (fun ls hl => ?_)
          refine lv_goto (tgt := 4) hx hb dX4_stopper_42 (by decide) ?_
          have e8 : fs_at (stp T H a R b) (i + 1) = fs_at (stp T H a R b) i := by rw [fs_s, t34, beq_false_of_ne t26, Bool.or_false, Bool.false_and, if_neg (by decide)]
          replace hl := lv_sub hl [1, 2, 0] rfl
          have hl : lv_has ls 3 [(0, .ref (ad 0)), (1, .int (nI (fs_at (stp T H a R b) (i + 1)))), (2, .int (nI (i + 1 + 1)))] := by rw [e8]; exact hl
          exact ih_4 _ _ (by omega) ⟨i + 1, rfl, by omega, lv_sub hl [0, 1, 2] rfl⟩
        -- ifeq at 34, f
        · have t34 := zb_n0.mp b34
          refine lv_iload_n hx hb dX4_stopper_37 rfl (lv_at hl 2 rfl) ?_
          refine lv_istore_n (lv' := [(1, .int (nI (i + 1))), (0, .ref (ad 0)), (2, .int (nI (i + 1)))]) hx hb dX4_stopper_38 rfl hl (by decide) rfl (fun ls hl => ?_)
          refine lv_iinc (k := 2) (v := nI (i + 1 + 1)) (lv' := [(2, .int (nI (i + 1 + 1))), (1, .int (nI (i + 1))), (0, .ref (ad 0))]) hx hb dX4_stopper_39 hl rfl (ii_1 _) (by decide) rfl (fun ls hl => ?_)
          refine lv_goto (tgt := 4) hx hb dX4_stopper_42 (by decide) ?_
          have e8 : fs_at (stp T H a R b) (i + 1) = i + 1 := by rw [fs_s, t22, t34, Bool.or_true, Bool.true_and, if_pos rfl]
          replace hl := lv_sub hl [2, 1, 0] rfl
          have hl : lv_has ls 3 [(0, .ref (ad 0)), (1, .int (nI (fs_at (stp T H a R b) (i + 1)))), (2, .int (nI (i + 1 + 1)))] := by rw [e8]; exact hl
          exact ih_4 _ _ (by omega) ⟨i + 1, rfl, by omega, lv_sub hl [0, 1, 2] rfl⟩
set_option maxHeartbeats 4000000 in
set_option maxRecDepth 100000 in
theorem c_X4_isStopped (l : Launch) (dC : Nat → ClassId) (dI : Nat → Nat → Nat) (cI : ClassId) (ad : Nat → Nat) (n a b : Nat) (T H R : Nat → Nat) (O Wy tr hd us nx : Nat → Int32) (k had U : Nat) (hI : st_I n a T H b R) (hh : had < 128) (hU : U < 2 ^ 14) (hk : k < b) : Met l yX4_isStopped (wq yX4_isStopped cX4_isStopped 7 (some .boolean)) ({ frames := 2, cells := 0, slots := 0, locals := 45 }) (ro_P (dC, dI) classes [(cI, .int)] (mw ad cI n a b T H R O Wy tr hd us nx) [.ref (ad 0), .int (nI k), .int (nI had), .int (nI U)]) (vp_Si (fun r => r = nI (ed_b (!ru_ok n a b T H R k had (Nat.testBit U))))) 0 0 (fun _ => False) := by
  obtain ⟨n1, n7, a14, hT, hT2, hb3, hR3, hR⟩ := hI
  have p7 := bi_p7 n7
  have p0 := Nat.two_pow_pos n
  refine Met.ofW (cc := cX4_isStopped) (maxL := 7) (ret := (some .boolean)) (by decide) rfl ?_
  intro p e s m args below meth c s₁ B hml hv
  obtain ⟨rfl, hP, hK, hN⟩ := hv
  have hx := B.exec
  have hb := B.bytes
  have hr := B.returns
  have hlocks := B.notSynchronized
  have hts := atoms_spec (ws := (wq yX4_isStopped cX4_isStopped 7 (some .boolean))) B.pre
  have hw : ∀ w ∈ bigW, w.before _ s = true := fun w h => hts w (List.mem_cons_of_mem _ h)
  have hown : s.vm.findClass RX4 = some m.cls := findClass_of_methodNamed B.named
  have hl := lv_entry ([.ref (ad 0), .int (nI k), .int (nI had), .int (nI U)]) (n := 7) (Nat.le_of_ble_eq_true rfl)
  rw [lg_entry_eq]
  generalize (lg_sl ([.ref (ad 0), .int (nI k), .int (nI had), .int (nI U)]) ++ List.replicate (7 - (lg_sl ([.ref (ad 0), .int (nI k), .int (nI had), .int (nI U)])).length) Slot.unset).toArray = ls at hl ⊢
  have hl : lv_has ls 7 [(0, .ref (ad 0)), (1, .int (nI k)), (2, .int (nI had)), (3, .int (nI U))] := hl
  refine lv_iconst (v := nI 1) hx hb dX4_isStopped_0 (by decide) ?_
  refine lv_istore (lv' := [(4, .int (nI 1)), (0, .ref (ad 0)), (1, .int (nI k)), (2, .int (nI had)), (3, .int (nI U))]) hx hb dX4_isStopped_1 hl (by decide) rfl (fun ls hl => ?_)
  refine wl_loop (fun k9 ls => ∃ (X : Nat), 2 ^ n - X = k9 ∧ (0 < X ∧ X ≤ 2 ^ n) ∧ (∀ Y, 0 < Y → Y < X → ed_p R b k had Y ≤ ed_rho T H a (Nat.testBit U) Y) ∧ lv_has ls 7 [(0, .ref (ad 0)), (1, .int (nI k)), (2, .int (nI had)), (3, .int (nI U)), (4, .int (nI X))]) ?_ _ ⟨1, rfl, ⟨by omega, by omega⟩, fun Y y0 y1 => by omega, lv_sub hl [1, 2, 3, 4, 0] rfl⟩
  clear hl
  intro k9 ls ih9 h9
  obtain ⟨X, k9e, hX, hall, hl⟩ := h9
  have ih_3 := ih9
  clear ih9
  subst k9e
  refine lv_iload hx hb dX4_isStopped_3 (lv_at hl 4 rfl) ?_
  refine lv_aload_n hx hb dX4_isStopped_5 rfl (lv_at hl 0 rfl) ?_
  refine ro_V (As := []) (rest := [.int (nI X)]) (b := ad 0) ⟨hx, hb, hml, hown, hts⟩ (c_X4_all l dC dI cI ad n a b T H R O Wy tr hd us nx n7) (cwV 0 hts (bw_V mq_ml_X4_41 mq_im_X4_all mq_se_X4_all mq_in_X4 mq_co_X4_all) rfl rfl rfl (by decide +kernel) ⟨Nat.le_of_ble_eq_true rfl, Nat.le_of_ble_eq_true rfl⟩) hP hK hN 0 rfl rfl rfl hl.1 rfl (Nat.le_of_ble_eq_true rfl) dX4_isStopped_6 ⟨Nat.zero_le _, Nat.zero_le _⟩ (fun r9 h9 => ?_)
  obtain rfl : r9 = nI (2 ^ n - 1) := h9
  refine lv_icmp_gt (tgt := 90) hx hb dX4_isStopped_9 (by decide) (fun b9 => ?_) (fun b9 => ?_)
  -- if_icmpgt at 9, t
  · have t9 := (nI_ltI (by omega) (by omega)).mp b9
    refine lv_iconst (v := 0) hx hb dX4_isStopped_90 (by decide) ?_
    exact W.zret (v := 0) hx hb hr rfl (fun t ht hW => ⟨_, rfl, zb_F (by rw [ru_ok_iff.mpr (fun Y y0 y1 => hall Y y0 (by omega))]; rfl), ht⟩) (fun _ h => by cases h) dX4_isStopped_91
  -- if_icmpgt at 9, f
  · have t9 : X ≤ 2 ^ n - 1 := Nat.le_of_not_lt (fun z => b9 (nI_lt z (by omega)))
    have z9 : ed_rho T H a (Nat.testBit U) X ≤ a := ed_ct_le _ _
    refine lv_iload_n hx hb dX4_isStopped_12 rfl (lv_at hl 2 rfl) ?_
    refine lv_iload hx hb dX4_isStopped_13 (lv_at hl 4 rfl) ?_
    refine lv_iand hx hb dX4_isStopped_15 ?_
    refine lv_if_ne (tgt := 23) hx hb dX4_isStopped_16 (by decide) (fun b16 => ?_) (fun b16 => ?_)
    -- ifne at 16, t
    · have e5 : is_p R k had X (k + 1) = 0 := is_p_0 (fun z => b16 ((bi_z (by omega)).mpr z))
      refine lv_iconst (v := nI (is_p R k had X (k + 1))) hx hb dX4_isStopped_23 (by rw [e5]; rfl) ?_
      refine lv_istore (lv' := [(5, .int (nI (is_p R k had X (k + 1)))), (0, .ref (ad 0)), (1, .int (nI k)), (2, .int (nI had)), (3, .int (nI U)), (4, .int (nI X))]) hx hb dX4_isStopped_24 hl (by decide) rfl (fun ls hl => ?_)
      refine lv_iload_n hx hb dX4_isStopped_26 rfl (lv_at hl 2 rfl) ?_
      refine lv_iconst (v := 1) hx hb dX4_isStopped_27 (by decide) ?_
      refine lv_iadd hx hb dX4_isStopped_28 ?_
      refine lv_topi (fun z9 e9 => ?_)
      obtain rfl : z9 = nI (k + 1) := e9.trans (nI_1 k)
      refine lv_istore (lv' := [(6, .int (nI (k + 1))), (5, .int (nI (is_p R k had X (k + 1)))), (0, .ref (ad 0)), (1, .int (nI k)), (2, .int (nI had)), (3, .int (nI U)), (4, .int (nI X))]) hx hb dX4_isStopped_29 hl (by decide) rfl (fun ls hl => ?_)
      refine wl_loop (fun k9 ls => ∃ (j : Nat), b - j = k9 ∧ (k < j ∧ j ≤ b) ∧ lv_has ls 7 [(0, .ref (ad 0)), (1, .int (nI k)), (2, .int (nI had)), (3, .int (nI U)), (4, .int (nI X)), (5, .int (nI (is_p R k had X j))), (6, .int (nI j))]) ?_ _ ⟨k + 1, rfl, ⟨by omega, by omega⟩, lv_sub hl [2, 3, 4, 5, 6, 1, 0] rfl⟩
      clear hl
      intro k9 ls ih9 h9
      obtain ⟨j, k9e, hj, hl⟩ := h9
      have ih_31 := ih9
      clear ih9
      subst k9e
      refine lv_iload hx hb dX4_isStopped_31 (lv_at hl 6 rfl) ?_
      refine lv_aload_n hx hb dX4_isStopped_33 rfl (lv_at hl 0 rfl) ?_
      refine va_get (D := (dC, dI)) (ci := 4) (v := .int (nI b)) (C := RX4) (T := TX4) (N := 12) hx hb hw in_X4 hown hK hP 0 rfl rfl 2 (by decide) (hw _ mq_fl_X4_56) (fun _ h9 => h9) rfl dX4_isStopped_34 ?_
      refine lv_icmp_ge (tgt := 70) hx hb dX4_isStopped_37 (by decide) (fun b37 => ?_) (fun b37 => ?_)
      -- if_icmpge at 37, t
      · have t37 := (nI_leI (by omega) (by omega)).mp b37
        have e37 : j = b := by omega
        have z8 : is_p R k had X b ≤ 1 + b := is_p_le _ _ _ _ _
        rw [e37] at hl
        refine lv_aload_n hx hb dX4_isStopped_70 rfl (lv_at hl 0 rfl) ?_
        refine lv_iload hx hb dX4_isStopped_71 (lv_at hl 4 rfl) ?_
        refine lv_iload_n hx hb dX4_isStopped_73 rfl (lv_at hl 3 rfl) ?_
        refine ro_V (As := [.int (nI X), .int (nI U)]) (rest := []) (b := ad 0) ⟨hx, hb, hml, hown, hts⟩ (c_X4_entryOf l dC dI cI ad n a b T H R O Wy tr hd us nx X U a14 (by omega) hU hT) (cwV 2 hts (bw_V mq_ml_X4_70 mq_im_X4_entryOf mq_se_X4_entryOf mq_in_X4 mq_co_X4_entryOf) rfl rfl rfl (by decide +kernel) ⟨Nat.le_of_ble_eq_true rfl, Nat.le_of_ble_eq_true rfl⟩) hP hK hN 0 rfl rfl rfl hl.1 rfl (Nat.le_of_ble_eq_true rfl) dX4_isStopped_74 ⟨Nat.zero_le _, Nat.zero_le _⟩ (fun r9 h9 => ?_)
        obtain rfl : r9 = nI (ed_rho T H a (Nat.testBit U) X) := h9
        refine lv_iload hx hb dX4_isStopped_77 (lv_at hl 5 rfl) ?_
        refine lv_icmp_ge (tgt := 84) hx hb dX4_isStopped_79 (by decide) (fun b79 => ?_) (fun b79 => ?_)
        -- if_icmpge at 79, t
        · have t79 : ed_p R b k had X ≤ ed_rho T H a (Nat.testBit U) X := (nI_leI (a := is_p R k had X b) (by omega) (by omega)).mp b79
          refine lv_iinc (k := 4) (v := nI (X + 1)) (lv' := [(4, .int (nI (X + 1))), (0, .ref (ad 0)), (1, .int (nI k)), (2, .int (nI had)), (3, .int (nI U)), (5, .int (nI (is_p R k had X b))), (6, .int (nI b))]) hx hb dX4_isStopped_84 hl rfl (ii_1 _) (by decide) rfl (fun ls hl => ?_)
          refine lv_goto (tgt := 3) hx hb dX4_isStopped_87 (by decide) ?_
          have hall2 : ∀ Y, 0 < Y → Y < X + 1 → ed_p R b k had Y ≤ ed_rho T H a (Nat.testBit U) Y := by
            intro Y y0 y1
            rcases Nat.lt_or_ge Y X with y3 | y3
            · exact hall Y y0 y3
            · have y4 : Y = X := by omega
              rw [y4]
              exact t79
          exact ih_3 _ _ (by omega) ⟨X + 1, rfl, by omega, hall2, lv_sub hl [1, 2, 3, 4, 0] rfl⟩
        -- if_icmpge at 79, f
        · have t79 : ¬ ed_p R b k had X ≤ ed_rho T H a (Nat.testBit U) X := fun z => b79 (nI_le (a := is_p R k had X b) z (by omega))
          refine lv_iconst (v := 1) hx hb dX4_isStopped_82 (by decide) ?_
          exact W.zret (v := 1) hx hb hr rfl (fun t ht hW => ⟨_, rfl, zb_T (by rw [Bool.eq_false_iff.mpr (fun z => t79 (ru_ok_iff.mp z X hX.1 (by omega)))]; rfl), ht⟩) (fun _ h => by cases h) dX4_isStopped_83
      -- if_icmpge at 37, f
      · have t37 : j < b := Nat.lt_of_not_le (fun z => b37 (nI_le z (by omega)))
        have q7 := hR j
        refine lv_aload_n hx hb dX4_isStopped_40 rfl (lv_at hl 0 rfl) ?_
        refine va_get (D := (dC, dI)) (ci := 4) (v := .ref (ad 3)) (C := RX4) (T := TX4) (N := 12) hx hb hw in_X4 hown hK hP 0 rfl rfl 5 (by decide) (hw _ mq_fl_X4_20) (fun _ h9 => h9) rfl dX4_isStopped_41 ?_
        refine lv_iload hx hb dX4_isStopped_44 (lv_at hl 6 rfl) ?_
        refine va_iald hx hb hK hP 3 0 rfl rfl (vp_in_nI (by omega) (by decide)) dX4_isStopped_46 ?_
        refine lv_topi (fun z9 e9 => ?_)
        obtain rfl : z9 = nI (R j) := e9.trans (ar_at R (by omega))
        refine lv_iload hx hb dX4_isStopped_47 (lv_at hl 4 rfl) ?_
        refine lv_iand hx hb dX4_isStopped_49 ?_
        refine lv_if_ne (tgt := 60) hx hb dX4_isStopped_50 (by decide) (fun b50 => ?_) (fun b50 => ?_)
        -- ifne at 50, t
        · have t50 : ¬ R j &&& X = 0 := fun z => b50 ((bi_z (by omega)).mpr z)
          refine lv_iload hx hb dX4_isStopped_60 (lv_at hl 5 rfl) ?_
          refine lv_istore (lv' := [(5, .int (nI (is_p R k had X j))), (0, .ref (ad 0)), (1, .int (nI k)), (2, .int (nI had)), (3, .int (nI U)), (4, .int (nI X)), (6, .int (nI j))]) hx hb dX4_isStopped_62 hl (by decide) rfl (fun ls hl => ?_)
          refine lv_iinc (k := 6) (v := nI (j + 1)) (lv' := [(6, .int (nI (j + 1))), (5, .int (nI (is_p R k had X j))), (0, .ref (ad 0)), (1, .int (nI k)), (2, .int (nI had)), (3, .int (nI U)), (4, .int (nI X))]) hx hb dX4_isStopped_64 hl rfl (ii_1 _) (by decide) rfl (fun ls hl => ?_)
          refine lv_goto (tgt := 31) hx hb dX4_isStopped_67 (by decide) ?_
          have e8 : is_p R k had X (j + 1) = is_p R k had X j := by rw [is_p_s (by omega), beq_false_of_ne t50]; rfl
          rw [← e8] at hl
          exact ih_31 _ _ (by omega) ⟨j + 1, rfl, by omega, lv_sub hl [2, 3, 4, 5, 6, 1, 0] rfl⟩
        -- ifne at 50, f
        · have t50 : R j &&& X = 0 := (bi_z (by omega)).mp b50
          refine lv_iload hx hb dX4_isStopped_53 (lv_at hl 5 rfl) ?_
          refine lv_iconst (v := 1) hx hb dX4_isStopped_55 (by decide) ?_
          refine lv_iadd hx hb dX4_isStopped_56 ?_
          refine lv_topi (fun z9 e9 => ?_)
          obtain rfl : z9 = nI (is_p R k had X j + 1) := e9.trans (nI_1 _)
          refine lv_goto (tgt := 62) hx hb dX4_isStopped_57 (by decide) ?_
          refine lv_istore (lv' := [(5, .int (nI (is_p R k had X j + 1))), (0, .ref (ad 0)), (1, .int (nI k)), (2, .int (nI had)), (3, .int (nI U)), (4, .int (nI X)), (6, .int (nI j))]) hx hb dX4_isStopped_62 hl (by decide) rfl (fun ls hl => ?_)
          refine lv_iinc (k := 6) (v := nI (j + 1)) (lv' := [(6, .int (nI (j + 1))), (5, .int (nI (is_p R k had X j + 1))), (0, .ref (ad 0)), (1, .int (nI k)), (2, .int (nI had)), (3, .int (nI U)), (4, .int (nI X))]) hx hb dX4_isStopped_64 hl rfl (ii_1 _) (by decide) rfl (fun ls hl => ?_)
          refine lv_goto (tgt := 31) hx hb dX4_isStopped_67 (by decide) ?_
          have e8 : is_p R k had X (j + 1) = is_p R k had X j + 1 := by rw [is_p_s (by omega), beq_iff_eq.mpr t50]; rfl
          rw [← e8] at hl
          exact ih_31 _ _ (by omega) ⟨j + 1, rfl, by omega, lv_sub hl [2, 3, 4, 5, 6, 1, 0] rfl⟩
    -- ifne at 16, f
    · have e5 : is_p R k had X (k + 1) = 1 := is_p_1 ((bi_z (by omega)).mp b16)
      refine lv_iconst (v := nI (is_p R k had X (k + 1))) hx hb dX4_isStopped_19 (by rw [e5]; rfl) ?_
      refine lv_goto (tgt := 24) hx hb dX4_isStopped_20 (by decide) ?_
      refine lv_istore (lv' := [(5, .int (nI (is_p R k had X (k + 1)))), (0, .ref (ad 0)), (1, .int (nI k)), (2, .int (nI had)), (3, .int (nI U)), (4, .int (nI X))]) hx hb dX4_isStopped_24 hl (by decide) rfl (fun ls hl => ?_)
      refine lv_iload_n hx hb dX4_isStopped_26 rfl (lv_at hl 2 rfl) ?_
      refine lv_iconst (v := 1) hx hb dX4_isStopped_27 (by decide) ?_
      refine lv_iadd hx hb dX4_isStopped_28 ?_
      refine lv_topi (fun z9 e9 => ?_)
      obtain rfl : z9 = nI (k + 1) := e9.trans (nI_1 k)
      refine lv_istore (lv' := [(6, .int (nI (k + 1))), (5, .int (nI (is_p R k had X (k + 1)))), (0, .ref (ad 0)), (1, .int (nI k)), (2, .int (nI had)), (3, .int (nI U)), (4, .int (nI X))]) hx hb dX4_isStopped_29 hl (by decide) rfl (fun ls hl => ?_)
      refine wl_loop (fun k9 ls => ∃ (j : Nat), b - j = k9 ∧ (k < j ∧ j ≤ b) ∧ lv_has ls 7 [(0, .ref (ad 0)), (1, .int (nI k)), (2, .int (nI had)), (3, .int (nI U)), (4, .int (nI X)), (5, .int (nI (is_p R k had X j))), (6, .int (nI j))]) ?_ _ ⟨k + 1, rfl, ⟨by omega, by omega⟩, lv_sub hl [2, 3, 4, 5, 6, 1, 0] rfl⟩
      clear hl
      intro k9 ls ih9 h9
      obtain ⟨j, k9e, hj, hl⟩ := h9
      have ih_31 := ih9
      clear ih9
      subst k9e
      refine lv_iload hx hb dX4_isStopped_31 (lv_at hl 6 rfl) ?_
      refine lv_aload_n hx hb dX4_isStopped_33 rfl (lv_at hl 0 rfl) ?_
      refine va_get (D := (dC, dI)) (ci := 4) (v := .int (nI b)) (C := RX4) (T := TX4) (N := 12) hx hb hw in_X4 hown hK hP 0 rfl rfl 2 (by decide) (hw _ mq_fl_X4_56) (fun _ h9 => h9) rfl dX4_isStopped_34 ?_
      refine lv_icmp_ge (tgt := 70) hx hb dX4_isStopped_37 (by decide) (fun b37 => ?_) (fun b37 => ?_)
      -- if_icmpge at 37, t
      · have t37 := (nI_leI (by omega) (by omega)).mp b37
        have e37 : j = b := by omega
        have z8 : is_p R k had X b ≤ 1 + b := is_p_le _ _ _ _ _
        rw [e37] at hl
        refine lv_aload_n hx hb dX4_isStopped_70 rfl (lv_at hl 0 rfl) ?_
        refine lv_iload hx hb dX4_isStopped_71 (lv_at hl 4 rfl) ?_
        refine lv_iload_n hx hb dX4_isStopped_73 rfl (lv_at hl 3 rfl) ?_
        refine ro_V (As := [.int (nI X), .int (nI U)]) (rest := []) (b := ad 0) ⟨hx, hb, hml, hown, hts⟩ (c_X4_entryOf l dC dI cI ad n a b T H R O Wy tr hd us nx X U a14 (by omega) hU hT) (cwV 2 hts (bw_V mq_ml_X4_70 mq_im_X4_entryOf mq_se_X4_entryOf mq_in_X4 mq_co_X4_entryOf) rfl rfl rfl (by decide +kernel) ⟨Nat.le_of_ble_eq_true rfl, Nat.le_of_ble_eq_true rfl⟩) hP hK hN 0 rfl rfl rfl hl.1 rfl (Nat.le_of_ble_eq_true rfl) dX4_isStopped_74 ⟨Nat.zero_le _, Nat.zero_le _⟩ (fun r9 h9 => ?_)
        obtain rfl : r9 = nI (ed_rho T H a (Nat.testBit U) X) := h9
        refine lv_iload hx hb dX4_isStopped_77 (lv_at hl 5 rfl) ?_
        refine lv_icmp_ge (tgt := 84) hx hb dX4_isStopped_79 (by decide) (fun b79 => ?_) (fun b79 => ?_)
        -- if_icmpge at 79, t
        · have t79 : ed_p R b k had X ≤ ed_rho T H a (Nat.testBit U) X := (nI_leI (a := is_p R k had X b) (by omega) (by omega)).mp b79
          refine lv_iinc (k := 4) (v := nI (X + 1)) (lv' := [(4, .int (nI (X + 1))), (0, .ref (ad 0)), (1, .int (nI k)), (2, .int (nI had)), (3, .int (nI U)), (5, .int (nI (is_p R k had X b))), (6, .int (nI b))]) hx hb dX4_isStopped_84 hl rfl (ii_1 _) (by decide) rfl (fun ls hl => ?_)
          refine lv_goto (tgt := 3) hx hb dX4_isStopped_87 (by decide) ?_
          have hall2 : ∀ Y, 0 < Y → Y < X + 1 → ed_p R b k had Y ≤ ed_rho T H a (Nat.testBit U) Y := by
            intro Y y0 y1
            rcases Nat.lt_or_ge Y X with y3 | y3
            · exact hall Y y0 y3
            · have y4 : Y = X := by omega
              rw [y4]
              exact t79
          exact ih_3 _ _ (by omega) ⟨X + 1, rfl, by omega, hall2, lv_sub hl [1, 2, 3, 4, 0] rfl⟩
        -- if_icmpge at 79, f
        · have t79 : ¬ ed_p R b k had X ≤ ed_rho T H a (Nat.testBit U) X := fun z => b79 (nI_le (a := is_p R k had X b) z (by omega))
          refine lv_iconst (v := 1) hx hb dX4_isStopped_82 (by decide) ?_
          exact W.zret (v := 1) hx hb hr rfl (fun t ht hW => ⟨_, rfl, zb_T (by rw [Bool.eq_false_iff.mpr (fun z => t79 (ru_ok_iff.mp z X hX.1 (by omega)))]; rfl), ht⟩) (fun _ h => by cases h) dX4_isStopped_83
      -- if_icmpge at 37, f
      · have t37 : j < b := Nat.lt_of_not_le (fun z => b37 (nI_le z (by omega)))
        have q7 := hR j
        refine lv_aload_n hx hb dX4_isStopped_40 rfl (lv_at hl 0 rfl) ?_
        refine va_get (D := (dC, dI)) (ci := 4) (v := .ref (ad 3)) (C := RX4) (T := TX4) (N := 12) hx hb hw in_X4 hown hK hP 0 rfl rfl 5 (by decide) (hw _ mq_fl_X4_20) (fun _ h9 => h9) rfl dX4_isStopped_41 ?_
        refine lv_iload hx hb dX4_isStopped_44 (lv_at hl 6 rfl) ?_
        refine va_iald hx hb hK hP 3 0 rfl rfl (vp_in_nI (by omega) (by decide)) dX4_isStopped_46 ?_
        refine lv_topi (fun z9 e9 => ?_)
        obtain rfl : z9 = nI (R j) := e9.trans (ar_at R (by omega))
        refine lv_iload hx hb dX4_isStopped_47 (lv_at hl 4 rfl) ?_
        refine lv_iand hx hb dX4_isStopped_49 ?_
        refine lv_if_ne (tgt := 60) hx hb dX4_isStopped_50 (by decide) (fun b50 => ?_) (fun b50 => ?_)
        -- ifne at 50, t
        · have t50 : ¬ R j &&& X = 0 := fun z => b50 ((bi_z (by omega)).mpr z)
          refine lv_iload hx hb dX4_isStopped_60 (lv_at hl 5 rfl) ?_
          refine lv_istore (lv' := [(5, .int (nI (is_p R k had X j))), (0, .ref (ad 0)), (1, .int (nI k)), (2, .int (nI had)), (3, .int (nI U)), (4, .int (nI X)), (6, .int (nI j))]) hx hb dX4_isStopped_62 hl (by decide) rfl (fun ls hl => ?_)
          refine lv_iinc (k := 6) (v := nI (j + 1)) (lv' := [(6, .int (nI (j + 1))), (5, .int (nI (is_p R k had X j))), (0, .ref (ad 0)), (1, .int (nI k)), (2, .int (nI had)), (3, .int (nI U)), (4, .int (nI X))]) hx hb dX4_isStopped_64 hl rfl (ii_1 _) (by decide) rfl (fun ls hl => ?_)
          refine lv_goto (tgt := 31) hx hb dX4_isStopped_67 (by decide) ?_
          have e8 : is_p R k had X (j + 1) = is_p R k had X j := by rw [is_p_s (by omega), beq_false_of_ne t50]; rfl
          rw [← e8] at hl
          exact ih_31 _ _ (by omega) ⟨j + 1, rfl, by omega, lv_sub hl [2, 3, 4, 5, 6, 1, 0] rfl⟩
        -- ifne at 50, f
        · have t50 : R j &&& X = 0 := (bi_z (by omega)).mp b50
          refine lv_iload hx hb dX4_isStopped_53 (lv_at hl 5 rfl) ?_
          refine lv_iconst (v := 1) hx hb dX4_isStopped_55 (by decide) ?_
          refine lv_iadd hx hb dX4_isStopped_56 ?_
          refine lv_topi (fun z9 e9 => ?_)
          obtain rfl : z9 = nI (is_p R k had X j + 1) := e9.trans (nI_1 _)
          refine lv_goto (tgt := 62) hx hb dX4_isStopped_57 (by decide) ?_
          refine lv_istore (lv' := [(5, .int (nI (is_p R k had X j + 1))), (0, .ref (ad 0)), (1, .int (nI k)), (2, .int (nI had)), (3, .int (nI U)), (4, .int (nI X)), (6, .int (nI j))]) hx hb dX4_isStopped_62 hl (by decide) rfl (fun ls hl => ?_)
          refine lv_iinc (k := 6) (v := nI (j + 1)) (lv' := [(6, .int (nI (j + 1))), (5, .int (nI (is_p R k had X j + 1))), (0, .ref (ad 0)), (1, .int (nI k)), (2, .int (nI had)), (3, .int (nI U)), (4, .int (nI X))]) hx hb dX4_isStopped_64 hl rfl (ii_1 _) (by decide) rfl (fun ls hl => ?_)
          refine lv_goto (tgt := 31) hx hb dX4_isStopped_67 (by decide) ?_
          have e8 : is_p R k had X (j + 1) = is_p R k had X j + 1 := by rw [is_p_s (by omega), beq_iff_eq.mpr t50]; rfl
          rw [← e8] at hl
          exact ih_31 _ _ (by omega) ⟨j + 1, rfl, by omega, lv_sub hl [2, 3, 4, 5, 6, 1, 0] rfl⟩
set_option maxHeartbeats 4000000 in
set_option maxRecDepth 100000 in
theorem c_X4_grows (l : Launch) (dC : Nat → ClassId) (dI : Nat → Nat → Nat) (cI : ClassId) (ad : Nat → Nat) (n a b : Nat) (T H R : Nat → Nat) (O Wy tr hd us nx : Nat → Int32) (had U j : Nat) (hj : j < 14) (hh : had < 128) (hU : U < 2 ^ 14) (hT : ∀ i, T i < 7 ∧ H i < 7) : Met l yX4_grows (wq yX4_grows cX4_grows 4 (some .boolean)) ({ frames := 1, cells := 0, slots := 0, locals := 21 }) (ro_P (dC, dI) classes [(cI, .int)] (mw ad cI n a b T H R O Wy tr hd us nx) [.ref (ad 0), .int (nI had), .int (nI U), .int (nI j)]) (vp_Si (fun r => r = nI (ed_b (ru_gr T H had (Nat.testBit U) j)))) 0 0 (fun _ => False) := by
  have q7 := hT j
  refine Met.ofW (cc := cX4_grows) (maxL := 4) (ret := (some .boolean)) (by decide) rfl ?_
  intro p e s m args below meth c s₁ B hml hv
  obtain ⟨rfl, hP, hK, hN⟩ := hv
  have hx := B.exec
  have hb := B.bytes
  have hr := B.returns
  have hlocks := B.notSynchronized
  have hts := atoms_spec (ws := (wq yX4_grows cX4_grows 4 (some .boolean))) B.pre
  have hw : ∀ w ∈ bigW, w.before _ s = true := fun w h => hts w (List.mem_cons_of_mem _ h)
  have hown : s.vm.findClass RX4 = some m.cls := findClass_of_methodNamed B.named
  have hl := lv_entry ([.ref (ad 0), .int (nI had), .int (nI U), .int (nI j)]) (n := 4) (Nat.le_of_ble_eq_true rfl)
  rw [lg_entry_eq]
  generalize (lg_sl ([.ref (ad 0), .int (nI had), .int (nI U), .int (nI j)]) ++ List.replicate (4 - (lg_sl ([.ref (ad 0), .int (nI had), .int (nI U), .int (nI j)])).length) Slot.unset).toArray = ls at hl ⊢
  have hl : lv_has ls 4 [(0, .ref (ad 0)), (1, .int (nI had)), (2, .int (nI U)), (3, .int (nI j))] := hl
  refine lv_iload_n hx hb dX4_grows_0 rfl (lv_at hl 2 rfl) ?_
  refine lv_iload_n hx hb dX4_grows_1 rfl (lv_at hl 3 rfl) ?_
  refine ro_S (As := [.int (nI U), .int (nI j)]) (rest := []) ⟨hx, hb, hml, hown, hts⟩ (c_X4_has l dC dI cI ad n a b T H R O Wy tr hd us nx U j (by omega) (by omega)) (cwS 2 hts (bw_S mq_ml_X4_48 mq_st_X4_has mq_in_X4 mq_co_X4_has) rfl rfl rfl (by decide +kernel) ⟨Nat.le_of_ble_eq_true rfl, Nat.le_of_ble_eq_true rfl⟩) hP hK hN rfl hl.1 rfl (Nat.le_of_ble_eq_true rfl) dX4_grows_2 ⟨Nat.zero_le _, Nat.zero_le _⟩ (fun r9 h9 => ?_)
  obtain rfl : r9 = nI (ed_b (Nat.testBit U j)) := h9
  refine lv_if_ne (tgt := 38) hx hb dX4_grows_5 (by decide) (fun b5 => ?_) (fun b5 => ?_)
  -- ifne at 5, t
  · have t5 := zb_n0.mp b5
    refine lv_iconst (v := 0) hx hb dX4_grows_38 (by decide) ?_
    exact W.zret (v := 0) hx hb hr rfl (fun t ht hW => ⟨_, rfl, zb_F (by rw [ru_gr, t5]; rfl), ht⟩) (fun _ h => by cases h) dX4_grows_39
  -- ifne at 5, f
  · have t5 := zb_0.mp b5
    refine lv_iload_n hx hb dX4_grows_8 rfl (lv_at hl 1 rfl) ?_
    refine lv_aload_n hx hb dX4_grows_9 rfl (lv_at hl 0 rfl) ?_
    refine va_get (D := (dC, dI)) (ci := 4) (v := .ref (ad 1)) (C := RX4) (T := TX4) (N := 12) hx hb hw in_X4 hown hK hP 0 rfl rfl 3 (by decide) (hw _ mq_fl_X4_13) (fun _ h9 => h9) rfl dX4_grows_10 ?_
    refine lv_iload_n hx hb dX4_grows_13 rfl (lv_at hl 3 rfl) ?_
    refine va_iald hx hb hK hP 1 0 rfl rfl (vp_in_nI hj (by decide)) dX4_grows_14 ?_
    refine lv_topi (fun z9 e9 => ?_)
    obtain rfl : z9 = nI (T j) := e9.trans (ar_at T (by omega))
    refine ro_S (As := [.int (nI had), .int (nI (T j))]) (rest := []) ⟨hx, hb, hml, hown, hts⟩ (c_X4_has l dC dI cI ad n a b T H R O Wy tr hd us nx had (T j) (by omega) (by omega)) (cwS 2 hts (bw_S mq_ml_X4_48 mq_st_X4_has mq_in_X4 mq_co_X4_has) rfl rfl rfl (by decide +kernel) ⟨Nat.le_of_ble_eq_true rfl, Nat.le_of_ble_eq_true rfl⟩) hP hK hN rfl hl.1 rfl (Nat.le_of_ble_eq_true rfl) dX4_grows_15 ⟨Nat.zero_le _, Nat.zero_le _⟩ (fun r9 h9 => ?_)
    obtain rfl : r9 = nI (ed_b (Nat.testBit had (T j))) := h9
    refine lv_if_eq (tgt := 38) hx hb dX4_grows_18 (by decide) (fun b18 => ?_) (fun b18 => ?_)
    -- ifeq at 18, t
    · have t18 := zb_0.mp b18
      refine lv_iconst (v := 0) hx hb dX4_grows_38 (by decide) ?_
      exact W.zret (v := 0) hx hb hr rfl (fun t ht hW => ⟨_, rfl, zb_F (by rw [ru_gr, t18, Bool.false_and, Bool.and_false]), ht⟩) (fun _ h => by cases h) dX4_grows_39
    -- ifeq at 18, f
    · have t18 := zb_n0.mp b18
      refine lv_iload_n hx hb dX4_grows_21 rfl (lv_at hl 1 rfl) ?_
      refine lv_aload_n hx hb dX4_grows_22 rfl (lv_at hl 0 rfl) ?_
      refine va_get (D := (dC, dI)) (ci := 4) (v := .ref (ad 2)) (C := RX4) (T := TX4) (N := 12) hx hb hw in_X4 hown hK hP 0 rfl rfl 4 (by decide) (hw _ mq_fl_X4_17) (fun _ h9 => h9) rfl dX4_grows_23 ?_
      refine lv_iload_n hx hb dX4_grows_26 rfl (lv_at hl 3 rfl) ?_
      refine va_iald hx hb hK hP 2 0 rfl rfl (vp_in_nI hj (by decide)) dX4_grows_27 ?_
      refine lv_topi (fun z9 e9 => ?_)
      obtain rfl : z9 = nI (H j) := e9.trans (ar_at H (by omega))
      refine ro_S (As := [.int (nI had), .int (nI (H j))]) (rest := []) ⟨hx, hb, hml, hown, hts⟩ (c_X4_has l dC dI cI ad n a b T H R O Wy tr hd us nx had (H j) (by omega) (by omega)) (cwS 2 hts (bw_S mq_ml_X4_48 mq_st_X4_has mq_in_X4 mq_co_X4_has) rfl rfl rfl (by decide +kernel) ⟨Nat.le_of_ble_eq_true rfl, Nat.le_of_ble_eq_true rfl⟩) hP hK hN rfl hl.1 rfl (Nat.le_of_ble_eq_true rfl) dX4_grows_28 ⟨Nat.zero_le _, Nat.zero_le _⟩ (fun r9 h9 => ?_)
      obtain rfl : r9 = nI (ed_b (Nat.testBit had (H j))) := h9
      refine lv_if_ne (tgt := 38) hx hb dX4_grows_31 (by decide) (fun b31 => ?_) (fun b31 => ?_)
      -- ifne at 31, t
      · have t31 := zb_n0.mp b31
        refine lv_iconst (v := 0) hx hb dX4_grows_38 (by decide) ?_
        exact W.zret (v := 0) hx hb hr rfl (fun t ht hW => ⟨_, rfl, zb_F (by rw [ru_gr, t31, Bool.not_true, Bool.and_false, Bool.and_false]), ht⟩) (fun _ h => by cases h) dX4_grows_39
      -- ifne at 31, f
      · have t31 := zb_0.mp b31
        refine lv_iconst (v := 1) hx hb dX4_grows_34 (by decide) ?_
        refine lv_goto (tgt := 39) hx hb dX4_grows_35 (by decide) ?_
        exact W.zret (v := 1) hx hb hr rfl (fun t ht hW => ⟨_, rfl, zb_T (by rw [ru_gr, t5, t18, t31]; rfl), ht⟩) (fun _ h => by cases h) dX4_grows_39
set_option maxHeartbeats 4000000 in
set_option maxRecDepth 100000 in
theorem c_X4_most (l : Launch) (dC : Nat → ClassId) (dI : Nat → Nat → Nat) (cI : ClassId) (ad : Nat → Nat) (n a b : Nat) (T H R : Nat → Nat) (O Wy tr hd us nx : Nat → Int32) (x : Int32) (hI : st_I n a T H b R) : Met l yX4_most (wq yX4_most cX4_most 5 (some .int)) ({ frames := 3, cells := 0, slots := 0, locals := 66 }) (ro_P (dC, dI) classes [(cI, .int)] (mw ad cI n a b T H R O Wy tr hd us nx) [.ref (ad 0), .int x]) (vp_Si (fun r => r = moF n a T H x)) 0 0 (fun _ => False) := by
  obtain ⟨n1, n7, a14, hT, hT2, hb3, hR3, hR⟩ := hI
  have p7 := bi_p7 n7
  have p0 := Nat.two_pow_pos n
  refine Met.ofW (cc := cX4_most) (maxL := 5) (ret := (some .int)) (by decide) rfl ?_
  intro p e s m args below meth c s₁ B hml hv
  obtain ⟨rfl, hP, hK, hN⟩ := hv
  have hx := B.exec
  have hb := B.bytes
  have hr := B.returns
  have hlocks := B.notSynchronized
  have hts := atoms_spec (ws := (wq yX4_most cX4_most 5 (some .int))) B.pre
  have hw : ∀ w ∈ bigW, w.before _ s = true := fun w h => hts w (List.mem_cons_of_mem _ h)
  have hown : s.vm.findClass RX4 = some m.cls := findClass_of_methodNamed B.named
  have hl := lv_entry ([.ref (ad 0), .int x]) (n := 5) (Nat.le_of_ble_eq_true rfl)
  rw [lg_entry_eq]
  generalize (lg_sl ([.ref (ad 0), .int x]) ++ List.replicate (5 - (lg_sl ([.ref (ad 0), .int x])).length) Slot.unset).toArray = ls at hl ⊢
  have hl : lv_has ls 5 [(0, .ref (ad 0)), (1, .int x)] := hl
  refine lv_iload_n hx hb dX4_most_0 rfl (lv_at hl 1 rfl) ?_
  refine lv_if_eq (tgt := 12) hx hb dX4_most_1 (by decide) (fun b1 => ?_) (fun b1 => ?_)
  -- ifeq at 1, t
  · refine lv_iconst (v := -1) hx hb dX4_most_12 (by decide) ?_
    exact W.iret (v := -1) hx hb hr (fun t ht hW => ⟨_, rfl, (by rw [moF, if_neg (fun h => h.1 b1)]), ht⟩) (fun _ h => by cases h) dX4_most_13
  -- ifeq at 1, f
  · refine lv_aload_n hx hb dX4_most_4 rfl (lv_at hl 0 rfl) ?_
    refine lv_iload_n hx hb dX4_most_5 rfl (lv_at hl 1 rfl) ?_
    refine ro_V (As := [.int x]) (rest := []) (b := ad 0) ⟨hx, hb, hml, hown, hts⟩ (c_X4_isSet l dC dI cI ad n a b T H R O Wy tr hd us nx n7 x) (cwV 1 hts (bw_V mq_ml_X4_67 mq_im_X4_isSet mq_se_X4_isSet mq_in_X4 mq_co_X4_isSet) rfl rfl rfl (by decide +kernel) ⟨Nat.le_of_ble_eq_true rfl, Nat.le_of_ble_eq_true rfl⟩) hP hK hN 0 rfl rfl rfl hl.1 rfl (Nat.le_of_ble_eq_true rfl) dX4_most_6 ⟨Nat.zero_le _, Nat.zero_le _⟩ (fun r9 h9 => ?_)
    obtain rfl : r9 = nI (ed_b (decide (0 ≤ x ∧ x ≤ nI (2 ^ n - 1)))) := h9
    refine lv_if_ne (tgt := 14) hx hb dX4_most_9 (by decide) (fun b9 => ?_) (fun b9 => ?_)
    -- ifne at 9, t
    · have t9 := decide_eq_true_eq.mp (zb_n0.mp b9)
      obtain ⟨X, hX, rfl⟩ := is_in_of ((is_set_in n7).mp t9) (by omega)
      refine lv_bipush (v := nI (mo_at T H a X 0)) hx hb dX4_most_14 rfl ?_
      refine lv_istore_n (lv' := [(2, .int (nI (mo_at T H a X 0))), (0, .ref (ad 0)), (1, .int (nI X))]) hx hb dX4_most_16 rfl hl (by decide) rfl (fun ls hl => ?_)
      refine lv_iconst (v := nI (0 + 1)) hx hb dX4_most_17 (by decide) ?_
      refine lv_istore_n (lv' := [(3, .int (nI (0 + 1))), (2, .int (nI (mo_at T H a X 0))), (0, .ref (ad 0)), (1, .int (nI X))]) hx hb dX4_most_18 rfl hl (by decide) rfl (fun ls hl => ?_)
      refine wl_loop (fun k9 ls => ∃ (i : Nat), 2 ^ n - i = k9 ∧ (i ≤ 2 ^ n - 1) ∧ lv_has ls 5 [(0, .ref (ad 0)), (1, .int (nI X)), (2, .int (nI (mo_at T H a X i))), (3, .int (nI (i + 1)))]) ?_ _ ⟨0, rfl, by omega, lv_sub hl [2, 3, 1, 0] rfl⟩
      clear hl
      intro k9 ls ih9 h9
      obtain ⟨i, k9e, hi, hl⟩ := h9
      have ih_19 := ih9
      clear ih9
      subst k9e
      have z8 := mo_le T H a X i
      refine lv_iload_n hx hb dX4_most_19 rfl (lv_at hl 3 rfl) ?_
      refine lv_aload_n hx hb dX4_most_20 rfl (lv_at hl 0 rfl) ?_
      refine ro_V (As := []) (rest := [.int (nI (i + 1))]) (b := ad 0) ⟨hx, hb, hml, hown, hts⟩ (c_X4_all l dC dI cI ad n a b T H R O Wy tr hd us nx n7) (cwV 0 hts (bw_V mq_ml_X4_41 mq_im_X4_all mq_se_X4_all mq_in_X4 mq_co_X4_all) rfl rfl rfl (by decide +kernel) ⟨Nat.le_of_ble_eq_true rfl, Nat.le_of_ble_eq_true rfl⟩) hP hK hN 0 rfl rfl rfl hl.1 rfl (Nat.le_of_ble_eq_true rfl) dX4_most_21 ⟨Nat.zero_le _, Nat.zero_le _⟩ (fun r9 h9 => ?_)
      obtain rfl : r9 = nI (2 ^ n - 1) := h9
      refine lv_icmp_gt (tgt := 59) hx hb dX4_most_24 (by decide) (fun b24 => ?_) (fun b24 => ?_)
      -- if_icmpgt at 24, t
      · have t24 := (nI_ltI (by omega) (by omega)).mp b24
        have e24 : i = 2 ^ n - 1 := by omega
        refine lv_iload_n hx hb dX4_most_59 rfl (lv_at hl 2 rfl) ?_
        exact W.iret (v := nI (mo_at T H a X i)) hx hb hr (fun t ht hW => ⟨_, rfl, (by rw [moF, if_pos ⟨b1, t9⟩, nI_clamp (by omega), e24]), ht⟩) (fun _ h => by cases h) dX4_most_60
      -- if_icmpgt at 24, f
      · have t24 : i + 1 ≤ 2 ^ n - 1 := Nat.le_of_not_lt (fun z => b24 (nI_lt z (by omega)))
        have z9 : rho0 T H a (i + 1) ≤ a := ed_ct_le _ _
        refine lv_aload_n hx hb dX4_most_27 rfl (lv_at hl 0 rfl) ?_
        refine lv_iload_n hx hb dX4_most_28 rfl (lv_at hl 3 rfl) ?_
        refine ro_V (As := [.int (nI (i + 1))]) (rest := []) (b := ad 0) ⟨hx, hb, hml, hown, hts⟩ (c_X4_entry l dC dI cI ad n a b T H R O Wy tr hd us nx (nI (i + 1)) n7 a14 hT) (cwV 1 hts (bw_V mq_ml_X4_74 mq_im_X4_entry mq_se_X4_entry mq_in_X4 mq_co_X4_entry) rfl rfl rfl (by decide +kernel) ⟨Nat.le_of_ble_eq_true rfl, Nat.le_of_ble_eq_true rfl⟩) hP hK hN 0 rfl rfl rfl hl.1 rfl (Nat.le_of_ble_eq_true rfl) dX4_most_29 ⟨Nat.zero_le _, Nat.zero_le _⟩ (fun r9 h9 => ?_)
        obtain rfl : r9 = nI (rho0 T H a (i + 1)) := h9.trans (et_in n7 (by omega))
        refine lv_istore (lv' := [(4, .int (nI (rho0 T H a (i + 1)))), (0, .ref (ad 0)), (1, .int (nI X)), (2, .int (nI (mo_at T H a X i))), (3, .int (nI (i + 1)))]) hx hb dX4_most_32 hl (by decide) rfl (fun ls hl => ?_)
        refine lv_iload_n hx hb dX4_most_34 rfl (lv_at hl 4 rfl) ?_
        refine lv_iload_n hx hb dX4_most_35 rfl (lv_at hl 2 rfl) ?_
        refine lv_iand hx hb dX4_most_36 ?_
        refine lv_if_ne (tgt := 51) hx hb dX4_most_37 (by decide) (fun b37 => ?_) (fun b37 => ?_)
        -- ifne at 37, t
        · have t37 : ¬ (i + 1) &&& X = 0 := fun z => b37 ((bi_z (by omega)).mpr z)
          refine lv_iload_n hx hb dX4_most_51 rfl (lv_at hl 3 rfl) ?_
          refine lv_istore_n (lv' := [(2, .int (nI (mo_at T H a X i))), (4, .int (nI (rho0 T H a (i + 1)))), (0, .ref (ad 0)), (1, .int (nI X)), (3, .int (nI (i + 1)))]) hx hb dX4_most_52 rfl hl (by decide) rfl (fun ls hl => ?_)
          refine lv_iinc (k := 4) (v := nI (i + 1 + 1)) (lv' := [(3, .int (nI (i + 1 + 1))), (2, .int (nI (mo_at T H a X i))), (4, .int (nI (rho0 T H a (i + 1)))), (0, .ref (ad 0)), (1, .int (nI X))]) hx hb dX4_most_53 hl rfl (ii_1 _) (by decide) rfl (fun ls hl => ?_)
          refine lv_goto (tgt := 19) hx hb dX4_most_56 (by decide) ?_
          have e8 : mo_at T H a X (i + 1) = mo_at T H a X i := by rw [mo_s, if_neg t37]
          rw [← e8] at hl
          exact ih_19 _ _ (by omega) ⟨i + 1, rfl, by omega, lv_sub hl [3, 4, 1, 0] rfl⟩
        -- ifne at 37, f
        · have t37 : (i + 1) &&& X = 0 := (bi_z (by omega)).mp b37
          refine lv_iload hx hb dX4_most_40 (lv_at hl 0 rfl) ?_
          refine lv_iload_n hx hb dX4_most_42 rfl (lv_at hl 3 rfl) ?_
          refine lv_icmp_ge (tgt := 51) hx hb dX4_most_43 (by decide) (fun b43 => ?_) (fun b43 => ?_)
          -- if_icmpge at 43, t
          · have t43 := (nI_leI (by omega) (by omega)).mp b43
            refine lv_iload_n hx hb dX4_most_51 rfl (lv_at hl 3 rfl) ?_
            refine lv_istore_n (lv' := [(2, .int (nI (mo_at T H a X i))), (4, .int (nI (rho0 T H a (i + 1)))), (0, .ref (ad 0)), (1, .int (nI X)), (3, .int (nI (i + 1)))]) hx hb dX4_most_52 rfl hl (by decide) rfl (fun ls hl => ?_)
            refine lv_iinc (k := 4) (v := nI (i + 1 + 1)) (lv' := [(3, .int (nI (i + 1 + 1))), (2, .int (nI (mo_at T H a X i))), (4, .int (nI (rho0 T H a (i + 1)))), (0, .ref (ad 0)), (1, .int (nI X))]) hx hb dX4_most_53 hl rfl (ii_1 _) (by decide) rfl (fun ls hl => ?_)
            refine lv_goto (tgt := 19) hx hb dX4_most_56 (by decide) ?_
            have e8 : mo_at T H a X (i + 1) = mo_at T H a X i := by rw [mo_s, if_pos t37, Nat.min_eq_left t43]
            rw [← e8] at hl
            exact ih_19 _ _ (by omega) ⟨i + 1, rfl, by omega, lv_sub hl [3, 4, 1, 0] rfl⟩
          -- if_icmpge at 43, f
          · have t43 := Nat.lt_of_not_le (fun z => b43 (nI_le z (by omega)))
            refine lv_iload hx hb dX4_most_46 (lv_at hl 0 rfl) ?_
            refine lv_goto (tgt := 52) hx hb dX4_most_48 (by decide) ?_
            refine lv_istore_n (lv' := [(2, .int (nI (rho0 T H a (i + 1)))), (4, .int (nI (rho0 T H a (i + 1)))), (0, .ref (ad 0)), (1, .int (nI X)), (3, .int (nI (i + 1)))]) hx hb dX4_most_52 rfl hl (by decide) rfl (fun ls hl => ?_)
            refine lv_iinc (k := 4) (v := nI (i + 1 + 1)) (lv' := [(3, .int (nI (i + 1 + 1))), (2, .int (nI (rho0 T H a (i + 1)))), (4, .int (nI (rho0 T H a (i + 1)))), (0, .ref (ad 0)), (1, .int (nI X))]) hx hb dX4_most_53 hl rfl (ii_1 _) (by decide) rfl (fun ls hl => ?_)
            refine lv_goto (tgt := 19) hx hb dX4_most_56 (by decide) ?_
            have e8 : mo_at T H a X (i + 1) = rho0 T H a (i + 1) := by rw [mo_s, if_pos t37, Nat.min_eq_right (by omega)]
            rw [← e8] at hl
            exact ih_19 _ _ (by omega) ⟨i + 1, rfl, by omega, lv_sub hl [3, 4, 1, 0] rfl⟩
    -- ifne at 9, f
    · have t9 := decide_eq_false_iff_not.mp (zb_0.mp b9)
      refine lv_iconst (v := -1) hx hb dX4_most_12 (by decide) ?_
      exact W.iret (v := -1) hx hb hr (fun t ht hW => ⟨_, rfl, (by rw [moF, if_neg (fun h => t9 h.2)]), ht⟩) (fun _ h => by cases h) dX4_most_13
end
section
/-! the reference's search and its packing -/
theorem nb_t {x : Bool} (h : (!x) = true) : x = false := by
  cases x
  · rfl
  · exact absurd h (by decide)
theorem nb_f {x : Bool} (h : (!x) = false) : x = true := by
  cases x
  · exact absurd h (by decide)
  · rfl
def nxv (a b t : Nat) (g : Bool) : Nat := if t < b ∧ g = false then a else 0
theorem dn_0 {tt b : Nat} (h : tt ≠ b) : nI (ed_b (decide (tt = b))) = 0 := by
  rw [decide_eq_false h]
  rfl
theorem dn_1 {tt b : Nat} (h : tt = b) : nI (ed_b (decide (tt = b))) = 1 := by
  rw [decide_eq_true h]
  rfl
theorem df_start {n a b : Nat} {T H R : Nat → Nat} {G : Bool} {tr hd us nx : Nat → Int32} {tt hv U : Nat} (a14 : a ≤ 14) (q2 : tt ≤ b) (q3 : hv < 2 ^ n) (q4 : tt < b → hv ≠ 2 ^ n - 1) (q5 : go n a b T H R tt hv U = G) (hU : U < 2 ^ 14) : ∃ mu, df_I n a b T H R G (upd tr 0 (nI tt)) (upd hd 0 (nI hv)) (upd us 0 (nI U)) (upd nx 0 (nI (nxv a b tt (go n a b T H R tt hv U)))) (nI (ed_b (decide (tt = b)))) (nI 0) mu := by
  by_cases hb : tt = b
  · refine ⟨0, Or.inl ⟨dn_1 hb, ?_⟩⟩
    rw [← q5, hb, go_b]
  · have hlt : tt < b := by omega
    cases hg : go n a b T H R tt hv U with
    | false =>
      refine ⟨1, Or.inr (Or.inr (Or.inl ⟨rfl, dn_0 hb, rfl, ?_, by rw [← q5, hg]⟩))⟩
      rw [pk_us, nxv, if_pos ⟨hlt, rfl⟩]
    | true =>
      have hl : ru_left a U ≤ a := ed_ct_le _ _
      refine ⟨_, Or.inr (Or.inr (Or.inr (Or.inl ⟨0, tt, hv, U, 0, rfl, dn_0 hb, rfl, ⟨pk_us, pk_us, pk_us, ?_, hlt, q3, q4 hlt, ?_, fun j hj => absurd hj (by omega), by omega, hU, by omega⟩, by rw [← q5, hg]⟩)))⟩
      · rw [pk_us, nxv, if_neg (fun z => absurd z.2 (by decide))]
      · rw [← go_lt hlt]
        exact hg
theorem df_no {n a b t h V e0 : Nat} {T H R : Nat → Nat} (c9 : ∀ j, j < e0 → ru_good n a b T H R t h (Nat.testBit V) j = false) (hg : ru_good n a b T H R t h (Nat.testBit V) e0 = false) : ∀ j, j < e0 + 1 → ru_good n a b T H R t h (Nat.testBit V) j = false := by
  intro j hj
  rcases Nat.lt_or_ge j e0 with z | z
  · exact c9 j z
  · rw [show j = e0 by omega]
    exact hg
theorem df_skip {n a b : Nat} {T H R : Nat → Nat} {G : Bool} {tr hd us nx : Nat → Int32} {s t h V e0 : Nat} (hC : df_C n a b T H R tr hd us nx s t h V e0) (hG : G = true) (he : e0 < a) (hg : ru_gr T H h (Nat.testBit V) e0 = false) : df_I n a b T H R G tr hd us (upd nx s (nI (e0 + 1))) 0 (nI s) (ru_left a V * 64 + 2 * (a - (e0 + 1)) + 2) := by
  obtain ⟨c1, c2, c3, c4, c5, c6, c7, c8, c9, c10, c11, c12⟩ := hC
  exact Or.inr (Or.inr (Or.inr (Or.inl ⟨s, t, h, V, e0 + 1, rfl, rfl, rfl, ⟨c1, c2, c3, pk_us, c5, c6, c7, c8, df_no c9 (by rw [ru_good, hg, Bool.false_and]), c10, c11, by omega⟩, hG⟩)))
theorem df_down {n a b : Nat} {T H R : Nat → Nat} {G : Bool} {tr hd us nx : Nat → Int32} {s t h V e0 tt hv : Nat} (hC : df_C n a b T H R tr hd us nx s t h V e0) (hG : G = true) (he : e0 < a) (a14 : a ≤ 14) (hg : ru_gr T H h (Nat.testBit V) e0 = true) (q2 : tt ≤ b) (q3 : hv < 2 ^ n) (q4 : tt < b → hv ≠ 2 ^ n - 1) (q5 : go n a b T H R tt hv (V ||| 2 ^ e0) = go n a b T H R t (h ||| 2 ^ H e0) (V ||| 2 ^ e0)) :
    ∃ mu, mu < ru_left a V * 64 + 2 * (a - e0) + 2 ∧ df_I n a b T H R G (upd tr (s + 1) (nI tt)) (upd hd (s + 1) (nI hv)) (upd us (s + 1) (nI (V ||| 2 ^ e0))) (upd (upd nx s (nI (e0 + 1))) (s + 1) (nI (nxv a b tt (go n a b T H R tt hv (V ||| 2 ^ e0))))) (nI (ed_b (decide (tt = b)))) (nI (s + 1)) mu := by
  obtain ⟨c1, c2, c3, c4, c5, c6, c7, c8, c9, c10, c11, c12⟩ := hC
  have hu : V.testBit e0 = false := (ru_gr_iff.mp hg).1
  have hl := df_left he hu
  have hs : s ≠ s + 1 := by omega
  by_cases hb : tt = b
  · exact ⟨0, by omega, Or.inl ⟨dn_1 hb, hG⟩⟩
  · have hlt : tt < b := by omega
    cases hgo : go n a b T H R tt hv (V ||| 2 ^ e0) with
    | false =>
      refine ⟨ru_left a V * 64 + 2 * (a - (e0 + 1)) + 3, by omega, Or.inr (Or.inr (Or.inr (Or.inr ⟨s, t, h, V, e0 + 1, rfl, dn_0 hb, rfl, ?_, ⟨?_, ?_, ?_, ?_, c5, c6, c7, c8, df_no c9 ?_, c10, c11, by omega⟩, by omega, hG⟩)))⟩
      · rw [pk_us, nxv, if_pos ⟨hlt, rfl⟩]
      · rw [pk_un hs]
        exact c1
      · rw [pk_un hs]
        exact c2
      · rw [pk_un hs]
        exact c3
      · rw [pk_un hs, pk_us]
      · rw [go_good c5, ← q5, hgo, Bool.and_false]
    | true =>
      refine ⟨ru_left a (V ||| 2 ^ e0) * 64 + 2 * (a - 0) + 2, by omega, Or.inr (Or.inr (Or.inr (Or.inl ⟨s + 1, tt, hv, V ||| 2 ^ e0, 0, rfl, dn_0 hb, rfl, ⟨pk_us, pk_us, pk_us, ?_, hlt, q3, q4 hlt, ?_, fun j hj => absurd hj (by omega), by omega, df_used c11 (by omega), by omega⟩, hG⟩)))⟩
      · rw [pk_us, nxv, if_neg (fun z => absurd z.2 (by decide))]
      · rw [← go_lt hlt]
        exact hgo
theorem go_pa0 {n a b : Nat} {T H R : Nat → Nat} (hb : b = 0) : go n a b T H R 0 0 0 = paF n a T H b R := by
  subst hb
  rw [pa_0]
  exact go_b
theorem go_pa {n a b : Nat} {T H R : Nat → Nat} (hb : 0 < b) : go n a b T H R 0 (R 0) 0 = paF n a T H b R := by rw [go_lt hb, tb_0, pa_ok hb]
theorem mw_D {A : Nat → Prop} {ad : Nat → Nat} {cI : ClassId} {n a b n' a' b' : Nat} {T H R T' H' R' : Nat → Nat} {O Wy tr hd us nx O' Wy' tr' hd' us' nx' : Nat → Int32} (hD : va_D A (mw ad cI n a b T H R O Wy tr hd us nx)) : va_D A (mw ad cI n' a' b' T' H' R' O' Wy' tr' hd' us' nx') := by
  have key : ∀ (k : Nat) (q : Nat × va_E), (mw ad cI n' a' b' T' H' R' O' Wy' tr' hd' us' nx')[k]? = some q → ∃ e, (mw ad cI n a b T H R O Wy tr hd us nx)[k]? = some (q.1, e) := by
    intro k q hk
    match k with
    | 0 => obtain rfl := Option.some.inj hk; exact ⟨_, rfl⟩
    | 1 => obtain rfl := Option.some.inj hk; exact ⟨_, rfl⟩
    | 2 => obtain rfl := Option.some.inj hk; exact ⟨_, rfl⟩
    | 3 => obtain rfl := Option.some.inj hk; exact ⟨_, rfl⟩
    | 4 => obtain rfl := Option.some.inj hk; exact ⟨_, rfl⟩
    | 5 => obtain rfl := Option.some.inj hk; exact ⟨_, rfl⟩
    | 6 => obtain rfl := Option.some.inj hk; exact ⟨_, rfl⟩
    | 7 => obtain rfl := Option.some.inj hk; exact ⟨_, rfl⟩
    | 8 => obtain rfl := Option.some.inj hk; exact ⟨_, rfl⟩
    | 9 => obtain rfl := Option.some.inj hk; exact ⟨_, rfl⟩
    | k + 10 => exact absurd hk (by intro z; cases z)
  refine ⟨fun i j p q hi hj e => ?_, fun k q hk => ?_⟩
  · obtain ⟨x, hx⟩ := key i p hi
    obtain ⟨y, hy⟩ := key j q hj
    exact hD.1 i j _ _ hx hy e
  · obtain ⟨x, hx⟩ := key k q hk
    exact hD.2 k (q.1, x) hx
theorem mw_O {D : va_G} {ad : Nat → Nat} {cI : ClassId} {n a b : Nat} {T H R : Nat → Nat} {O O' Wy tr hd us nx : Nat → Int32} {Hp : Heap} (h : ∀ j, j < 14 → O j = O' j) (hP : va_P D classes (mw ad cI n a b T H R O Wy tr hd us nx) Hp) : va_P D classes (mw ad cI n a b T H R O' Wy tr hd us nx) Hp := by
  intro k q hk
  by_cases h4 : k = 4
  · subst h4
    obtain rfl : (ad 4, Sum.inl (cI, 14, Sum.inl O')) = q := Option.some.inj hk
    exact va_at_same h (hP 4 _ rfl)
  · refine hP k q ?_
    rw [← hk]
    match k, h4 with
    | 0, _ => rfl
    | 1, _ => rfl
    | 2, _ => rfl
    | 3, _ => rfl
    | 4, h => exact absurd rfl h
    | 5, _ => rfl
    | 6, _ => rfl
    | 7, _ => rfl
    | 8, _ => rfl
    | 9, _ => rfl
    | k + 10, _ => rfl
theorem wy_no {n a b k v : Nat} {T H R : Nat → Nat} (h : paF n a T H b R = false) (hb : b ≤ 3) (hk : k < b) : wyF n a b T H R (nI k) (nI v) = -1 := by
  rw [wyF]
  split
  · rw [ed_fd_no, if_neg (Nat.lt_irrefl a)]
    intro j _
    rw [pg_no h hb, decide_eq_false (fun z => ow_n1 k (by omega) z.symm), Bool.false_and]
  · rfl
theorem wy_yes {n a b k v : Nat} {T H R : Nat → Nat} {Wy : Nat → Int32} (hb : b ≤ 3) (hk : k < b) (hv : v < n) (n7 : n ≤ 7) (h : wy_ok a H (pg_all n a b T H R) Wy) (hH : ∀ e, e < a → H e < n) : wyF n a b T H R (nI k) (nI v) = Wy (7 * k + v) := by
  rw [wyF, if_pos ⟨is_in_nI hk (by omega), is_in_nI hv (by omega)⟩, wy_look h (by omega) (by omega)]
  have e : ed_fd (fun e => decide (pg_all n a b T H R e = nI k) && decide (nI (H e) = nI v)) a = ed_fd (fun e => decide (pg_all n a b T H R e = nI k) && decide (H e = v)) a := by
    apply ed_fd_congr
    intro j hj
    have hHj := hH j hj
    congr 1
    by_cases hz : H j = v
    · rw [decide_eq_true hz, decide_eq_true (by rw [hz])]
    · rw [decide_eq_false hz, decide_eq_false (fun z => hz ((nI_eq (by omega) (by omega)).mp z))]
  rw [e]
def rs_f (T : Nat → Nat) (e m k : Nat) : Nat → Nat := fun i => if k < i then T i else rm_f T e m i
theorem rs_0 (T : Nat → Nat) (e m : Nat) : rs_f T e m m = rm_f T e m := by
  funext i
  rw [rs_f]
  by_cases h : m < i
  · rw [if_pos h, rm_f, if_neg (by omega)]
  · rw [if_neg h]
theorem rs_s {T : Nat → Nat} {e m k : Nat} (h1 : e < k) (h2 : k ≤ m) : up (rs_f T e m k) k (rs_f T e m k (k - 1)) = rs_f T e m (k - 1) := by
  funext i
  rw [up]
  by_cases hi : i = k
  · rw [if_pos hi, rs_f, rs_f, if_neg (by omega), if_pos (by omega), rm_f, if_pos (by omega), hi, show k - 1 + 1 = k by omega]
  · rw [if_neg hi, rs_f, rs_f]
    by_cases h : k < i
    · rw [if_pos h, if_pos (by omega)]
    · rw [if_neg h, if_neg (by omega)]
theorem rs_e {T : Nat → Nat} {e m : Nat} (h : e ≤ m) : up (rs_f T e m e) e (T e) = T := by
  funext i
  rw [up]
  by_cases hi : i = e
  · rw [if_pos hi, hi]
  · rw [if_neg hi, rs_f]
    by_cases h2 : e < i
    · rw [if_pos h2]
    · rw [if_neg h2, rm_f, if_neg (by omega)]
set_option maxHeartbeats 4000000 in
set_option maxRecDepth 100000 in
theorem c_X4_isDone (l : Launch) (dC : Nat → ClassId) (dI : Nat → Nat → Nat) (cI : ClassId) (ad : Nat → Nat) (n a b : Nat) (T H R : Nat → Nat) (O Wy tr hd us nx : Nat → Int32) (sz : Nat) (s0 k had U : Nat) (hI : st_I n a T H b R) (hs0 : s0 < 16) (hk : k ≤ b) (hh : had < 2 ^ n) (hU : U < 2 ^ 14) : Met l yX4_isDone (wq yX4_isDone cX4_isDone 7 (some .boolean)) ({ frames := 3, cells := 0, slots := 0, locals := 71 }) (mu_P (dC, dI) classes [(cI, .int)] (mw ad cI n a b T H R O Wy tr hd us nx) sz [.ref (ad 0), .int (nI s0), .int (nI k), .int (nI had), .int (nI U)]) (va_Qi (fun (r : Int32) (u : Nat × Nat) => r = nI (ed_b (decide (u.1 = b))) ∧ u.1 ≤ b ∧ u.2 < 2 ^ n ∧ (u.1 < b → u.2 ≠ 2 ^ n - 1) ∧ go n a b T H R u.1 u.2 U = go n a b T H R k had U) (mu_B (dC, dI) classes [(cI, .int)] (mw ad cI n a b T H R O Wy tr hd us nx) sz (fun u => mw ad cI n a b T H R O Wy (upd tr s0 (nI u.1)) (upd hd s0 (nI u.2)) (upd us s0 (nI U)) (upd nx s0 (nI (nxv a b u.1 (go n a b T H R u.1 u.2 U)))))) (va_A (mw ad cI n a b T H R O Wy tr hd us nx) sz)) 0 0 (va_A (mw ad cI n a b T H R O Wy tr hd us nx) sz) := by
  have hI0 := hI
  obtain ⟨n1, n7, a14, hT, hT2, hb3, hR3, hR⟩ := hI
  have p7 := bi_p7 n7
  have p0 := Nat.two_pow_pos n
  refine Met.ofW (cc := cX4_isDone) (maxL := 7) (ret := (some .boolean)) (by decide) rfl ?_
  intro p e s m args below meth c s₁ B hml hv
  obtain ⟨rfl, hsz, hP, hK, hN, hD0⟩ := hv
  have hx := B.exec
  have hb := B.bytes
  have hr := B.returns
  have hlocks := B.notSynchronized
  have hts := atoms_spec (ws := (wq yX4_isDone cX4_isDone 7 (some .boolean))) B.pre
  have hw : ∀ w ∈ bigW, w.before _ s = true := fun w h => hts w (List.mem_cons_of_mem _ h)
  have hown : s.vm.findClass RX4 = some m.cls := findClass_of_methodNamed B.named
  subst hsz
  have hD := hD0.self (sz := s.heap.size)
  generalize hAe : va_A (mw ad cI n a b T H R O Wy tr hd us nx) s.heap.size = A at hD ⊢
  have hA : ∀ q : Nat, s.heap.size ≤ q → A q := fun q h => by rw [← hAe]; exact Or.inr h
  have hS : va_S A s.heap s.heap [] := va_S.rf
  have hl := lv_entry ([.ref (ad 0), .int (nI s0), .int (nI k), .int (nI had), .int (nI U)]) (n := 7) (Nat.le_of_ble_eq_true rfl)
  rw [lg_entry_eq]
  generalize (lg_sl ([.ref (ad 0), .int (nI s0), .int (nI k), .int (nI had), .int (nI U)]) ++ List.replicate (7 - (lg_sl ([.ref (ad 0), .int (nI s0), .int (nI k), .int (nI had), .int (nI U)])).length) Slot.unset).toArray = ls at hl ⊢
  have hl : lv_has ls 7 [(0, .ref (ad 0)), (1, .int (nI s0)), (2, .int (nI k)), (3, .int (nI had)), (4, .int (nI U))] := hl
  refine lv_iload_n hx hb dX4_isDone_0 rfl (lv_at hl 2 rfl) ?_
  refine lv_istore (lv' := [(5, .int (nI k)), (0, .ref (ad 0)), (1, .int (nI s0)), (2, .int (nI k)), (3, .int (nI had)), (4, .int (nI U))]) hx hb dX4_isDone_1 hl (by decide) rfl (fun ls hl => ?_)
  refine lv_iload_n hx hb dX4_isDone_3 rfl (lv_at hl 4 rfl) ?_
  refine lv_istore (lv' := [(6, .int (nI had)), (5, .int (nI k)), (0, .ref (ad 0)), (1, .int (nI s0)), (2, .int (nI k)), (3, .int (nI had)), (4, .int (nI U))]) hx hb dX4_isDone_4 hl (by decide) rfl (fun ls hl => ?_)
  refine wl_loop (fun k9 ls => ∃ (tt : Nat) (hv : Nat), b - tt = k9 ∧ (tt ≤ b) ∧ (hv < 2 ^ n) ∧ (go n a b T H R tt hv U = go n a b T H R k had U) ∧ lv_has ls 7 [(0, .ref (ad 0)), (1, .int (nI s0)), (4, .int (nI U)), (5, .int (nI tt)), (6, .int (nI hv))]) ?_ _ ⟨k, had, rfl, hk, hh, rfl, lv_sub hl [2, 3, 6, 1, 0] rfl⟩
  clear hl
  intro k9 ls ih9 h9
  obtain ⟨tt, hv, k9e, htb, hv2, hgo, hl⟩ := h9
  have ih_6 := ih9
  clear ih9
  subst k9e
  refine lv_iload hx hb dX4_isDone_6 (lv_at hl 3 rfl) ?_
  refine lv_aload_n hx hb dX4_isDone_8 rfl (lv_at hl 0 rfl) ?_
  refine va_get (D := (dC, dI)) (ci := 4) (v := .int (nI b)) (C := RX4) (T := TX4) (N := 12) hx hb hw in_X4 hown hK hP 0 rfl rfl 2 (by decide) (hw _ mq_fl_X4_56) (fun _ h9 => h9) rfl dX4_isDone_9 ?_
  refine lv_icmp_ge (tgt := 52) hx hb dX4_isDone_12 (by decide) (fun b12 => ?_) (fun b12 => ?_)
  -- if_icmpge at 12, t
  · have t12 := (nI_leI (by omega) (by omega)).mp b12
    have e12 : tt = b := by omega
    have e7 : nxv a b tt (go n a b T H R tt hv U) = 0 := if_neg (fun z => absurd z.1 (by omega))
    refine lv_aload_n hx hb dX4_isDone_52 rfl (lv_at hl 0 rfl) ?_
    refine va_get (D := (dC, dI)) (ci := 4) (v := .ref (ad 6)) (C := RX4) (T := TX4) (N := 12) hx hb hw in_X4 hown hK hP 0 rfl rfl 8 (by decide) (hw _ mq_fl_X4_29) (fun _ h9 => h9) rfl dX4_isDone_53 ?_
    refine lv_iload_n hx hb dX4_isDone_56 rfl (lv_at hl 1 rfl) ?_
    refine lv_iload hx hb dX4_isDone_57 (lv_at hl 3 rfl) ?_
    refine va_iast hx hb hK hP hD hS 6 0 rfl rfl (vp_in_nI hs0 (by decide)) dX4_isDone_59 (fun Hp locs hP hD hS => ?_)
    rw [nI_clamp (show s0 < 2 ^ 31 by omega)] at hP hD
    have hP : va_P (dC, dI) classes (mw ad cI n a b T H R O Wy (upd tr s0 (nI tt)) hd us nx) Hp := hP
    have hD : va_D A (mw ad cI n a b T H R O Wy (upd tr s0 (nI tt)) hd us nx) := hD
    refine lv_aload_n hx hb dX4_isDone_60 rfl (lv_at hl 0 rfl) ?_
    refine va_get (D := (dC, dI)) (ci := 4) (v := .ref (ad 7)) (C := RX4) (T := TX4) (N := 12) hx hb hw in_X4 hown hK hP 0 rfl rfl 9 (by decide) (hw _ mq_fl_X4_32) (fun _ h9 => h9) rfl dX4_isDone_61 ?_
    refine lv_iload_n hx hb dX4_isDone_64 rfl (lv_at hl 1 rfl) ?_
    refine lv_iload hx hb dX4_isDone_65 (lv_at hl 4 rfl) ?_
    refine va_iast hx hb hK hP hD hS 7 0 rfl rfl (vp_in_nI hs0 (by decide)) dX4_isDone_67 (fun Hp locs hP hD hS => ?_)
    rw [nI_clamp (show s0 < 2 ^ 31 by omega)] at hP hD
    have hP : va_P (dC, dI) classes (mw ad cI n a b T H R O Wy (upd tr s0 (nI tt)) (upd hd s0 (nI hv)) us nx) Hp := hP
    have hD : va_D A (mw ad cI n a b T H R O Wy (upd tr s0 (nI tt)) (upd hd s0 (nI hv)) us nx) := hD
    refine lv_aload_n hx hb dX4_isDone_68 rfl (lv_at hl 0 rfl) ?_
    refine va_get (D := (dC, dI)) (ci := 4) (v := .ref (ad 8)) (C := RX4) (T := TX4) (N := 12) hx hb hw in_X4 hown hK hP 0 rfl rfl 10 (by decide) (hw _ mq_fl_X4_35) (fun _ h9 => h9) rfl dX4_isDone_69 ?_
    refine lv_iload_n hx hb dX4_isDone_72 rfl (lv_at hl 1 rfl) ?_
    refine lv_iload hx hb dX4_isDone_73 (lv_at hl 2 rfl) ?_
    refine va_iast hx hb hK hP hD hS 8 0 rfl rfl (vp_in_nI hs0 (by decide)) dX4_isDone_75 (fun Hp locs hP hD hS => ?_)
    rw [nI_clamp (show s0 < 2 ^ 31 by omega)] at hP hD
    have hP : va_P (dC, dI) classes (mw ad cI n a b T H R O Wy (upd tr s0 (nI tt)) (upd hd s0 (nI hv)) (upd us s0 (nI U)) nx) Hp := hP
    have hD : va_D A (mw ad cI n a b T H R O Wy (upd tr s0 (nI tt)) (upd hd s0 (nI hv)) (upd us s0 (nI U)) nx) := hD
    refine lv_aload_n hx hb dX4_isDone_76 rfl (lv_at hl 0 rfl) ?_
    refine va_get (D := (dC, dI)) (ci := 4) (v := .ref (ad 9)) (C := RX4) (T := TX4) (N := 12) hx hb hw in_X4 hown hK hP 0 rfl rfl 11 (by decide) (hw _ mq_fl_X4_38) (fun _ h9 => h9) rfl dX4_isDone_77 ?_
    refine lv_iload_n hx hb dX4_isDone_80 rfl (lv_at hl 1 rfl) ?_
    refine lv_iload hx hb dX4_isDone_81 (lv_at hl 3 rfl) ?_
    refine lv_aload_n hx hb dX4_isDone_83 rfl (lv_at hl 0 rfl) ?_
    refine va_get (D := (dC, dI)) (ci := 4) (v := .int (nI b)) (C := RX4) (T := TX4) (N := 12) hx hb hw in_X4 hown hK hP 0 rfl rfl 2 (by decide) (hw _ mq_fl_X4_56) (fun _ h9 => h9) rfl dX4_isDone_84 ?_
    refine lv_icmp_ge (tgt := 110) hx hb dX4_isDone_87 (by decide) (fun _ => ?_) (fun b9 => absurd (nI_le (by omega) (by omega)) b9)
    refine lv_iconst (v := nI (nxv a b tt (go n a b T H R tt hv U))) hx hb dX4_isDone_110 (by rw [e7]; rfl) ?_
    refine va_iast hx hb hK hP hD hS 9 0 rfl rfl (vp_in_nI hs0 (by decide)) dX4_isDone_111 (fun Hp locs hP hD hS => ?_)
    rw [nI_clamp (show s0 < 2 ^ 31 by omega)] at hP hD
    have hP : va_P (dC, dI) classes (mw ad cI n a b T H R O Wy (upd tr s0 (nI tt)) (upd hd s0 (nI hv)) (upd us s0 (nI U)) (upd nx s0 (nI (nxv a b tt (go n a b T H R tt hv U))))) Hp := hP
    have hD : va_D A (mw ad cI n a b T H R O Wy (upd tr s0 (nI tt)) (upd hd s0 (nI hv)) (upd us s0 (nI U)) (upd nx s0 (nI (nxv a b tt (go n a b T H R tt hv U))))) := hD
    refine lv_iload hx hb dX4_isDone_112 (lv_at hl 3 rfl) ?_
    refine lv_aload_n hx hb dX4_isDone_114 rfl (lv_at hl 0 rfl) ?_
    refine va_get (D := (dC, dI)) (ci := 4) (v := .int (nI b)) (C := RX4) (T := TX4) (N := 12) hx hb hw in_X4 hown hK hP 0 rfl rfl 2 (by decide) (hw _ mq_fl_X4_56) (fun _ h9 => h9) rfl dX4_isDone_115 ?_
    refine lv_icmp_ne (tgt := 125) hx hb dX4_isDone_118 (by decide) (fun b9 => absurd (by rw [e12]) b9) (fun _ => ?_)
    refine lv_iconst (v := 1) hx hb dX4_isDone_121 (by decide) ?_
    refine lv_goto (tgt := 126) hx hb dX4_isDone_122 (by decide) ?_
    exact W.zret (v := 1) hx hb hr rfl (fun t ht hW => ⟨⟨_, (tt, hv), rfl, ⟨zb_t e12, htb, hv2, fun z => absurd z (by show ¬ tt < b; omega), hgo⟩, by rw [ht]; exact hP, va_K.moved hW.alike hK, by rw [hAe]; exact hD⟩, hS.F ht⟩) hS.2.2 dX4_isDone_126
  -- if_icmpge at 12, f
  · have t12 : tt < b := Nat.lt_of_not_le (fun z => b12 (nI_le z (by omega)))
    refine lv_iload hx hb dX4_isDone_15 (lv_at hl 4 rfl) ?_
    refine lv_aload_n hx hb dX4_isDone_17 rfl (lv_at hl 0 rfl) ?_
    refine ro_V (As := []) (rest := [.int (nI hv)]) (b := ad 0) ⟨hx, hb, hml, hown, hts⟩ (c_X4_all l dC dI cI ad n a b T H R O Wy tr hd us nx n7) (cwV 0 hts (bw_V mq_ml_X4_41 mq_im_X4_all mq_se_X4_all mq_in_X4 mq_co_X4_all) rfl rfl rfl (by decide +kernel) ⟨Nat.le_of_ble_eq_true rfl, Nat.le_of_ble_eq_true rfl⟩) hP hK hN 0 rfl rfl rfl hl.1 rfl (Nat.le_of_ble_eq_true rfl) dX4_isDone_18 ⟨Nat.zero_le _, Nat.zero_le _⟩ (fun r9 h9 => ?_)
    obtain rfl : r9 = nI (2 ^ n - 1) := h9
    refine lv_icmp_ne (tgt := 52) hx hb dX4_isDone_21 (by decide) (fun b21 => ?_) (fun b21 => ?_)
    -- if_icmpne at 21, t
    · have t21 : hv ≠ 2 ^ n - 1 := fun z => b21 (by rw [z])
      refine lv_aload_n hx hb dX4_isDone_52 rfl (lv_at hl 0 rfl) ?_
      refine va_get (D := (dC, dI)) (ci := 4) (v := .ref (ad 6)) (C := RX4) (T := TX4) (N := 12) hx hb hw in_X4 hown hK hP 0 rfl rfl 8 (by decide) (hw _ mq_fl_X4_29) (fun _ h9 => h9) rfl dX4_isDone_53 ?_
      refine lv_iload_n hx hb dX4_isDone_56 rfl (lv_at hl 1 rfl) ?_
      refine lv_iload hx hb dX4_isDone_57 (lv_at hl 3 rfl) ?_
      refine va_iast hx hb hK hP hD hS 6 0 rfl rfl (vp_in_nI hs0 (by decide)) dX4_isDone_59 (fun Hp locs hP hD hS => ?_)
      rw [nI_clamp (show s0 < 2 ^ 31 by omega)] at hP hD
      have hP : va_P (dC, dI) classes (mw ad cI n a b T H R O Wy (upd tr s0 (nI tt)) hd us nx) Hp := hP
      have hD : va_D A (mw ad cI n a b T H R O Wy (upd tr s0 (nI tt)) hd us nx) := hD
      refine lv_aload_n hx hb dX4_isDone_60 rfl (lv_at hl 0 rfl) ?_
      refine va_get (D := (dC, dI)) (ci := 4) (v := .ref (ad 7)) (C := RX4) (T := TX4) (N := 12) hx hb hw in_X4 hown hK hP 0 rfl rfl 9 (by decide) (hw _ mq_fl_X4_32) (fun _ h9 => h9) rfl dX4_isDone_61 ?_
      refine lv_iload_n hx hb dX4_isDone_64 rfl (lv_at hl 1 rfl) ?_
      refine lv_iload hx hb dX4_isDone_65 (lv_at hl 4 rfl) ?_
      refine va_iast hx hb hK hP hD hS 7 0 rfl rfl (vp_in_nI hs0 (by decide)) dX4_isDone_67 (fun Hp locs hP hD hS => ?_)
      rw [nI_clamp (show s0 < 2 ^ 31 by omega)] at hP hD
      have hP : va_P (dC, dI) classes (mw ad cI n a b T H R O Wy (upd tr s0 (nI tt)) (upd hd s0 (nI hv)) us nx) Hp := hP
      have hD : va_D A (mw ad cI n a b T H R O Wy (upd tr s0 (nI tt)) (upd hd s0 (nI hv)) us nx) := hD
      refine lv_aload_n hx hb dX4_isDone_68 rfl (lv_at hl 0 rfl) ?_
      refine va_get (D := (dC, dI)) (ci := 4) (v := .ref (ad 8)) (C := RX4) (T := TX4) (N := 12) hx hb hw in_X4 hown hK hP 0 rfl rfl 10 (by decide) (hw _ mq_fl_X4_35) (fun _ h9 => h9) rfl dX4_isDone_69 ?_
      refine lv_iload_n hx hb dX4_isDone_72 rfl (lv_at hl 1 rfl) ?_
      refine lv_iload hx hb dX4_isDone_73 (lv_at hl 2 rfl) ?_
      refine va_iast hx hb hK hP hD hS 8 0 rfl rfl (vp_in_nI hs0 (by decide)) dX4_isDone_75 (fun Hp locs hP hD hS => ?_)
      rw [nI_clamp (show s0 < 2 ^ 31 by omega)] at hP hD
      have hP : va_P (dC, dI) classes (mw ad cI n a b T H R O Wy (upd tr s0 (nI tt)) (upd hd s0 (nI hv)) (upd us s0 (nI U)) nx) Hp := hP
      have hD : va_D A (mw ad cI n a b T H R O Wy (upd tr s0 (nI tt)) (upd hd s0 (nI hv)) (upd us s0 (nI U)) nx) := hD
      refine lv_aload_n hx hb dX4_isDone_76 rfl (lv_at hl 0 rfl) ?_
      refine va_get (D := (dC, dI)) (ci := 4) (v := .ref (ad 9)) (C := RX4) (T := TX4) (N := 12) hx hb hw in_X4 hown hK hP 0 rfl rfl 11 (by decide) (hw _ mq_fl_X4_38) (fun _ h9 => h9) rfl dX4_isDone_77 ?_
      refine lv_iload_n hx hb dX4_isDone_80 rfl (lv_at hl 1 rfl) ?_
      refine lv_iload hx hb dX4_isDone_81 (lv_at hl 3 rfl) ?_
      refine lv_aload_n hx hb dX4_isDone_83 rfl (lv_at hl 0 rfl) ?_
      refine va_get (D := (dC, dI)) (ci := 4) (v := .int (nI b)) (C := RX4) (T := TX4) (N := 12) hx hb hw in_X4 hown hK hP 0 rfl rfl 2 (by decide) (hw _ mq_fl_X4_56) (fun _ h9 => h9) rfl dX4_isDone_84 ?_
      refine lv_icmp_ge (tgt := 110) hx hb dX4_isDone_87 (by decide) (fun b9 => absurd b9 (fun z => absurd ((nI_leI (by omega) (by omega)).mp z) (by omega))) (fun _ => ?_)
      refine lv_aload_n hx hb dX4_isDone_90 rfl (lv_at hl 0 rfl) ?_
      refine lv_iload hx hb dX4_isDone_91 (lv_at hl 3 rfl) ?_
      refine lv_iload hx hb dX4_isDone_93 (lv_at hl 4 rfl) ?_
      refine lv_iload hx hb dX4_isDone_95 (lv_at hl 2 rfl) ?_
      refine ro_V (As := [.int (nI tt), .int (nI hv), .int (nI U)]) (rest := [.int (nI s0), .ref (ad 9)]) (b := ad 0) ⟨hx, hb, hml, hown, hts⟩ (c_X4_isStopped l dC dI cI ad n a b T H R O Wy (upd tr s0 (nI tt)) (upd hd s0 (nI hv)) (upd us s0 (nI U)) nx tt hv U hI0 (by omega) hU t12) (cwV 3 hts (bw_V mq_ml_X4_83 mq_im_X4_isStopped mq_se_X4_isStopped mq_in_X4 mq_co_X4_isStopped) rfl rfl rfl (by decide +kernel) ⟨Nat.le_of_ble_eq_true rfl, Nat.le_of_ble_eq_true rfl⟩) hP hK hN 0 rfl rfl rfl hl.1 rfl (Nat.le_of_ble_eq_true rfl) dX4_isDone_97 ⟨Nat.zero_le _, Nat.zero_le _⟩ (fun r9 h9 => ?_)
      obtain rfl : r9 = nI (ed_b (!ru_ok n a b T H R tt hv (Nat.testBit U))) := h9
      refine lv_if_eq (tgt := 110) hx hb dX4_isDone_100 (by decide) (fun b100 => ?_) (fun b100 => ?_)
      -- ifeq at 100, t
      · have t100 := zb_0.mp b100
        have e7 : nxv a b tt (go n a b T H R tt hv U) = 0 := if_neg (fun z => by rw [go_lt t12, nb_f t100] at z; exact absurd z.2 (by decide))
        refine lv_iconst (v := nI (nxv a b tt (go n a b T H R tt hv U))) hx hb dX4_isDone_110 (by rw [e7]; rfl) ?_
        refine va_iast hx hb hK hP hD hS 9 0 rfl rfl (vp_in_nI hs0 (by decide)) dX4_isDone_111 (fun Hp locs hP hD hS => ?_)
        rw [nI_clamp (show s0 < 2 ^ 31 by omega)] at hP hD
        have hP : va_P (dC, dI) classes (mw ad cI n a b T H R O Wy (upd tr s0 (nI tt)) (upd hd s0 (nI hv)) (upd us s0 (nI U)) (upd nx s0 (nI (nxv a b tt (go n a b T H R tt hv U))))) Hp := hP
        have hD : va_D A (mw ad cI n a b T H R O Wy (upd tr s0 (nI tt)) (upd hd s0 (nI hv)) (upd us s0 (nI U)) (upd nx s0 (nI (nxv a b tt (go n a b T H R tt hv U))))) := hD
        refine lv_iload hx hb dX4_isDone_112 (lv_at hl 3 rfl) ?_
        refine lv_aload_n hx hb dX4_isDone_114 rfl (lv_at hl 0 rfl) ?_
        refine va_get (D := (dC, dI)) (ci := 4) (v := .int (nI b)) (C := RX4) (T := TX4) (N := 12) hx hb hw in_X4 hown hK hP 0 rfl rfl 2 (by decide) (hw _ mq_fl_X4_56) (fun _ h9 => h9) rfl dX4_isDone_115 ?_
        refine lv_icmp_ne (tgt := 125) hx hb dX4_isDone_118 (by decide) (fun _ => ?_) (fun b9 => absurd b9 (fun z => absurd ((nI_eq (by omega) (by omega)).mp z) (by omega)))
        refine lv_iconst (v := 0) hx hb dX4_isDone_125 (by decide) ?_
        exact W.zret (v := 0) hx hb hr rfl (fun t ht hW => ⟨⟨_, (tt, hv), rfl, ⟨zb_f (by show ¬ tt = b; omega), htb, hv2, fun _ => t21, hgo⟩, by rw [ht]; exact hP, va_K.moved hW.alike hK, by rw [hAe]; exact hD⟩, hS.F ht⟩) hS.2.2 dX4_isDone_126
      -- ifeq at 100, f
      · have t100 := zb_n0.mp b100
        have e7 : nxv a b tt (go n a b T H R tt hv U) = a := if_pos ⟨t12, by rw [go_lt t12, nb_t t100]⟩
        refine lv_aload_n hx hb dX4_isDone_103 rfl (lv_at hl 0 rfl) ?_
        refine va_get (D := (dC, dI)) (ci := 4) (v := .int (nI a)) (C := RX4) (T := TX4) (N := 12) hx hb hw in_X4 hown hK hP 0 rfl rfl 1 (by decide) (hw _ mq_fl_X4_45) (fun _ h9 => h9) rfl dX4_isDone_104 ?_
        refine lv_topi (fun z9 e9 => ?_)
        obtain rfl : z9 = nI (nxv a b tt (go n a b T H R tt hv U)) := e9.trans (by rw [e7])
        refine lv_goto (tgt := 111) hx hb dX4_isDone_107 (by decide) ?_
        refine va_iast hx hb hK hP hD hS 9 0 rfl rfl (vp_in_nI hs0 (by decide)) dX4_isDone_111 (fun Hp locs hP hD hS => ?_)
        rw [nI_clamp (show s0 < 2 ^ 31 by omega)] at hP hD
        have hP : va_P (dC, dI) classes (mw ad cI n a b T H R O Wy (upd tr s0 (nI tt)) (upd hd s0 (nI hv)) (upd us s0 (nI U)) (upd nx s0 (nI (nxv a b tt (go n a b T H R tt hv U))))) Hp := hP
        have hD : va_D A (mw ad cI n a b T H R O Wy (upd tr s0 (nI tt)) (upd hd s0 (nI hv)) (upd us s0 (nI U)) (upd nx s0 (nI (nxv a b tt (go n a b T H R tt hv U))))) := hD
        refine lv_iload hx hb dX4_isDone_112 (lv_at hl 3 rfl) ?_
        refine lv_aload_n hx hb dX4_isDone_114 rfl (lv_at hl 0 rfl) ?_
        refine va_get (D := (dC, dI)) (ci := 4) (v := .int (nI b)) (C := RX4) (T := TX4) (N := 12) hx hb hw in_X4 hown hK hP 0 rfl rfl 2 (by decide) (hw _ mq_fl_X4_56) (fun _ h9 => h9) rfl dX4_isDone_115 ?_
        refine lv_icmp_ne (tgt := 125) hx hb dX4_isDone_118 (by decide) (fun _ => ?_) (fun b9 => absurd b9 (fun z => absurd ((nI_eq (by omega) (by omega)).mp z) (by omega)))
        refine lv_iconst (v := 0) hx hb dX4_isDone_125 (by decide) ?_
        exact W.zret (v := 0) hx hb hr rfl (fun t ht hW => ⟨⟨_, (tt, hv), rfl, ⟨zb_f (by show ¬ tt = b; omega), htb, hv2, fun _ => t21, hgo⟩, by rw [ht]; exact hP, va_K.moved hW.alike hK, by rw [hAe]; exact hD⟩, hS.F ht⟩) hS.2.2 dX4_isDone_126
    -- if_icmpne at 21, f
    · have t21 : hv = 2 ^ n - 1 := (nI_eq (by omega) (by omega)).mp b21
      refine lv_iinc (k := 3) (v := nI (tt + 1)) (lv' := [(5, .int (nI (tt + 1))), (0, .ref (ad 0)), (1, .int (nI s0)), (4, .int (nI U)), (6, .int (nI hv))]) hx hb dX4_isDone_24 hl rfl (ii_1 _) (by decide) rfl (fun ls hl => ?_)
      refine lv_iload hx hb dX4_isDone_27 (lv_at hl 0 rfl) ?_
      refine lv_aload_n hx hb dX4_isDone_29 rfl (lv_at hl 1 rfl) ?_
      refine va_get (D := (dC, dI)) (ci := 4) (v := .int (nI b)) (C := RX4) (T := TX4) (N := 12) hx hb hw in_X4 hown hK hP 0 rfl rfl 2 (by decide) (hw _ mq_fl_X4_56) (fun _ h9 => h9) rfl dX4_isDone_30 ?_
      refine lv_icmp_ge (tgt := 46) hx hb dX4_isDone_33 (by decide) (fun b33 => ?_) (fun b33 => ?_)
      -- if_icmpge at 33, t
      · have t33 := (nI_leI (by omega) (by omega)).mp b33
        refine lv_iconst (v := nI 0) hx hb dX4_isDone_46 (by decide) ?_
        refine lv_istore (lv' := [(6, .int (nI 0)), (5, .int (nI (tt + 1))), (0, .ref (ad 0)), (1, .int (nI s0)), (4, .int (nI U))]) hx hb dX4_isDone_47 hl (by decide) rfl (fun ls hl => ?_)
        refine lv_goto (tgt := 6) hx hb dX4_isDone_49 (by decide) ?_
        have hgo2 : go n a b T H R (tt + 1) 0 U = go n a b T H R k had U := by rw [← hgo, t21, go_next t12, if_neg (by omega)]
        exact ih_6 _ _ (by omega) ⟨tt + 1, 0, rfl, by omega, p0, hgo2, lv_sub hl [2, 3, 4, 1, 0] rfl⟩
      -- if_icmpge at 33, f
      · have t33 : tt + 1 < b := Nat.lt_of_not_le (fun z => b33 (nI_le z (by omega)))
        refine lv_aload_n hx hb dX4_isDone_36 rfl (lv_at hl 1 rfl) ?_
        refine va_get (D := (dC, dI)) (ci := 4) (v := .ref (ad 3)) (C := RX4) (T := TX4) (N := 12) hx hb hw in_X4 hown hK hP 0 rfl rfl 5 (by decide) (hw _ mq_fl_X4_20) (fun _ h9 => h9) rfl dX4_isDone_37 ?_
        refine lv_iload hx hb dX4_isDone_40 (lv_at hl 0 rfl) ?_
        refine va_iald hx hb hK hP 3 0 rfl rfl (vp_in_nI (by omega) (by decide)) dX4_isDone_42 ?_
        refine lv_topi (fun z9 e9 => ?_)
        obtain rfl : z9 = nI (R (tt + 1)) := e9.trans (ar_at R (by omega))
        refine lv_goto (tgt := 47) hx hb dX4_isDone_43 (by decide) ?_
        refine lv_istore (lv' := [(6, .int (nI (R (tt + 1)))), (5, .int (nI (tt + 1))), (0, .ref (ad 0)), (1, .int (nI s0)), (4, .int (nI U))]) hx hb dX4_isDone_47 hl (by decide) rfl (fun ls hl => ?_)
        refine lv_goto (tgt := 6) hx hb dX4_isDone_49 (by decide) ?_
        have hgo2 : go n a b T H R (tt + 1) (R (tt + 1)) U = go n a b T H R k had U := by rw [← hgo, t21, go_next t12, if_pos t33]
        exact ih_6 _ _ (by omega) ⟨tt + 1, R (tt + 1), rfl, by omega, (hR3 (tt + 1) t33).2, hgo2, lv_sub hl [2, 3, 4, 1, 0] rfl⟩
set_option maxHeartbeats 4000000 in
set_option maxRecDepth 100000 in
theorem c_X4_canGoOn (l : Launch) (dC : Nat → ClassId) (dI : Nat → Nat → Nat) (cI : ClassId) (ad : Nat → Nat) (n a b : Nat) (T H R : Nat → Nat) (O Wy tr hd us nx : Nat → Int32) (sz : Nat) (k had U : Nat) (hI : st_I n a T H b R) (hk : k ≤ b) (hh : had < 2 ^ n) (hU : U < 2 ^ 14) : Met l yX4_canGoOn (wq yX4_canGoOn cX4_canGoOn 7 (some .boolean)) ({ frames := 4, cells := 0, slots := 0, locals := 97 }) (mu_P (dC, dI) classes [(cI, .int)] (mw ad cI n a b T H R O Wy tr hd us nx) sz [.ref (ad 0), .int (nI k), .int (nI had), .int (nI U)]) (va_Qi (fun (r : Int32) (u : (Nat → Int32) × (Nat → Int32) × (Nat → Int32) × (Nat → Int32)) => r = nI (ed_b (go n a b T H R k had U))) (mu_B (dC, dI) classes [(cI, .int)] (mw ad cI n a b T H R O Wy tr hd us nx) sz (fun u => mw ad cI n a b T H R O Wy u.1 u.2.1 u.2.2.1 u.2.2.2)) (va_A (mw ad cI n a b T H R O Wy tr hd us nx) sz)) 0 0 (va_A (mw ad cI n a b T H R O Wy tr hd us nx) sz) := by
  have hI0 := hI
  obtain ⟨n1, n7, a14, hT, hT2, hb3, hR3, hR⟩ := hI
  have p7 := bi_p7 n7
  have p0 := Nat.two_pow_pos n
  refine Met.ofW (cc := cX4_canGoOn) (maxL := 7) (ret := (some .boolean)) (by decide) rfl ?_
  intro p e s m args below meth c s₁ B hml hv
  obtain ⟨rfl, hsz, hP, hK, hN, hD0⟩ := hv
  have hx := B.exec
  have hb := B.bytes
  have hr := B.returns
  have hlocks := B.notSynchronized
  have hts := atoms_spec (ws := (wq yX4_canGoOn cX4_canGoOn 7 (some .boolean))) B.pre
  have hw : ∀ w ∈ bigW, w.before _ s = true := fun w h => hts w (List.mem_cons_of_mem _ h)
  have hown : s.vm.findClass RX4 = some m.cls := findClass_of_methodNamed B.named
  subst hsz
  have hD := hD0.self (sz := s.heap.size)
  generalize hAe : va_A (mw ad cI n a b T H R O Wy tr hd us nx) s.heap.size = A at hD ⊢
  have hA : ∀ q : Nat, s.heap.size ≤ q → A q := fun q h => by rw [← hAe]; exact Or.inr h
  have hS : va_S A s.heap s.heap [] := va_S.rf
  have hl := lv_entry ([.ref (ad 0), .int (nI k), .int (nI had), .int (nI U)]) (n := 7) (Nat.le_of_ble_eq_true rfl)
  rw [lg_entry_eq]
  generalize (lg_sl ([.ref (ad 0), .int (nI k), .int (nI had), .int (nI U)]) ++ List.replicate (7 - (lg_sl ([.ref (ad 0), .int (nI k), .int (nI had), .int (nI U)])).length) Slot.unset).toArray = ls at hl ⊢
  have hl : lv_has ls 7 [(0, .ref (ad 0)), (1, .int (nI k)), (2, .int (nI had)), (3, .int (nI U))] := hl
  refine lv_iconst (v := nI 0) hx hb dX4_canGoOn_0 (by decide) ?_
  refine lv_istore (lv' := [(4, .int (nI 0)), (0, .ref (ad 0)), (1, .int (nI k)), (2, .int (nI had)), (3, .int (nI U))]) hx hb dX4_canGoOn_1 hl (by decide) rfl (fun ls hl => ?_)
  refine lv_aload_n hx hb dX4_canGoOn_3 rfl (lv_at hl 1 rfl) ?_
  refine lv_iconst (v := nI 0) hx hb dX4_canGoOn_4 (by decide) ?_
  refine lv_iload_n hx hb dX4_canGoOn_5 rfl (lv_at hl 2 rfl) ?_
  refine lv_iload_n hx hb dX4_canGoOn_6 rfl (lv_at hl 3 rfl) ?_
  refine lv_iload_n hx hb dX4_canGoOn_7 rfl (lv_at hl 4 rfl) ?_
  refine mu_Vi (As := [.int (nI 0), .int (nI k), .int (nI had), .int (nI U)]) (rest := []) (b := ad 0) ⟨hx, hb, hml, hown, hts⟩ (c_X4_isDone l dC dI cI ad n a b T H R O Wy tr hd us nx _ 0 k had U hI0 (by decide) hk hh hU) (cwV 4 hts (bw_V mq_ml_X4_87 mq_im_X4_isDone mq_se_X4_isDone mq_in_X4 mq_co_X4_isDone) rfl rfl rfl (by decide +kernel) ⟨Nat.le_of_ble_eq_true rfl, Nat.le_of_ble_eq_true rfl⟩) hP hK hN hD hS hA 0 rfl rfl rfl hl.1 rfl (Nat.le_of_ble_eq_true rfl) dX4_canGoOn_8 ⟨Nat.zero_le _, Nat.zero_le _⟩ (fun r9 u9 Hp locs h9 hP hD hS => ?_)
  obtain ⟨⟨tt, hv⟩, rfl⟩ : ∃ z, z = u9 := ⟨_, rfl⟩
  obtain ⟨q1, q2, q3, q4, q5⟩ := h9
  obtain rfl : r9 = nI (ed_b (decide (tt = b))) := q1
  have hP : va_P (dC, dI) classes (mw ad cI n a b T H R O Wy (upd tr 0 (nI tt)) (upd hd 0 (nI hv)) (upd us 0 (nI U)) (upd nx 0 (nI (nxv a b tt (go n a b T H R tt hv U))))) Hp := hP
  have hD : va_D A (mw ad cI n a b T H R O Wy (upd tr 0 (nI tt)) (upd hd 0 (nI hv)) (upd us 0 (nI U)) (upd nx 0 (nI (nxv a b tt (go n a b T H R tt hv U))))) := hD
  obtain ⟨mu0, hdf0⟩ := df_start (tr := tr) (hd := hd) (us := us) (nx := nx) (n := n) (T := T) (H := H) (R := R) (G := go n a b T H R k had U) a14 q2 q3 q4 q5 hU
  refine lv_istore (lv' := [(5, .int (nI (ed_b (decide (tt = b))))), (4, .int (nI 0)), (0, .ref (ad 0)), (1, .int (nI k)), (2, .int (nI had)), (3, .int (nI U))]) hx hb dX4_canGoOn_11 hl (by decide) rfl (fun ls hl => ?_)
  refine wl_loopH (fun k9 Hp locs ls => ∃ (dn : Int32) (stp : Int32) (mu9 : Nat) (tr1 : Nat → Int32) (hd1 : Nat → Int32) (us1 : Nat → Int32) (nx1 : Nat → Int32), mu9 = k9 ∧ (df_I n a b T H R (go n a b T H R k had U) tr1 hd1 us1 nx1 dn stp mu9) ∧ lv_has ls 7 [(0, .ref (ad 0)), (4, .int stp), (5, .int dn)] ∧ va_P (dC, dI) classes (mw ad cI n a b T H R O Wy tr1 hd1 us1 nx1) Hp ∧ va_D A (mw ad cI n a b T H R O Wy tr1 hd1 us1 nx1) ∧ va_S A s.heap Hp locs) ?_ _ ⟨_, _, mu0, _, _, _, _, rfl, hdf0, lv_sub hl [2, 1, 0] rfl, hP, hD, hS⟩
  clear hP hD hS hl
  intro k9 Hp locs ls ih9 h9
  obtain ⟨dn, stp, mu9, tr1, hd1, us1, nx1, k9e, hdf, hl, hP, hD, hS⟩ := h9
  have ih_13 := ih9
  clear ih9
  subst k9e
  rcases hdf with hA9 | hB9 | hC9 | hD9 | hE9
  · obtain ⟨rfl, hG⟩ := hA9
    refine lv_iload hx hb dX4_canGoOn_13 (lv_at hl 2 rfl) ?_
    refine lv_if_ne (tgt := 133) hx hb dX4_canGoOn_15 (by decide) (fun _ => ?_) (fun b9 => absurd b9 (by decide))
    refine lv_iload hx hb dX4_canGoOn_133 (lv_at hl 2 rfl) ?_
    exact W.zret (v := 1) hx hb hr rfl (fun t ht hW => ⟨⟨_, (tr1, hd1, us1, nx1), rfl, zb_T hG, by rw [ht]; exact hP, va_K.moved hW.alike hK, by rw [hAe]; exact hD⟩, hS.F ht⟩) hS.2.2 dX4_canGoOn_135
  · obtain ⟨rfl, rfl, hG⟩ := hB9
    refine lv_iload hx hb dX4_canGoOn_13 (lv_at hl 2 rfl) ?_
    refine lv_if_ne (tgt := 133) hx hb dX4_canGoOn_15 (by decide) (fun b9 => absurd (rfl) b9) (fun _ => ?_)
    refine lv_iload hx hb dX4_canGoOn_18 (lv_at hl 1 rfl) ?_
    refine lv_if_lt (tgt := 133) hx hb dX4_canGoOn_20 (by decide) (fun _ => ?_) (fun b9 => absurd (by decide) b9)
    refine lv_iload hx hb dX4_canGoOn_133 (lv_at hl 2 rfl) ?_
    exact W.zret (v := 0) hx hb hr rfl (fun t ht hW => ⟨⟨_, (tr1, hd1, us1, nx1), rfl, zb_F hG, by rw [ht]; exact hP, va_K.moved hW.alike hK, by rw [hAe]; exact hD⟩, hS.F ht⟩) hS.2.2 dX4_canGoOn_135
  · obtain ⟨em, rfl, rfl, hn0, hG⟩ := hC9
    refine lv_iload hx hb dX4_canGoOn_13 (lv_at hl 2 rfl) ?_
    refine lv_if_ne (tgt := 133) hx hb dX4_canGoOn_15 (by decide) (fun b9 => absurd (rfl) b9) (fun _ => ?_)
    refine lv_iload hx hb dX4_canGoOn_18 (lv_at hl 1 rfl) ?_
    refine lv_if_lt (tgt := 133) hx hb dX4_canGoOn_20 (by decide) (fun b9 => absurd b9 (nI_pos (by decide))) (fun _ => ?_)
    refine lv_aload_n hx hb dX4_canGoOn_23 rfl (lv_at hl 0 rfl) ?_
    refine va_get (D := (dC, dI)) (ci := 4) (v := .ref (ad 9)) (C := RX4) (T := TX4) (N := 12) hx hb hw in_X4 hown hK hP 0 rfl rfl 11 (by decide) (hw _ mq_fl_X4_38) (fun _ h9 => h9) rfl dX4_canGoOn_24 ?_
    refine lv_iload hx hb dX4_canGoOn_27 (lv_at hl 1 rfl) ?_
    refine va_iald hx hb hK hP 9 0 rfl rfl (vp_in_nI (by decide) (by decide)) dX4_canGoOn_29 ?_
    refine lv_topi (fun z9 e9 => ?_)
    obtain rfl : z9 = nI a := e9.trans (by rw [nI_clamp (by decide)]; exact hn0)
    refine lv_istore (lv' := [(6, .int (nI a)), (0, .ref (ad 0)), (4, .int (nI 0)), (5, .int 0)]) hx hb dX4_canGoOn_30 hl (by decide) rfl (fun ls hl => ?_)
    refine lv_iload hx hb dX4_canGoOn_32 (lv_at hl 0 rfl) ?_
    refine lv_aload_n hx hb dX4_canGoOn_34 rfl (lv_at hl 1 rfl) ?_
    refine va_get (D := (dC, dI)) (ci := 4) (v := .int (nI a)) (C := RX4) (T := TX4) (N := 12) hx hb hw in_X4 hown hK hP 0 rfl rfl 1 (by decide) (hw _ mq_fl_X4_45) (fun _ h9 => h9) rfl dX4_canGoOn_35 ?_
    refine lv_icmp_ne (tgt := 47) hx hb dX4_canGoOn_38 (by decide) (fun b9 => absurd (rfl) b9) (fun _ => ?_)
    refine lv_iinc (k := 2) (v := -1) (lv' := [(4, .int (-1)), (6, .int (nI a)), (0, .ref (ad 0)), (5, .int 0)]) hx hb dX4_canGoOn_41 hl rfl (by decide) (by decide) rfl (fun ls hl => ?_)
    refine lv_goto (tgt := 130) hx hb dX4_canGoOn_44 (by decide) ?_
    refine lv_goto (tgt := 13) hx hb dX4_canGoOn_130 (by decide) ?_
    exact ih_13 _ _ _ _ (by omega) ⟨0, -1, 0, _, _, _, _, rfl, Or.inr (Or.inl ⟨rfl, rfl, hG⟩), lv_sub hl [2, 0, 3] rfl, hP, hD, hS⟩
  · obtain ⟨s0, t0, h0, V, e0, em, rfl, rfl, hC, hG⟩ := hD9
    have he0 := df_more (fun e he => (hT2 e he).1) hC
    have hC0 := hC
    obtain ⟨c1, c2, c3, c4, c5, c6, c7, c8, c9, c10, c11, c12⟩ := hC
    have q7 := hT e0
    have z9 : ru_left a V ≤ a := ed_ct_le _ _
    have z8 : s0 ≤ 14 := by omega
    refine lv_iload hx hb dX4_canGoOn_13 (lv_at hl 2 rfl) ?_
    refine lv_if_ne (tgt := 133) hx hb dX4_canGoOn_15 (by decide) (fun b9 => absurd (rfl) b9) (fun _ => ?_)
    refine lv_iload hx hb dX4_canGoOn_18 (lv_at hl 1 rfl) ?_
    refine lv_if_lt (tgt := 133) hx hb dX4_canGoOn_20 (by decide) (fun b9 => absurd b9 (nI_pos (by omega))) (fun _ => ?_)
    refine lv_aload_n hx hb dX4_canGoOn_23 rfl (lv_at hl 0 rfl) ?_
    refine va_get (D := (dC, dI)) (ci := 4) (v := .ref (ad 9)) (C := RX4) (T := TX4) (N := 12) hx hb hw in_X4 hown hK hP 0 rfl rfl 11 (by decide) (hw _ mq_fl_X4_38) (fun _ h9 => h9) rfl dX4_canGoOn_24 ?_
    refine lv_iload hx hb dX4_canGoOn_27 (lv_at hl 1 rfl) ?_
    refine va_iald hx hb hK hP 9 0 rfl rfl (vp_in_nI (by omega) (by decide)) dX4_canGoOn_29 ?_
    refine lv_topi (fun z9 e9 => ?_)
    obtain rfl : z9 = nI e0 := e9.trans (by rw [nI_clamp (by omega)]; exact c4)
    refine lv_istore (lv' := [(6, .int (nI e0)), (0, .ref (ad 0)), (4, .int (nI s0)), (5, .int 0)]) hx hb dX4_canGoOn_30 hl (by decide) rfl (fun ls hl => ?_)
    refine lv_iload hx hb dX4_canGoOn_32 (lv_at hl 0 rfl) ?_
    refine lv_aload_n hx hb dX4_canGoOn_34 rfl (lv_at hl 1 rfl) ?_
    refine va_get (D := (dC, dI)) (ci := 4) (v := .int (nI a)) (C := RX4) (T := TX4) (N := 12) hx hb hw in_X4 hown hK hP 0 rfl rfl 1 (by decide) (hw _ mq_fl_X4_45) (fun _ h9 => h9) rfl dX4_canGoOn_35 ?_
    refine lv_icmp_ne (tgt := 47) hx hb dX4_canGoOn_38 (by decide) (fun _ => ?_) (fun b9 => absurd b9 (fun z => absurd ((nI_eq (by omega) (by omega)).mp z) (by omega)))
    refine lv_aload_n hx hb dX4_canGoOn_47 rfl (lv_at hl 1 rfl) ?_
    refine va_get (D := (dC, dI)) (ci := 4) (v := .ref (ad 9)) (C := RX4) (T := TX4) (N := 12) hx hb hw in_X4 hown hK hP 0 rfl rfl 11 (by decide) (hw _ mq_fl_X4_38) (fun _ h9 => h9) rfl dX4_canGoOn_48 ?_
    refine lv_iload hx hb dX4_canGoOn_51 (lv_at hl 2 rfl) ?_
    refine lv_iload hx hb dX4_canGoOn_53 (lv_at hl 0 rfl) ?_
    refine lv_iconst (v := 1) hx hb dX4_canGoOn_55 (by decide) ?_
    refine lv_iadd hx hb dX4_canGoOn_56 ?_
    refine lv_topi (fun z9 e9 => ?_)
    obtain rfl : z9 = nI (e0 + 1) := e9.trans (nI_1 e0)
    refine va_iast hx hb hK hP hD hS 9 0 rfl rfl (vp_in_nI (by omega) (by decide)) dX4_canGoOn_57 (fun Hp locs hP hD hS => ?_)
    rw [nI_clamp (show s0 < 2 ^ 31 by omega)] at hP hD
    have hP : va_P (dC, dI) classes (mw ad cI n a b T H R O Wy tr1 hd1 us1 (upd nx1 s0 (nI (e0 + 1)))) Hp := hP
    have hD : va_D A (mw ad cI n a b T H R O Wy tr1 hd1 us1 (upd nx1 s0 (nI (e0 + 1)))) := hD
    refine lv_aload_n hx hb dX4_canGoOn_58 rfl (lv_at hl 1 rfl) ?_
    refine lv_aload_n hx hb dX4_canGoOn_59 rfl (lv_at hl 1 rfl) ?_
    refine va_get (D := (dC, dI)) (ci := 4) (v := .ref (ad 7)) (C := RX4) (T := TX4) (N := 12) hx hb hw in_X4 hown hK hP 0 rfl rfl 9 (by decide) (hw _ mq_fl_X4_32) (fun _ h9 => h9) rfl dX4_canGoOn_60 ?_
    refine lv_iload hx hb dX4_canGoOn_63 (lv_at hl 2 rfl) ?_
    refine va_iald hx hb hK hP 7 0 rfl rfl (vp_in_nI (by omega) (by decide)) dX4_canGoOn_65 ?_
    refine lv_topi (fun z9 e9 => ?_)
    obtain rfl : z9 = nI h0 := e9.trans (by rw [nI_clamp (by omega)]; exact c2)
    refine lv_aload_n hx hb dX4_canGoOn_66 rfl (lv_at hl 1 rfl) ?_
    refine va_get (D := (dC, dI)) (ci := 4) (v := .ref (ad 8)) (C := RX4) (T := TX4) (N := 12) hx hb hw in_X4 hown hK hP 0 rfl rfl 10 (by decide) (hw _ mq_fl_X4_35) (fun _ h9 => h9) rfl dX4_canGoOn_67 ?_
    refine lv_iload hx hb dX4_canGoOn_70 (lv_at hl 2 rfl) ?_
    refine va_iald hx hb hK hP 8 0 rfl rfl (vp_in_nI (by omega) (by decide)) dX4_canGoOn_72 ?_
    refine lv_topi (fun z9 e9 => ?_)
    obtain rfl : z9 = nI V := e9.trans (by rw [nI_clamp (by omega)]; exact c3)
    refine lv_iload hx hb dX4_canGoOn_73 (lv_at hl 0 rfl) ?_
    refine ro_V (As := [.int (nI h0), .int (nI V), .int (nI e0)]) (rest := []) (b := ad 0) ⟨hx, hb, hml, hown, hts⟩ (c_X4_grows l dC dI cI ad n a b T H R O Wy tr1 hd1 us1 (upd nx1 s0 (nI (e0 + 1))) h0 V e0 (by omega) (by omega) c11 hT) (cwV 3 hts (bw_V mq_ml_X4_91 mq_im_X4_grows mq_se_X4_grows mq_in_X4 mq_co_X4_grows) rfl rfl rfl (by decide +kernel) ⟨Nat.le_of_ble_eq_true rfl, Nat.le_of_ble_eq_true rfl⟩) hP hK hN 0 rfl rfl rfl hl.1 rfl (Nat.le_of_ble_eq_true rfl) dX4_canGoOn_75 ⟨Nat.zero_le _, Nat.zero_le _⟩ (fun r9 h9 => ?_)
    obtain rfl : r9 = nI (ed_b (ru_gr T H h0 (Nat.testBit V) e0)) := h9
    refine lv_if_eq (tgt := 130) hx hb dX4_canGoOn_78 (by decide) (fun b78 => ?_) (fun b78 => ?_)
    -- ifeq at 78, t
    · have t78 := zb_0.mp b78
      refine lv_goto (tgt := 13) hx hb dX4_canGoOn_130 (by decide) ?_
      exact ih_13 _ _ _ _ (by omega) ⟨0, nI s0, ru_left a V * 64 + 2 * (a - (e0 + 1)) + 2, _, _, _, _, rfl, df_skip hC0 hG he0 t78, lv_sub hl [1, 2, 3] rfl, hP, hD, hS⟩
    -- ifeq at 78, f
    · have t78 := zb_n0.mp b78
      refine lv_aload_n hx hb dX4_canGoOn_81 rfl (lv_at hl 1 rfl) ?_
      refine lv_iload hx hb dX4_canGoOn_82 (lv_at hl 2 rfl) ?_
      refine lv_iconst (v := 1) hx hb dX4_canGoOn_84 (by decide) ?_
      refine lv_iadd hx hb dX4_canGoOn_85 ?_
      refine lv_topi (fun z9 e9 => ?_)
      obtain rfl : z9 = nI (s0 + 1) := e9.trans (nI_1 s0)
      refine lv_aload_n hx hb dX4_canGoOn_86 rfl (lv_at hl 1 rfl) ?_
      refine va_get (D := (dC, dI)) (ci := 4) (v := .ref (ad 6)) (C := RX4) (T := TX4) (N := 12) hx hb hw in_X4 hown hK hP 0 rfl rfl 8 (by decide) (hw _ mq_fl_X4_29) (fun _ h9 => h9) rfl dX4_canGoOn_87 ?_
      refine lv_iload hx hb dX4_canGoOn_90 (lv_at hl 2 rfl) ?_
      refine va_iald hx hb hK hP 6 0 rfl rfl (vp_in_nI (by omega) (by decide)) dX4_canGoOn_92 ?_
      refine lv_topi (fun z9 e9 => ?_)
      obtain rfl : z9 = nI t0 := e9.trans (by rw [nI_clamp (by omega)]; exact c1)
      refine lv_aload_n hx hb dX4_canGoOn_93 rfl (lv_at hl 1 rfl) ?_
      refine va_get (D := (dC, dI)) (ci := 4) (v := .ref (ad 7)) (C := RX4) (T := TX4) (N := 12) hx hb hw in_X4 hown hK hP 0 rfl rfl 9 (by decide) (hw _ mq_fl_X4_32) (fun _ h9 => h9) rfl dX4_canGoOn_94 ?_
      refine lv_iload hx hb dX4_canGoOn_97 (lv_at hl 2 rfl) ?_
      refine va_iald hx hb hK hP 7 0 rfl rfl (vp_in_nI (by omega) (by decide)) dX4_canGoOn_99 ?_
      refine lv_topi (fun z9 e9 => ?_)
      obtain rfl : z9 = nI h0 := e9.trans (by rw [nI_clamp (by omega)]; exact c2)
      refine lv_iconst (v := 1) hx hb dX4_canGoOn_100 (by decide) ?_
      refine lv_aload_n hx hb dX4_canGoOn_101 rfl (lv_at hl 1 rfl) ?_
      refine va_get (D := (dC, dI)) (ci := 4) (v := .ref (ad 2)) (C := RX4) (T := TX4) (N := 12) hx hb hw in_X4 hown hK hP 0 rfl rfl 4 (by decide) (hw _ mq_fl_X4_17) (fun _ h9 => h9) rfl dX4_canGoOn_102 ?_
      refine lv_iload hx hb dX4_canGoOn_105 (lv_at hl 0 rfl) ?_
      refine va_iald hx hb hK hP 2 0 rfl rfl (vp_in_nI (by omega) (by decide)) dX4_canGoOn_107 ?_
      refine lv_topi (fun z9 e9 => ?_)
      obtain rfl : z9 = nI (H e0) := e9.trans (ar_at H (by omega))
      refine lv_ishl hx hb dX4_canGoOn_108 ?_
      refine lv_ior hx hb dX4_canGoOn_109 ?_
      refine lv_topi (fun z9 e9 => ?_)
      obtain rfl : z9 = nI (h0 ||| 2 ^ H e0) := e9.trans (by rw [bi_sh _ (by omega), bi_or])
      refine lv_aload_n hx hb dX4_canGoOn_110 rfl (lv_at hl 1 rfl) ?_
      refine va_get (D := (dC, dI)) (ci := 4) (v := .ref (ad 8)) (C := RX4) (T := TX4) (N := 12) hx hb hw in_X4 hown hK hP 0 rfl rfl 10 (by decide) (hw _ mq_fl_X4_35) (fun _ h9 => h9) rfl dX4_canGoOn_111 ?_
      refine lv_iload hx hb dX4_canGoOn_114 (lv_at hl 2 rfl) ?_
      refine va_iald hx hb hK hP 8 0 rfl rfl (vp_in_nI (by omega) (by decide)) dX4_canGoOn_116 ?_
      refine lv_topi (fun z9 e9 => ?_)
      obtain rfl : z9 = nI V := e9.trans (by rw [nI_clamp (by omega)]; exact c3)
      refine lv_iconst (v := 1) hx hb dX4_canGoOn_117 (by decide) ?_
      refine lv_iload hx hb dX4_canGoOn_118 (lv_at hl 0 rfl) ?_
      refine lv_ishl hx hb dX4_canGoOn_120 ?_
      refine lv_ior hx hb dX4_canGoOn_121 ?_
      refine lv_topi (fun z9 e9 => ?_)
      obtain rfl : z9 = nI (V ||| 2 ^ e0) := e9.trans (by rw [bi_sh _ (by omega), bi_or])
      refine mu_Vi (As := [.int (nI (s0 + 1)), .int (nI t0), .int (nI (h0 ||| 2 ^ H e0)), .int (nI (V ||| 2 ^ e0))]) (rest := []) (b := ad 0) ⟨hx, hb, hml, hown, hts⟩ (c_X4_isDone l dC dI cI ad n a b T H R O Wy tr1 hd1 us1 (upd nx1 s0 (nI (e0 + 1))) _ (s0 + 1) t0 (h0 ||| 2 ^ H e0) (V ||| 2 ^ e0) hI0 (by omega) (by omega) (Nat.or_lt_two_pow c6 (bi_pw (hT2 e0 he0).2)) (df_used c11 (by omega))) (cwV 4 hts (bw_V mq_ml_X4_87 mq_im_X4_isDone mq_se_X4_isDone mq_in_X4 mq_co_X4_isDone) rfl rfl rfl (by decide +kernel) ⟨Nat.le_of_ble_eq_true rfl, Nat.le_of_ble_eq_true rfl⟩) hP hK hN hD hS hA 0 rfl rfl rfl hl.1 rfl (Nat.le_of_ble_eq_true rfl) dX4_canGoOn_122 ⟨Nat.zero_le _, Nat.zero_le _⟩ (fun r9 u9 Hp locs h9 hP hD hS => ?_)
      obtain ⟨⟨tt, hv⟩, rfl⟩ : ∃ z, z = u9 := ⟨_, rfl⟩
      obtain ⟨q1, q2, q3, q4, q5⟩ := h9
      obtain rfl : r9 = nI (ed_b (decide (tt = b))) := q1
      have hP : va_P (dC, dI) classes (mw ad cI n a b T H R O Wy (upd tr1 (s0 + 1) (nI tt)) (upd hd1 (s0 + 1) (nI hv)) (upd us1 (s0 + 1) (nI (V ||| 2 ^ e0))) (upd (upd nx1 s0 (nI (e0 + 1))) (s0 + 1) (nI (nxv a b tt (go n a b T H R tt hv (V ||| 2 ^ e0)))))) Hp := hP
      have hD : va_D A (mw ad cI n a b T H R O Wy (upd tr1 (s0 + 1) (nI tt)) (upd hd1 (s0 + 1) (nI hv)) (upd us1 (s0 + 1) (nI (V ||| 2 ^ e0))) (upd (upd nx1 s0 (nI (e0 + 1))) (s0 + 1) (nI (nxv a b tt (go n a b T H R tt hv (V ||| 2 ^ e0)))))) := hD
      refine lv_istore (lv' := [(5, .int (nI (ed_b (decide (tt = b))))), (6, .int (nI e0)), (0, .ref (ad 0)), (4, .int (nI s0))]) hx hb dX4_canGoOn_125 hl (by decide) rfl (fun ls hl => ?_)
      refine lv_iinc (k := 3) (v := nI (s0 + 1)) (lv' := [(4, .int (nI (s0 + 1))), (5, .int (nI (ed_b (decide (tt = b))))), (6, .int (nI e0)), (0, .ref (ad 0))]) hx hb dX4_canGoOn_127 hl rfl (ii_1 _) (by decide) rfl (fun ls hl => ?_)
      refine lv_goto (tgt := 13) hx hb dX4_canGoOn_130 (by decide) ?_
      obtain ⟨mu1, hlt, hdf1⟩ := df_down hC0 hG he0 a14 t78 q2 q3 q4 q5
      exact ih_13 _ _ _ _ (by omega) ⟨nI (ed_b (decide (tt = b))), nI (s0 + 1), mu1, _, _, _, _, rfl, hdf1, lv_sub hl [3, 0, 1] rfl, hP, hD, hS⟩
  · obtain ⟨s0, t0, h0, V, e0, em, rfl, rfl, hx1, hC, hs14, hG⟩ := hE9
    refine lv_iload hx hb dX4_canGoOn_13 (lv_at hl 2 rfl) ?_
    refine lv_if_ne (tgt := 133) hx hb dX4_canGoOn_15 (by decide) (fun b9 => absurd (rfl) b9) (fun _ => ?_)
    refine lv_iload hx hb dX4_canGoOn_18 (lv_at hl 1 rfl) ?_
    refine lv_if_lt (tgt := 133) hx hb dX4_canGoOn_20 (by decide) (fun b9 => absurd b9 (nI_pos (by omega))) (fun _ => ?_)
    refine lv_aload_n hx hb dX4_canGoOn_23 rfl (lv_at hl 0 rfl) ?_
    refine va_get (D := (dC, dI)) (ci := 4) (v := .ref (ad 9)) (C := RX4) (T := TX4) (N := 12) hx hb hw in_X4 hown hK hP 0 rfl rfl 11 (by decide) (hw _ mq_fl_X4_38) (fun _ h9 => h9) rfl dX4_canGoOn_24 ?_
    refine lv_iload hx hb dX4_canGoOn_27 (lv_at hl 1 rfl) ?_
    refine va_iald hx hb hK hP 9 0 rfl rfl (vp_in_nI (by omega) (by decide)) dX4_canGoOn_29 ?_
    refine lv_topi (fun z9 e9 => ?_)
    obtain rfl : z9 = nI a := e9.trans (by rw [nI_clamp (by omega)]; exact hx1)
    refine lv_istore (lv' := [(6, .int (nI a)), (0, .ref (ad 0)), (4, .int (nI (s0 + 1))), (5, .int 0)]) hx hb dX4_canGoOn_30 hl (by decide) rfl (fun ls hl => ?_)
    refine lv_iload hx hb dX4_canGoOn_32 (lv_at hl 0 rfl) ?_
    refine lv_aload_n hx hb dX4_canGoOn_34 rfl (lv_at hl 1 rfl) ?_
    refine va_get (D := (dC, dI)) (ci := 4) (v := .int (nI a)) (C := RX4) (T := TX4) (N := 12) hx hb hw in_X4 hown hK hP 0 rfl rfl 1 (by decide) (hw _ mq_fl_X4_45) (fun _ h9 => h9) rfl dX4_canGoOn_35 ?_
    refine lv_icmp_ne (tgt := 47) hx hb dX4_canGoOn_38 (by decide) (fun b9 => absurd (rfl) b9) (fun _ => ?_)
    refine lv_iinc (k := 2) (v := nI s0) (lv' := [(4, .int (nI s0)), (6, .int (nI a)), (0, .ref (ad 0)), (5, .int 0)]) hx hb dX4_canGoOn_41 hl rfl (pk_m1 s0) (by decide) rfl (fun ls hl => ?_)
    refine lv_goto (tgt := 130) hx hb dX4_canGoOn_44 (by decide) ?_
    refine lv_goto (tgt := 13) hx hb dX4_canGoOn_130 (by decide) ?_
    exact ih_13 _ _ _ _ (by omega) ⟨0, nI s0, ru_left a V * 64 + 2 * (a - e0) + 2, _, _, _, _, rfl, Or.inr (Or.inr (Or.inr (Or.inl ⟨s0, t0, h0, V, e0, rfl, rfl, rfl, hC, hG⟩))), lv_sub hl [2, 0, 3] rfl, hP, hD, hS⟩
set_option maxHeartbeats 4000000 in
set_option maxRecDepth 100000 in
theorem c_X4_packs (l : Launch) (dC : Nat → ClassId) (dI : Nat → Nat → Nat) (cI : ClassId) (ad : Nat → Nat) (n a b : Nat) (T H R : Nat → Nat) (O Wy tr hd us nx : Nat → Int32) (sz : Nat) (hI : st_I n a T H b R) : Met l yX4_packs (wq yX4_packs cX4_packs 1 (some .boolean)) ({ frames := 5, cells := 0, slots := 0, locals := 123 }) (mu_P (dC, dI) classes [(cI, .int)] (mw ad cI n a b T H R O Wy tr hd us nx) sz [.ref (ad 0)]) (va_Qi (fun (r : Int32) (u : (Nat → Int32) × (Nat → Int32) × (Nat → Int32) × (Nat → Int32)) => r = nI (ed_b (paF n a T H b R))) (mu_B (dC, dI) classes [(cI, .int)] (mw ad cI n a b T H R O Wy tr hd us nx) sz (fun u => mw ad cI n a b T H R O Wy u.1 u.2.1 u.2.2.1 u.2.2.2)) (va_A (mw ad cI n a b T H R O Wy tr hd us nx) sz)) 0 0 (va_A (mw ad cI n a b T H R O Wy tr hd us nx) sz) := by
  have hI0 := hI
  obtain ⟨n1, n7, a14, hT, hT2, hb3, hR3, hR⟩ := hI
  have p7 := bi_p7 n7
  have p0 := Nat.two_pow_pos n
  refine Met.ofW (cc := cX4_packs) (maxL := 1) (ret := (some .boolean)) (by decide) rfl ?_
  intro p e s m args below meth c s₁ B hml hv
  obtain ⟨rfl, hsz, hP, hK, hN, hD0⟩ := hv
  have hx := B.exec
  have hb := B.bytes
  have hr := B.returns
  have hlocks := B.notSynchronized
  have hts := atoms_spec (ws := (wq yX4_packs cX4_packs 1 (some .boolean))) B.pre
  have hw : ∀ w ∈ bigW, w.before _ s = true := fun w h => hts w (List.mem_cons_of_mem _ h)
  have hown : s.vm.findClass RX4 = some m.cls := findClass_of_methodNamed B.named
  subst hsz
  have hD := hD0.self (sz := s.heap.size)
  generalize hAe : va_A (mw ad cI n a b T H R O Wy tr hd us nx) s.heap.size = A at hD ⊢
  have hA : ∀ q : Nat, s.heap.size ≤ q → A q := fun q h => by rw [← hAe]; exact Or.inr h
  have hS : va_S A s.heap s.heap [] := va_S.rf
  have hl := lv_entry ([.ref (ad 0)]) (n := 1) (Nat.le_of_ble_eq_true rfl)
  rw [lg_entry_eq]
  generalize (lg_sl ([.ref (ad 0)]) ++ List.replicate (1 - (lg_sl ([.ref (ad 0)])).length) Slot.unset).toArray = ls at hl ⊢
  have hl : lv_has ls 1 [(0, .ref (ad 0))] := hl
  refine lv_aload_n hx hb dX4_packs_0 rfl (lv_at hl 0 rfl) ?_
  refine lv_iconst (v := nI 0) hx hb dX4_packs_1 (by decide) ?_
  refine lv_aload_n hx hb dX4_packs_2 rfl (lv_at hl 0 rfl) ?_
  refine va_get (D := (dC, dI)) (ci := 4) (v := .int (nI b)) (C := RX4) (T := TX4) (N := 12) hx hb hw in_X4 hown hK hP 0 rfl rfl 2 (by decide) (hw _ mq_fl_X4_56) (fun _ h9 => h9) rfl dX4_packs_3 ?_
  refine lv_if_le (tgt := 18) hx hb dX4_packs_6 (by decide) (fun b6 => ?_) (fun b6 => ?_)
  -- ifle at 6, t
  · have t6 : b = 0 := by
      have z := (nI_leI (b := 0) (by omega) (by decide)).mp b6
      omega
    refine lv_iconst (v := nI 0) hx hb dX4_packs_18 (by decide) ?_
    refine lv_iconst (v := nI 0) hx hb dX4_packs_19 (by decide) ?_
    refine mu_Vi (As := [.int (nI 0), .int (nI 0), .int (nI 0)]) (rest := []) (b := ad 0) ⟨hx, hb, hml, hown, hts⟩ (c_X4_canGoOn l dC dI cI ad n a b T H R O Wy tr hd us nx _ 0 0 0 hI0 (by omega) p0 (by decide)) (cwV 3 hts (bw_V mq_ml_X4_94 mq_im_X4_canGoOn mq_se_X4_canGoOn mq_in_X4 mq_co_X4_canGoOn) rfl rfl rfl (by decide +kernel) ⟨Nat.le_of_ble_eq_true rfl, Nat.le_of_ble_eq_true rfl⟩) hP hK hN hD hS hA 0 rfl rfl rfl hl.1 rfl (Nat.le_of_ble_eq_true rfl) dX4_packs_20 ⟨Nat.zero_le _, Nat.zero_le _⟩ (fun r9 u9 Hp locs h9 hP hD hS => ?_)
    obtain ⟨⟨tr1, hd1, us1, nx1⟩, rfl⟩ : ∃ z, z = u9 := ⟨_, rfl⟩
    obtain rfl : r9 = nI (ed_b (paF n a T H b R)) := h9.trans (by rw [go_pa0 t6])
    have hP : va_P (dC, dI) classes (mw ad cI n a b T H R O Wy tr1 hd1 us1 nx1) Hp := hP
    have hD : va_D A (mw ad cI n a b T H R O Wy tr1 hd1 us1 nx1) := hD
    exact W.zret (v := nI (ed_b (paF n a T H b R))) hx hb hr (zb_n _) (fun t ht hW => ⟨⟨_, (tr1, hd1, us1, nx1), rfl, rfl, by rw [ht]; exact hP, va_K.moved hW.alike hK, by rw [hAe]; exact hD⟩, hS.F ht⟩) hS.2.2 dX4_packs_23
  -- ifle at 6, f
  · have t6 : 0 < b := Nat.pos_of_ne_zero (fun z => b6 (by rw [z]; decide))
    refine lv_aload_n hx hb dX4_packs_9 rfl (lv_at hl 0 rfl) ?_
    refine va_get (D := (dC, dI)) (ci := 4) (v := .ref (ad 3)) (C := RX4) (T := TX4) (N := 12) hx hb hw in_X4 hown hK hP 0 rfl rfl 5 (by decide) (hw _ mq_fl_X4_20) (fun _ h9 => h9) rfl dX4_packs_10 ?_
    refine lv_iconst (v := nI 0) hx hb dX4_packs_13 (by decide) ?_
    refine va_iald hx hb hK hP 3 0 rfl rfl (vp_in_nI (by decide) (by decide)) dX4_packs_14 ?_
    refine lv_topi (fun z9 e9 => ?_)
    obtain rfl : z9 = nI (R 0) := e9.trans (ar_at R (by decide))
    refine lv_goto (tgt := 19) hx hb dX4_packs_15 (by decide) ?_
    refine lv_iconst (v := nI 0) hx hb dX4_packs_19 (by decide) ?_
    refine mu_Vi (As := [.int (nI 0), .int (nI (R 0)), .int (nI 0)]) (rest := []) (b := ad 0) ⟨hx, hb, hml, hown, hts⟩ (c_X4_canGoOn l dC dI cI ad n a b T H R O Wy tr hd us nx _ 0 (R 0) 0 hI0 (by omega) (hR3 0 t6).2 (by decide)) (cwV 3 hts (bw_V mq_ml_X4_94 mq_im_X4_canGoOn mq_se_X4_canGoOn mq_in_X4 mq_co_X4_canGoOn) rfl rfl rfl (by decide +kernel) ⟨Nat.le_of_ble_eq_true rfl, Nat.le_of_ble_eq_true rfl⟩) hP hK hN hD hS hA 0 rfl rfl rfl hl.1 rfl (Nat.le_of_ble_eq_true rfl) dX4_packs_20 ⟨Nat.zero_le _, Nat.zero_le _⟩ (fun r9 u9 Hp locs h9 hP hD hS => ?_)
    obtain ⟨⟨tr1, hd1, us1, nx1⟩, rfl⟩ : ∃ z, z = u9 := ⟨_, rfl⟩
    obtain rfl : r9 = nI (ed_b (paF n a T H b R)) := h9.trans (by rw [go_pa t6])
    have hP : va_P (dC, dI) classes (mw ad cI n a b T H R O Wy tr1 hd1 us1 nx1) Hp := hP
    have hD : va_D A (mw ad cI n a b T H R O Wy tr1 hd1 us1 nx1) := hD
    exact W.zret (v := nI (ed_b (paF n a T H b R))) hx hb hr (zb_n _) (fun t ht hW => ⟨⟨_, (tr1, hd1, us1, nx1), rfl, rfl, by rw [ht]; exact hP, va_K.moved hW.alike hK, by rw [hAe]; exact hD⟩, hS.F ht⟩) hS.2.2 dX4_packs_23
set_option maxHeartbeats 4000000 in
set_option maxRecDepth 100000 in
theorem c_X4_pack (l : Launch) (dC : Nat → ClassId) (dI : Nat → Nat → Nat) (cI : ClassId) (ad : Nat → Nat) (n a b : Nat) (T H R : Nat → Nat) (O Wy tr hd us nx : Nat → Int32) (sz : Nat) (hI : st_I n a T H b R) : Met l yX4_pack (wq yX4_pack cX4_pack 5 (some .boolean)) ({ frames := 6, cells := 0, slots := 0, locals := 143 }) (mu_P (dC, dI) classes [(cI, .int)] (mw ad cI n a b T H R O Wy tr hd us nx) sz [.ref (ad 0)]) (va_Qi (fun (r : Int32) (u : (Nat → Int32) × (Nat → Int32) × (Nat → Int32) × (Nat → Int32) × (Nat → Int32) × (Nat → Int32)) => r = nI (ed_b (paF n a T H b R)) ∧ (paF n a T H b R = true → (∀ j, j < 14 → u.1 j = pg_all n a b T H R j) ∧ wy_ok a H (pg_all n a b T H R) u.2.1)) (mu_B (dC, dI) classes [(cI, .int)] (mw ad cI n a b T H R O Wy tr hd us nx) sz (fun u => mw ad cI n a b T H R u.1 u.2.1 u.2.2.1 u.2.2.2.1 u.2.2.2.2.1 u.2.2.2.2.2)) (va_A (mw ad cI n a b T H R O Wy tr hd us nx) sz)) 0 0 (va_A (mw ad cI n a b T H R O Wy tr hd us nx) sz) := by
  have hI0 := hI
  obtain ⟨n1, n7, a14, hT, hT2, hb3, hR3, hR⟩ := hI
  have p7 := bi_p7 n7
  have p0 := Nat.two_pow_pos n
  refine Met.ofW (cc := cX4_pack) (maxL := 5) (ret := (some .boolean)) (by decide) rfl ?_
  intro p e s m args below meth c s₁ B hml hv
  obtain ⟨rfl, hsz, hP, hK, hN, hD0⟩ := hv
  have hx := B.exec
  have hb := B.bytes
  have hr := B.returns
  have hlocks := B.notSynchronized
  have hts := atoms_spec (ws := (wq yX4_pack cX4_pack 5 (some .boolean))) B.pre
  have hw : ∀ w ∈ bigW, w.before _ s = true := fun w h => hts w (List.mem_cons_of_mem _ h)
  have hown : s.vm.findClass RX4 = some m.cls := findClass_of_methodNamed B.named
  subst hsz
  have hD := hD0.self (sz := s.heap.size)
  generalize hAe : va_A (mw ad cI n a b T H R O Wy tr hd us nx) s.heap.size = A at hD ⊢
  have hA : ∀ q : Nat, s.heap.size ≤ q → A q := fun q h => by rw [← hAe]; exact Or.inr h
  have hS : va_S A s.heap s.heap [] := va_S.rf
  have hl := lv_entry ([.ref (ad 0)]) (n := 5) (Nat.le_of_ble_eq_true rfl)
  rw [lg_entry_eq]
  generalize (lg_sl ([.ref (ad 0)]) ++ List.replicate (5 - (lg_sl ([.ref (ad 0)])).length) Slot.unset).toArray = ls at hl ⊢
  have hl : lv_has ls 5 [(0, .ref (ad 0))] := hl
  refine lv_iconst (v := nI 0) hx hb dX4_pack_0 (by decide) ?_
  refine lv_istore_n (lv' := [(1, .int (nI 0)), (0, .ref (ad 0))]) hx hb dX4_pack_1 rfl hl (by decide) rfl (fun ls hl => ?_)
  refine wl_loopH (fun k9 Hp locs ls => ∃ (i : Nat) (O1 : Nat → Int32), 14 - i = k9 ∧ (i ≤ 14) ∧ (∀ j, j < i → O1 j = -1) ∧ lv_has ls 5 [(0, .ref (ad 0)), (1, .int (nI i))] ∧ va_P (dC, dI) classes (mw ad cI n a b T H R O1 Wy tr hd us nx) Hp ∧ va_D A (mw ad cI n a b T H R O1 Wy tr hd us nx) ∧ va_S A s.heap Hp locs) ?_ _ ⟨0, O, rfl, by omega, fun j hj => by omega, lv_sub hl [1, 0] rfl, hP, hD, hS⟩
  clear hP hD hS hl
  intro k9 Hp locs ls ih9 h9
  obtain ⟨i, O1, k9e, hi, hO, hl, hP, hD, hS⟩ := h9
  have ih_2 := ih9
  clear ih9
  subst k9e
  refine lv_iload_n hx hb dX4_pack_2 rfl (lv_at hl 1 rfl) ?_
  refine lv_bipush (v := nI 14) hx hb dX4_pack_3 (by decide) ?_
  refine lv_icmp_ge (tgt := 21) hx hb dX4_pack_5 (by decide) (fun b5 => ?_) (fun b5 => ?_)
  -- if_icmpge at 5, t
  · have t5 := (nI_leI (by omega) (by omega)).mp b5
    have hP : va_P (dC, dI) classes (mw ad cI n a b T H R (fun _ => -1) Wy tr hd us nx) Hp := mw_O (fun j hj => hO j (by omega)) hP
    have hD : va_D A (mw ad cI n a b T H R (fun _ => -1) Wy tr hd us nx) := mw_D hD
    refine lv_iconst (v := nI 0) hx hb dX4_pack_21 (by decide) ?_
    refine lv_istore_n (lv' := [(1, .int (nI 0)), (0, .ref (ad 0))]) hx hb dX4_pack_22 rfl hl (by decide) rfl (fun ls hl => ?_)
    refine wl_loopH (fun k9 Hp locs ls => ∃ (i : Nat) (W1 : Nat → Int32), 21 - i = k9 ∧ (i ≤ 21) ∧ (∀ j, j < i → W1 j = -1) ∧ lv_has ls 5 [(0, .ref (ad 0)), (1, .int (nI i))] ∧ va_P (dC, dI) classes (mw ad cI n a b T H R (fun _ => -1) W1 tr hd us nx) Hp ∧ va_D A (mw ad cI n a b T H R (fun _ => -1) W1 tr hd us nx) ∧ va_S A s.heap Hp locs) ?_ _ ⟨0, Wy, rfl, by omega, fun j hj => by omega, lv_sub hl [1, 0] rfl, hP, hD, hS⟩
    clear hP hD hS hl
    intro k9 Hp locs ls ih9 h9
    obtain ⟨i, W1, k9e, hi, hW, hl, hP, hD, hS⟩ := h9
    have ih_23 := ih9
    clear ih9
    subst k9e
    refine lv_iload_n hx hb dX4_pack_23 rfl (lv_at hl 1 rfl) ?_
    refine lv_bipush (v := nI 21) hx hb dX4_pack_24 (by decide) ?_
    refine lv_icmp_ge (tgt := 42) hx hb dX4_pack_26 (by decide) (fun b26 => ?_) (fun b26 => ?_)
    -- if_icmpge at 26, t
    · have t26 := (nI_leI (by omega) (by omega)).mp b26
      refine lv_aload_n hx hb dX4_pack_42 rfl (lv_at hl 0 rfl) ?_
      refine mu_Vi (As := []) (rest := []) (b := ad 0) ⟨hx, hb, hml, hown, hts⟩ (c_X4_packs l dC dI cI ad n a b T H R (fun _ => -1) W1 tr hd us nx _ hI0) (cwV 0 hts (bw_V mq_ml_X4_97 mq_im_X4_packs mq_se_X4_packs mq_in_X4 mq_co_X4_packs) rfl rfl rfl (by decide +kernel) ⟨Nat.le_of_ble_eq_true rfl, Nat.le_of_ble_eq_true rfl⟩) hP hK hN hD hS hA 0 rfl rfl rfl hl.1 rfl (Nat.le_of_ble_eq_true rfl) dX4_pack_43 ⟨Nat.zero_le _, Nat.zero_le _⟩ (fun r9 u9 Hp locs h9 hP hD hS => ?_)
      obtain ⟨⟨tr5, hd5, us5, nx5⟩, rfl⟩ : ∃ z, z = u9 := ⟨_, rfl⟩
      obtain rfl : r9 = nI (ed_b (paF n a T H b R)) := h9
      have hP : va_P (dC, dI) classes (mw ad cI n a b T H R (fun _ => -1) W1 tr5 hd5 us5 nx5) Hp := hP
      have hD : va_D A (mw ad cI n a b T H R (fun _ => -1) W1 tr5 hd5 us5 nx5) := hD
      refine lv_if_ne (tgt := 51) hx hb dX4_pack_46 (by decide) (fun b46 => ?_) (fun b46 => ?_)
      -- ifne at 46, t
      · have t46 := zb_n0.mp b46
        refine lv_iconst (v := nI 0) hx hb dX4_pack_51 (by decide) ?_
        refine lv_istore_n (lv' := [(1, .int (nI 0)), (0, .ref (ad 0))]) hx hb dX4_pack_52 rfl hl (by decide) rfl (fun ls hl => ?_)
        refine lv_iconst (v := nI 0) hx hb dX4_pack_53 (by decide) ?_
        refine lv_istore_n (lv' := [(2, .int (nI 0)), (1, .int (nI 0)), (0, .ref (ad 0))]) hx hb dX4_pack_54 rfl hl (by decide) rfl (fun ls hl => ?_)
        have hPI0 : pg_I n a b T H R 0 (pg_O n a b T H R 0) := ⟨fun z => by rw [show ow_u (pg_O n a b T H R 0) = fun _ => false from ow_m1]; exact ru_ok_iff.mp ((pa_ok z).symm.trans t46), fun e => Or.inl rfl⟩
        refine wl_loopH (fun k9 Hp locs ls => ∃ (k : Nat) (U2 : Nat) (W2 : Nat → Int32) (tr2 : Nat → Int32) (hd2 : Nat → Int32) (us2 : Nat → Int32) (nx2 : Nat → Int32), b - k = k9 ∧ (k ≤ b) ∧ (pg_I n a b T H R k (pg_O n a b T H R k)) ∧ (Nat.testBit U2 = ow_u (pg_O n a b T H R k)) ∧ (U2 < 2 ^ 14) ∧ (wy_ok a H (pg_O n a b T H R k) W2) ∧ lv_has ls 5 [(0, .ref (ad 0)), (1, .int (nI U2)), (2, .int (nI k))] ∧ va_P (dC, dI) classes (mw ad cI n a b T H R (pg_O n a b T H R k) W2 tr2 hd2 us2 nx2) Hp ∧ va_D A (mw ad cI n a b T H R (pg_O n a b T H R k) W2 tr2 hd2 us2 nx2) ∧ va_S A s.heap Hp locs) ?_ _ ⟨0, 0, W1, _, _, _, _, rfl, by omega, hPI0, tb_0.trans ow_m1.symm, by decide, wy_0 (fun e he => rfl) (fun j hj => hW j (by omega)), lv_sub hl [2, 1, 0] rfl, hP, hD, hS⟩
        clear hP hD hS hl
        intro k9 Hp locs ls ih9 h9
        obtain ⟨k, U2, W2, tr2, hd2, us2, nx2, k9e, hk, hPI, hU2, hU24, hW2, hl, hP, hD, hS⟩ := h9
        have ih_55 := ih9
        clear ih9
        subst k9e
        refine lv_iload_n hx hb dX4_pack_55 rfl (lv_at hl 2 rfl) ?_
        refine lv_aload_n hx hb dX4_pack_56 rfl (lv_at hl 0 rfl) ?_
        refine va_get (D := (dC, dI)) (ci := 4) (v := .int (nI b)) (C := RX4) (T := TX4) (N := 12) hx hb hw in_X4 hown hK hP 0 rfl rfl 2 (by decide) (hw _ mq_fl_X4_56) (fun _ h9 => h9) rfl dX4_pack_57 ?_
        refine lv_icmp_ge (tgt := 178) hx hb dX4_pack_60 (by decide) (fun b60 => ?_) (fun b60 => ?_)
        -- if_icmpge at 60, t
        · have t60 := (nI_leI (by omega) (by omega)).mp b60
          refine lv_iconst (v := 1) hx hb dX4_pack_178 (by decide) ?_
          have e60 : k = b := by omega
          rw [e60] at hW2 hP hD
          exact W.zret (v := 1) hx hb hr rfl (fun t ht hW => ⟨⟨_, (pg_O n a b T H R b, W2, tr2, hd2, us2, nx2), rfl, ⟨zb_T t46, fun _ => ⟨fun j _ => by rw [pg_yes t46], by rw [pg_yes t46]; exact hW2⟩⟩, by rw [ht]; exact hP, va_K.moved hW.alike hK, by rw [hAe]; exact hD⟩, hS.F ht⟩) hS.2.2 dX4_pack_179
        -- if_icmpge at 60, f
        · have t60 : k < b := Nat.lt_of_not_le (fun z => b60 (nI_le z (by omega)))
          refine lv_aload_n hx hb dX4_pack_63 rfl (lv_at hl 0 rfl) ?_
          refine va_get (D := (dC, dI)) (ci := 4) (v := .ref (ad 3)) (C := RX4) (T := TX4) (N := 12) hx hb hw in_X4 hown hK hP 0 rfl rfl 5 (by decide) (hw _ mq_fl_X4_20) (fun _ h9 => h9) rfl dX4_pack_64 ?_
          refine lv_iload_n hx hb dX4_pack_67 rfl (lv_at hl 2 rfl) ?_
          refine va_iald hx hb hK hP 3 0 rfl rfl (vp_in_nI (by omega) (by decide)) dX4_pack_68 ?_
          refine lv_topi (fun z9 e9 => ?_)
          obtain rfl : z9 = nI (R k) := e9.trans (ar_at R (by omega))
          refine lv_istore_n (lv' := [(3, .int (nI (R k))), (0, .ref (ad 0)), (1, .int (nI U2)), (2, .int (nI k))]) hx hb dX4_pack_69 rfl hl (by decide) rfl (fun ls hl => ?_)
          have hI1 := pg_start hR3 hb3 t60 hPI
          refine wl_loopH (fun k9 Hp locs ls => ∃ (i : Nat) (U3 : Nat) (W3 : Nat → Int32) (tr3 : Nat → Int32) (hd3 : Nat → Int32) (us3 : Nat → Int32) (nx3 : Nat → Int32), ru_left n (ru_it n a b T H R k i (R k, pg_O n a b T H R k)).1 = k9 ∧ (Nat.testBit U3 = ow_u (ru_it n a b T H R k i (R k, pg_O n a b T H R k)).2) ∧ (U3 < 2 ^ 14) ∧ (wy_ok a H (ru_it n a b T H R k i (R k, pg_O n a b T H R k)).2 W3) ∧ lv_has ls 5 [(0, .ref (ad 0)), (1, .int (nI U3)), (2, .int (nI k)), (3, .int (nI (ru_it n a b T H R k i (R k, pg_O n a b T H R k)).1))] ∧ va_P (dC, dI) classes (mw ad cI n a b T H R ((ru_it n a b T H R k i (R k, pg_O n a b T H R k)).2) W3 tr3 hd3 us3 nx3) Hp ∧ va_D A (mw ad cI n a b T H R ((ru_it n a b T H R k i (R k, pg_O n a b T H R k)).2) W3 tr3 hd3 us3 nx3) ∧ va_S A s.heap Hp locs) ?_ _ ⟨0, U2, W2, _, _, _, _, rfl, hU2, hU24, hW2, lv_sub hl [1, 2, 3, 0] rfl, hP, hD, hS⟩
          clear hP hD hS hl
          intro k9 Hp locs ls ih9 h9
          obtain ⟨i, U3, W3, tr3, hd3, us3, nx3, k9e, hU3, hU34, hW3, hl, hP, hD, hS⟩ := h9
          have ih_70 := ih9
          clear ih9
          subst k9e
          obtain ⟨I1, I2, I3, I4, I5⟩ := ru_I_it hT2 (by omega : k < 3) hI1 i
          refine lv_iload_n hx hb dX4_pack_70 rfl (lv_at hl 3 rfl) ?_
          refine lv_aload_n hx hb dX4_pack_71 rfl (lv_at hl 0 rfl) ?_
          refine ro_V (As := []) (rest := [.int (nI (ru_it n a b T H R k i (R k, pg_O n a b T H R k)).1)]) (b := ad 0) ⟨hx, hb, hml, hown, hts⟩ (c_X4_all l dC dI cI ad n a b T H R ((ru_it n a b T H R k i (R k, pg_O n a b T H R k)).2) W3 tr3 hd3 us3 nx3 n7) (cwV 0 hts (bw_V mq_ml_X4_41 mq_im_X4_all mq_se_X4_all mq_in_X4 mq_co_X4_all) rfl rfl rfl (by decide +kernel) ⟨Nat.le_of_ble_eq_true rfl, Nat.le_of_ble_eq_true rfl⟩) hP hK hN 0 rfl rfl rfl hl.1 rfl (Nat.le_of_ble_eq_true rfl) dX4_pack_72 ⟨Nat.zero_le _, Nat.zero_le _⟩ (fun r9 h9 => ?_)
          obtain rfl : r9 = nI (2 ^ n - 1) := h9
          refine lv_icmp_eq (tgt := 172) hx hb dX4_pack_75 (by decide) (fun b75 => ?_) (fun b75 => ?_)
          -- if_icmpeq at 75, t
          · have hf : (ru_it n a b T H R k i (R k, pg_O n a b T H R k)).1 = 2 ^ n - 1 := (nI_eq (by omega) (by omega)).mp b75
            refine lv_iinc (k := 2) (v := nI (k + 1)) (lv' := [(2, .int (nI (k + 1))), (0, .ref (ad 0)), (1, .int (nI U3)), (3, .int (nI (ru_it n a b T H R k i (R k, pg_O n a b T H R k)).1))]) hx hb dX4_pack_172 hl rfl (ii_1 _) (by decide) rfl (fun ls hl => ?_)
            refine lv_goto (tgt := 55) hx hb dX4_pack_175 (by decide) ?_
            have e8 := ru_it_two hf (ru_it_all hT2 (by omega : k < 3) hI1)
            rw [e8] at hP hD hU3 hW3
            exact ih_55 _ _ _ _ (by omega) ⟨k + 1, U3, W3, _, _, _, _, rfl, by omega, pg_step hT2 hR3 hb3 t60 hPI, hU3, hU34, hW3, lv_sub hl [1, 2, 0] rfl, hP, hD, hS⟩
          -- if_icmpeq at 75, f
          · have hf : ¬ (ru_it n a b T H R k i (R k, pg_O n a b T H R k)).1 = 2 ^ n - 1 := fun z => b75 (by rw [z])
            obtain ⟨p1, p2, p3, p4⟩ := ru_pick_at I1 (fun e he => (hT2 e he).1) I2 hf
            obtain ⟨j, hj⟩ : ∃ j, j = ru_pick n a b T H R k (ru_it n a b T H R k i (R k, pg_O n a b T H R k)).1 (ow_u (ru_it n a b T H R k i (R k, pg_O n a b T H R k)).2) := ⟨_, rfl⟩
            rw [← hj] at p1 p2 p3 p4
            have hgj : ru_good n a b T H R k (ru_it n a b T H R k i (R k, pg_O n a b T H R k)).1 (ow_u (ru_it n a b T H R k i (R k, pg_O n a b T H R k)).2) j = true := by rw [ru_good, p2, ru_ok_iff.mpr p3]; rfl
            refine lv_iconst (v := nI 0) hx hb dX4_pack_78 (by decide) ?_
            refine lv_istore (lv' := [(4, .int (nI 0)), (0, .ref (ad 0)), (1, .int (nI U3)), (2, .int (nI k)), (3, .int (nI (ru_it n a b T H R k i (R k, pg_O n a b T H R k)).1))]) hx hb dX4_pack_79 hl (by decide) rfl (fun ls hl => ?_)
            refine wl_loopH (fun k9 Hp locs ls => ∃ (e0 : Nat) (tr4 : Nat → Int32) (hd4 : Nat → Int32) (us4 : Nat → Int32) (nx4 : Nat → Int32), a - e0 = k9 ∧ (e0 ≤ j) ∧ lv_has ls 5 [(0, .ref (ad 0)), (1, .int (nI U3)), (2, .int (nI k)), (3, .int (nI (ru_it n a b T H R k i (R k, pg_O n a b T H R k)).1)), (4, .int (nI e0))] ∧ va_P (dC, dI) classes (mw ad cI n a b T H R ((ru_it n a b T H R k i (R k, pg_O n a b T H R k)).2) W3 tr4 hd4 us4 nx4) Hp ∧ va_D A (mw ad cI n a b T H R ((ru_it n a b T H R k i (R k, pg_O n a b T H R k)).2) W3 tr4 hd4 us4 nx4) ∧ va_S A s.heap Hp locs) ?_ _ ⟨0, _, _, _, _, rfl, by omega, lv_sub hl [1, 2, 3, 4, 0] rfl, hP, hD, hS⟩
            clear hP hD hS hl
            intro k9 Hp locs ls ih9 h9
            obtain ⟨e0, tr4, hd4, us4, nx4, k9e, he, hl, hP, hD, hS⟩ := h9
            have ih_81 := ih9
            clear ih9
            subst k9e
            have q7 := hT e0
            refine lv_aload_n hx hb dX4_pack_81 rfl (lv_at hl 0 rfl) ?_
            refine lv_iload_n hx hb dX4_pack_82 rfl (lv_at hl 3 rfl) ?_
            refine lv_iload_n hx hb dX4_pack_83 rfl (lv_at hl 1 rfl) ?_
            refine lv_iload hx hb dX4_pack_84 (lv_at hl 4 rfl) ?_
            refine ro_V (As := [.int (nI (ru_it n a b T H R k i (R k, pg_O n a b T H R k)).1), .int (nI U3), .int (nI e0)]) (rest := []) (b := ad 0) ⟨hx, hb, hml, hown, hts⟩ (c_X4_grows l dC dI cI ad n a b T H R ((ru_it n a b T H R k i (R k, pg_O n a b T H R k)).2) W3 tr4 hd4 us4 nx4 (ru_it n a b T H R k i (R k, pg_O n a b T H R k)).1 U3 e0 (by omega) (by omega) hU34 hT) (cwV 3 hts (bw_V mq_ml_X4_91 mq_im_X4_grows mq_se_X4_grows mq_in_X4 mq_co_X4_grows) rfl rfl rfl (by decide +kernel) ⟨Nat.le_of_ble_eq_true rfl, Nat.le_of_ble_eq_true rfl⟩) hP hK hN 0 rfl rfl rfl hl.1 rfl (Nat.le_of_ble_eq_true rfl) dX4_pack_86 ⟨Nat.zero_le _, Nat.zero_le _⟩ (fun r9 h9 => ?_)
            obtain rfl : r9 = nI (ed_b (ru_gr T H (ru_it n a b T H R k i (R k, pg_O n a b T H R k)).1 (Nat.testBit U3) e0)) := h9
            refine lv_if_eq (tgt := 117) hx hb dX4_pack_89 (by decide) (fun b89 => ?_) (fun b89 => ?_)
            -- ifeq at 89, t
            · have t89 := zb_0.mp b89
              refine lv_iinc (k := 4) (v := nI (e0 + 1)) (lv' := [(4, .int (nI (e0 + 1))), (0, .ref (ad 0)), (1, .int (nI U3)), (2, .int (nI k)), (3, .int (nI (ru_it n a b T H R k i (R k, pg_O n a b T H R k)).1))]) hx hb dX4_pack_117 hl rfl (ii_1 _) (by decide) rfl (fun ls hl => ?_)
              refine lv_goto (tgt := 81) hx hb dX4_pack_120 (by decide) ?_
              have g9 : ru_good n a b T H R k (ru_it n a b T H R k i (R k, pg_O n a b T H R k)).1 (ow_u (ru_it n a b T H R k i (R k, pg_O n a b T H R k)).2) e0 = false := by rw [← hU3, ru_good, t89, Bool.false_and]
              have ne9 : e0 ≠ j := fun z => by rw [z, hgj] at g9; cases g9
              exact ih_81 _ _ _ _ (by omega) ⟨e0 + 1, _, _, _, _, rfl, by omega, lv_sub hl [1, 2, 3, 4, 0] rfl, hP, hD, hS⟩
            -- ifeq at 89, f
            · have t89 := zb_n0.mp b89
              refine lv_aload_n hx hb dX4_pack_92 rfl (lv_at hl 0 rfl) ?_
              refine lv_iload_n hx hb dX4_pack_93 rfl (lv_at hl 2 rfl) ?_
              refine lv_iload_n hx hb dX4_pack_94 rfl (lv_at hl 3 rfl) ?_
              refine lv_iconst (v := 1) hx hb dX4_pack_95 (by decide) ?_
              refine lv_aload_n hx hb dX4_pack_96 rfl (lv_at hl 0 rfl) ?_
              refine va_get (D := (dC, dI)) (ci := 4) (v := .ref (ad 2)) (C := RX4) (T := TX4) (N := 12) hx hb hw in_X4 hown hK hP 0 rfl rfl 4 (by decide) (hw _ mq_fl_X4_17) (fun _ h9 => h9) rfl dX4_pack_97 ?_
              refine lv_iload hx hb dX4_pack_100 (lv_at hl 4 rfl) ?_
              refine va_iald hx hb hK hP 2 0 rfl rfl (vp_in_nI (by omega) (by decide)) dX4_pack_102 ?_
              refine lv_topi (fun z9 e9 => ?_)
              obtain rfl : z9 = nI (H e0) := e9.trans (ar_at H (by omega))
              refine lv_ishl hx hb dX4_pack_103 ?_
              refine lv_ior hx hb dX4_pack_104 ?_
              refine lv_topi (fun z9 e9 => ?_)
              obtain rfl : z9 = nI ((ru_it n a b T H R k i (R k, pg_O n a b T H R k)).1 ||| 2 ^ H e0) := e9.trans (by rw [bi_sh _ (by omega), bi_or])
              refine lv_iload_n hx hb dX4_pack_105 rfl (lv_at hl 1 rfl) ?_
              refine lv_iconst (v := 1) hx hb dX4_pack_106 (by decide) ?_
              refine lv_iload hx hb dX4_pack_107 (lv_at hl 4 rfl) ?_
              refine lv_ishl hx hb dX4_pack_109 ?_
              refine lv_ior hx hb dX4_pack_110 ?_
              refine lv_topi (fun z9 e9 => ?_)
              obtain rfl : z9 = nI (U3 ||| 2 ^ e0) := e9.trans (by rw [bi_sh _ (by omega), bi_or])
              refine mu_Vi (As := [.int (nI k), .int (nI ((ru_it n a b T H R k i (R k, pg_O n a b T H R k)).1 ||| 2 ^ H e0)), .int (nI (U3 ||| 2 ^ e0))]) (rest := []) (b := ad 0) ⟨hx, hb, hml, hown, hts⟩ (c_X4_canGoOn l dC dI cI ad n a b T H R ((ru_it n a b T H R k i (R k, pg_O n a b T H R k)).2) W3 tr4 hd4 us4 nx4 _ k ((ru_it n a b T H R k i (R k, pg_O n a b T H R k)).1 ||| 2 ^ H e0) (U3 ||| 2 ^ e0) hI0 (by omega) (Nat.or_lt_two_pow I2 (bi_pw (hT2 e0 (by omega)).2)) (df_used hU34 (by omega))) (cwV 3 hts (bw_V mq_ml_X4_94 mq_im_X4_canGoOn mq_se_X4_canGoOn mq_in_X4 mq_co_X4_canGoOn) rfl rfl rfl (by decide +kernel) ⟨Nat.le_of_ble_eq_true rfl, Nat.le_of_ble_eq_true rfl⟩) hP hK hN hD hS hA 0 rfl rfl rfl hl.1 rfl (Nat.le_of_ble_eq_true rfl) dX4_pack_111 ⟨Nat.zero_le _, Nat.zero_le _⟩ (fun r9 u9 Hp locs h9 hP hD hS => ?_)
              obtain ⟨⟨tr6, hd6, us6, nx6⟩, rfl⟩ : ∃ z, z = u9 := ⟨_, rfl⟩
              obtain rfl : r9 = nI (ed_b (go n a b T H R k ((ru_it n a b T H R k i (R k, pg_O n a b T H R k)).1 ||| 2 ^ H e0) (U3 ||| 2 ^ e0))) := h9
              have hP : va_P (dC, dI) classes (mw ad cI n a b T H R ((ru_it n a b T H R k i (R k, pg_O n a b T H R k)).2) W3 tr6 hd6 us6 nx6) Hp := hP
              have hD : va_D A (mw ad cI n a b T H R ((ru_it n a b T H R k i (R k, pg_O n a b T H R k)).2) W3 tr6 hd6 us6 nx6) := hD
              refine lv_if_ne (tgt := 123) hx hb dX4_pack_114 (by decide) (fun b114 => ?_) (fun b114 => ?_)
              -- ifne at 114, t
              · have t114 := zb_n0.mp b114
                have g9 : ru_good n a b T H R k (ru_it n a b T H R k i (R k, pg_O n a b T H R k)).1 (ow_u (ru_it n a b T H R k i (R k, pg_O n a b T H R k)).2) e0 = true := by rw [← hU3, go_good t60, t89, t114]; rfl
                have ej : j = e0 := by
                  rcases Nat.lt_or_ge e0 j with z | z
                  · rw [p4 e0 z] at g9
                    cases g9
                  · omega
                rw [ej] at hj p1 p2 p3 p4
                refine lv_aload_n hx hb dX4_pack_123 rfl (lv_at hl 0 rfl) ?_
                refine va_get (D := (dC, dI)) (ci := 4) (v := .ref (ad 4)) (C := RX4) (T := TX4) (N := 12) hx hb hw in_X4 hown hK hP 0 rfl rfl 6 (by decide) (hw _ mq_fl_X4_23) (fun _ h9 => h9) rfl dX4_pack_124 ?_
                refine lv_iload hx hb dX4_pack_127 (lv_at hl 4 rfl) ?_
                refine lv_iload_n hx hb dX4_pack_129 rfl (lv_at hl 2 rfl) ?_
                refine va_iast hx hb hK hP hD hS 4 0 rfl rfl (vp_in_nI (by omega) (by decide)) dX4_pack_130 (fun Hp locs hP hD hS => ?_)
                rw [nI_clamp (show e0 < 2 ^ 31 by omega)] at hP hD
                have hP : va_P (dC, dI) classes (mw ad cI n a b T H R (upd (ru_it n a b T H R k i (R k, pg_O n a b T H R k)).2 e0 (nI k)) W3 tr6 hd6 us6 nx6) Hp := hP
                have hD : va_D A (mw ad cI n a b T H R (upd (ru_it n a b T H R k i (R k, pg_O n a b T H R k)).2 e0 (nI k)) W3 tr6 hd6 us6 nx6) := hD
                refine lv_aload_n hx hb dX4_pack_131 rfl (lv_at hl 0 rfl) ?_
                refine va_get (D := (dC, dI)) (ci := 4) (v := .ref (ad 5)) (C := RX4) (T := TX4) (N := 12) hx hb hw in_X4 hown hK hP 0 rfl rfl 7 (by decide) (hw _ mq_fl_X4_26) (fun _ h9 => h9) rfl dX4_pack_132 ?_
                refine lv_bipush (v := nI 7) hx hb dX4_pack_135 (by decide) ?_
                refine lv_iload_n hx hb dX4_pack_137 rfl (lv_at hl 2 rfl) ?_
                refine lv_imul hx hb dX4_pack_138 ?_
                refine lv_topi (fun z9 e9 => ?_)
                obtain rfl : z9 = nI (7 * k) := e9.trans (pk_mul 7 k)
                refine lv_aload_n hx hb dX4_pack_139 rfl (lv_at hl 0 rfl) ?_
                refine va_get (D := (dC, dI)) (ci := 4) (v := .ref (ad 2)) (C := RX4) (T := TX4) (N := 12) hx hb hw in_X4 hown hK hP 0 rfl rfl 4 (by decide) (hw _ mq_fl_X4_17) (fun _ h9 => h9) rfl dX4_pack_140 ?_
                refine lv_iload hx hb dX4_pack_143 (lv_at hl 4 rfl) ?_
                refine va_iald hx hb hK hP 2 0 rfl rfl (vp_in_nI (by omega) (by decide)) dX4_pack_145 ?_
                refine lv_topi (fun z9 e9 => ?_)
                obtain rfl : z9 = nI (H e0) := e9.trans (ar_at H (by omega))
                refine lv_iadd hx hb dX4_pack_146 ?_
                refine lv_topi (fun z9 e9 => ?_)
                obtain rfl : z9 = nI (7 * k + H e0) := e9.trans (nI_add _ _)
                refine lv_iload hx hb dX4_pack_147 (lv_at hl 4 rfl) ?_
                refine va_iast hx hb hK hP hD hS 5 0 rfl rfl (vp_in_nI (by omega) (by decide)) dX4_pack_149 (fun Hp locs hP hD hS => ?_)
                rw [nI_clamp (show 7 * k + H e0 < 2 ^ 31 by omega)] at hP hD
                have hP : va_P (dC, dI) classes (mw ad cI n a b T H R (upd (ru_it n a b T H R k i (R k, pg_O n a b T H R k)).2 e0 (nI k)) (upd W3 (7 * k + H e0) (nI e0)) tr6 hd6 us6 nx6) Hp := hP
                have hD : va_D A (mw ad cI n a b T H R (upd (ru_it n a b T H R k i (R k, pg_O n a b T H R k)).2 e0 (nI k)) (upd W3 (7 * k + H e0) (nI e0)) tr6 hd6 us6 nx6) := hD
                refine lv_iload_n hx hb dX4_pack_150 rfl (lv_at hl 3 rfl) ?_
                refine lv_iconst (v := 1) hx hb dX4_pack_151 (by decide) ?_
                refine lv_aload_n hx hb dX4_pack_152 rfl (lv_at hl 0 rfl) ?_
                refine va_get (D := (dC, dI)) (ci := 4) (v := .ref (ad 2)) (C := RX4) (T := TX4) (N := 12) hx hb hw in_X4 hown hK hP 0 rfl rfl 4 (by decide) (hw _ mq_fl_X4_17) (fun _ h9 => h9) rfl dX4_pack_153 ?_
                refine lv_iload hx hb dX4_pack_156 (lv_at hl 4 rfl) ?_
                refine va_iald hx hb hK hP 2 0 rfl rfl (vp_in_nI (by omega) (by decide)) dX4_pack_158 ?_
                refine lv_topi (fun z9 e9 => ?_)
                obtain rfl : z9 = nI (H e0) := e9.trans (ar_at H (by omega))
                refine lv_ishl hx hb dX4_pack_159 ?_
                refine lv_ior hx hb dX4_pack_160 ?_
                refine lv_topi (fun z9 e9 => ?_)
                obtain rfl : z9 = nI ((ru_it n a b T H R k i (R k, pg_O n a b T H R k)).1 ||| 2 ^ H e0) := e9.trans (by rw [bi_sh _ (by omega), bi_or])
                refine lv_istore_n (lv' := [(3, .int (nI ((ru_it n a b T H R k i (R k, pg_O n a b T H R k)).1 ||| 2 ^ H e0))), (0, .ref (ad 0)), (1, .int (nI U3)), (2, .int (nI k)), (4, .int (nI e0))]) hx hb dX4_pack_161 rfl hl (by decide) rfl (fun ls hl => ?_)
                refine lv_iload_n hx hb dX4_pack_162 rfl (lv_at hl 2 rfl) ?_
                refine lv_iconst (v := 1) hx hb dX4_pack_163 (by decide) ?_
                refine lv_iload hx hb dX4_pack_164 (lv_at hl 4 rfl) ?_
                refine lv_ishl hx hb dX4_pack_166 ?_
                refine lv_ior hx hb dX4_pack_167 ?_
                refine lv_topi (fun z9 e9 => ?_)
                obtain rfl : z9 = nI (U3 ||| 2 ^ e0) := e9.trans (by rw [bi_sh _ (by omega), bi_or])
                refine lv_istore_n (lv' := [(1, .int (nI (U3 ||| 2 ^ e0))), (3, .int (nI ((ru_it n a b T H R k i (R k, pg_O n a b T H R k)).1 ||| 2 ^ H e0))), (0, .ref (ad 0)), (2, .int (nI k)), (4, .int (nI e0))]) hx hb dX4_pack_168 rfl hl (by decide) rfl (fun ls hl => ?_)
                refine lv_goto (tgt := 70) hx hb dX4_pack_169 (by decide) ?_
                have e8 : ru_it n a b T H R k (i + 1) (R k, pg_O n a b T H R k) = ((ru_it n a b T H R k i (R k, pg_O n a b T H R k)).1 ||| 2 ^ H e0, upd (ru_it n a b T H R k i (R k, pg_O n a b T H R k)).2 e0 (nI k)) := by rw [ru_it_s, ru_st_go hf, ← hj]
                have e81 : (ru_it n a b T H R k (i + 1) (R k, pg_O n a b T H R k)).1 = (ru_it n a b T H R k i (R k, pg_O n a b T H R k)).1 ||| 2 ^ H e0 := by rw [e8]
                have e82 : (ru_it n a b T H R k (i + 1) (R k, pg_O n a b T H R k)).2 = upd (ru_it n a b T H R k i (R k, pg_O n a b T H R k)).2 e0 (nI k) := by rw [e8]
                rw [← e81] at hl
                rw [← e82] at hP hD
                have hU5 : Nat.testBit (U3 ||| 2 ^ e0) = ow_u (ru_it n a b T H R k (i + 1) (R k, pg_O n a b T H R k)).2 := by rw [e82, ub_use, hU3, ow_upd _ _ (by omega)]
                have hO1 : (ru_it n a b T H R k i (R k, pg_O n a b T H R k)).2 e0 = -1 := Decidable.not_not.mp (decide_eq_false_iff_not.mp (ru_gr_iff.mp p2).1)
                have hW5 : wy_ok a H (ru_it n a b T H R k (i + 1) (R k, pg_O n a b T H R k)).2 (upd W3 (7 * k + H e0) (nI e0)) := by
                  rw [e82]
                  refine wy_st hW3 (by omega) p1 hO1 (by omega) (fun q hq hO hz => ?_)
                  have z1 := I4 q hq hO
                  rw [hz, (ru_gr_iff.mp p2).2.2] at z1
                  cases z1
                have z7 := ru_left_st (hT2 e0 p1).2 (ru_gr_iff.mp p2).2.2
                have z6 : ru_left n (ru_it n a b T H R k (i + 1) (R k, pg_O n a b T H R k)).1 < ru_left n (ru_it n a b T H R k i (R k, pg_O n a b T H R k)).1 := by rw [e81]; omega
                exact ih_70 _ _ _ _ (z6) ⟨i + 1, U3 ||| 2 ^ e0, _, _, _, _, _, rfl, hU5, df_used hU34 (by omega), hW5, lv_sub hl [2, 0, 3, 1] rfl, hP, hD, hS⟩
              -- ifne at 114, f
              · have t114 := zb_0.mp b114
                refine lv_iinc (k := 4) (v := nI (e0 + 1)) (lv' := [(4, .int (nI (e0 + 1))), (0, .ref (ad 0)), (1, .int (nI U3)), (2, .int (nI k)), (3, .int (nI (ru_it n a b T H R k i (R k, pg_O n a b T H R k)).1))]) hx hb dX4_pack_117 hl rfl (ii_1 _) (by decide) rfl (fun ls hl => ?_)
                refine lv_goto (tgt := 81) hx hb dX4_pack_120 (by decide) ?_
                have g9 : ru_good n a b T H R k (ru_it n a b T H R k i (R k, pg_O n a b T H R k)).1 (ow_u (ru_it n a b T H R k i (R k, pg_O n a b T H R k)).2) e0 = false := by rw [← hU3, go_good t60, t114, Bool.and_false]
                have ne9 : e0 ≠ j := fun z => by rw [z, hgj] at g9; cases g9
                exact ih_81 _ _ _ _ (by omega) ⟨e0 + 1, _, _, _, _, rfl, by omega, lv_sub hl [1, 2, 3, 4, 0] rfl, hP, hD, hS⟩
      -- ifne at 46, f
      · have t46 := zb_0.mp b46
        refine lv_iconst (v := 0) hx hb dX4_pack_49 (by decide) ?_
        exact W.zret (v := 0) hx hb hr rfl (fun t ht hW => ⟨⟨_, (fun _ => -1, W1, tr5, hd5, us5, nx5), rfl, ⟨zb_F t46, fun z => by rw [t46] at z; cases z⟩, by rw [ht]; exact hP, va_K.moved hW.alike hK, by rw [hAe]; exact hD⟩, hS.F ht⟩) hS.2.2 dX4_pack_50
    -- if_icmpge at 26, f
    · have t26 : i < 21 := Nat.lt_of_not_le (fun z => b26 (nI_le z (by omega)))
      refine lv_aload_n hx hb dX4_pack_29 rfl (lv_at hl 0 rfl) ?_
      refine va_get (D := (dC, dI)) (ci := 4) (v := .ref (ad 5)) (C := RX4) (T := TX4) (N := 12) hx hb hw in_X4 hown hK hP 0 rfl rfl 7 (by decide) (hw _ mq_fl_X4_26) (fun _ h9 => h9) rfl dX4_pack_30 ?_
      refine lv_iload_n hx hb dX4_pack_33 rfl (lv_at hl 1 rfl) ?_
      refine lv_iconst (v := -1) hx hb dX4_pack_34 (by decide) ?_
      refine va_iast hx hb hK hP hD hS 5 0 rfl rfl (vp_in_nI (by omega) (by decide)) dX4_pack_35 (fun Hp locs hP hD hS => ?_)
      rw [nI_clamp (show i < 2 ^ 31 by omega)] at hP hD
      have hP : va_P (dC, dI) classes (mw ad cI n a b T H R (fun _ => -1) (upd W1 i (-1)) tr hd us nx) Hp := hP
      have hD : va_D A (mw ad cI n a b T H R (fun _ => -1) (upd W1 i (-1)) tr hd us nx) := hD
      refine lv_iinc (k := 1) (v := nI (i + 1)) (lv' := [(1, .int (nI (i + 1))), (0, .ref (ad 0))]) hx hb dX4_pack_36 hl rfl (ii_1 _) (by decide) rfl (fun ls hl => ?_)
      refine lv_goto (tgt := 23) hx hb dX4_pack_39 (by decide) ?_
      have hW2 : ∀ j, j < i + 1 → upd W1 i (-1) j = -1 := by
        intro j hj
        by_cases h : j = i
        · rw [h, pk_us]
        · rw [pk_un h]
          exact hW j (by omega)
      exact ih_23 _ _ _ _ (by omega) ⟨i + 1, _, rfl, by omega, hW2, lv_sub hl [1, 0] rfl, hP, hD, hS⟩
  -- if_icmpge at 5, f
  · have t5 : i < 14 := Nat.lt_of_not_le (fun z => b5 (nI_le z (by omega)))
    refine lv_aload_n hx hb dX4_pack_8 rfl (lv_at hl 0 rfl) ?_
    refine va_get (D := (dC, dI)) (ci := 4) (v := .ref (ad 4)) (C := RX4) (T := TX4) (N := 12) hx hb hw in_X4 hown hK hP 0 rfl rfl 6 (by decide) (hw _ mq_fl_X4_23) (fun _ h9 => h9) rfl dX4_pack_9 ?_
    refine lv_iload_n hx hb dX4_pack_12 rfl (lv_at hl 1 rfl) ?_
    refine lv_iconst (v := -1) hx hb dX4_pack_13 (by decide) ?_
    refine va_iast hx hb hK hP hD hS 4 0 rfl rfl (vp_in_nI (by omega) (by decide)) dX4_pack_14 (fun Hp locs hP hD hS => ?_)
    rw [nI_clamp (show i < 2 ^ 31 by omega)] at hP hD
    have hP : va_P (dC, dI) classes (mw ad cI n a b T H R (upd O1 i (-1)) Wy tr hd us nx) Hp := hP
    have hD : va_D A (mw ad cI n a b T H R (upd O1 i (-1)) Wy tr hd us nx) := hD
    refine lv_iinc (k := 1) (v := nI (i + 1)) (lv' := [(1, .int (nI (i + 1))), (0, .ref (ad 0))]) hx hb dX4_pack_15 hl rfl (ii_1 _) (by decide) rfl (fun ls hl => ?_)
    refine lv_goto (tgt := 2) hx hb dX4_pack_18 (by decide) ?_
    have hO2 : ∀ j, j < i + 1 → upd O1 i (-1) j = -1 := by
      intro j hj
      by_cases h : j = i
      · rw [h, pk_us]
      · rw [pk_un h]
        exact hO j (by omega)
    exact ih_2 _ _ _ _ (by omega) ⟨i + 1, _, rfl, by omega, hO2, lv_sub hl [1, 0] rfl, hP, hD, hS⟩
set_option maxHeartbeats 4000000 in
set_option maxRecDepth 100000 in
theorem c_X4_owner (l : Launch) (dC : Nat → ClassId) (dI : Nat → Nat → Nat) (cI : ClassId) (ad : Nat → Nat) (n a b : Nat) (T H R : Nat → Nat) (O Wy tr hd us nx : Nat → Int32) (sz : Nat) (x : Int32) (hI : st_I n a T H b R) : Met l yX4_owner (wq yX4_owner cX4_owner 2 (some .int)) ({ frames := 7, cells := 0, slots := 0, locals := 167 }) (mu_P (dC, dI) classes [(cI, .int)] (mw ad cI n a b T H R O Wy tr hd us nx) sz [.ref (ad 0), .int x]) (va_Qi (fun (r : Int32) (u : (Nat → Int32) × (Nat → Int32) × (Nat → Int32) × (Nat → Int32) × (Nat → Int32) × (Nat → Int32)) => r = owF n a b T H R x) (mu_B (dC, dI) classes [(cI, .int)] (mw ad cI n a b T H R O Wy tr hd us nx) sz (fun u => mw ad cI n a b T H R u.1 u.2.1 u.2.2.1 u.2.2.2.1 u.2.2.2.2.1 u.2.2.2.2.2)) (va_A (mw ad cI n a b T H R O Wy tr hd us nx) sz)) 0 0 (va_A (mw ad cI n a b T H R O Wy tr hd us nx) sz) := by
  have hI0 := hI
  obtain ⟨n1, n7, a14, hT, hT2, hb3, hR3, hR⟩ := hI
  have p7 := bi_p7 n7
  have p0 := Nat.two_pow_pos n
  refine Met.ofW (cc := cX4_owner) (maxL := 2) (ret := (some .int)) (by decide) rfl ?_
  intro p e s m args below meth c s₁ B hml hv
  obtain ⟨rfl, hsz, hP, hK, hN, hD0⟩ := hv
  have hx := B.exec
  have hb := B.bytes
  have hr := B.returns
  have hlocks := B.notSynchronized
  have hts := atoms_spec (ws := (wq yX4_owner cX4_owner 2 (some .int))) B.pre
  have hw : ∀ w ∈ bigW, w.before _ s = true := fun w h => hts w (List.mem_cons_of_mem _ h)
  have hown : s.vm.findClass RX4 = some m.cls := findClass_of_methodNamed B.named
  subst hsz
  have hD := hD0.self (sz := s.heap.size)
  generalize hAe : va_A (mw ad cI n a b T H R O Wy tr hd us nx) s.heap.size = A at hD ⊢
  have hA : ∀ q : Nat, s.heap.size ≤ q → A q := fun q h => by rw [← hAe]; exact Or.inr h
  have hS : va_S A s.heap s.heap [] := va_S.rf
  have hl := lv_entry ([.ref (ad 0), .int x]) (n := 2) (Nat.le_of_ble_eq_true rfl)
  rw [lg_entry_eq]
  generalize (lg_sl ([.ref (ad 0), .int x]) ++ List.replicate (2 - (lg_sl ([.ref (ad 0), .int x])).length) Slot.unset).toArray = ls at hl ⊢
  have hl : lv_has ls 2 [(0, .ref (ad 0)), (1, .int x)] := hl
  refine lv_aload_n hx hb dX4_owner_0 rfl (lv_at hl 0 rfl) ?_
  refine lv_iload_n hx hb dX4_owner_1 rfl (lv_at hl 1 rfl) ?_
  refine ro_V (As := [.int x]) (rest := []) (b := ad 0) ⟨hx, hb, hml, hown, hts⟩ (c_X4_isArc l dC dI cI ad n a b T H R O Wy tr hd us nx x) (cwV 1 hts (bw_V mq_ml_X4_59 mq_im_X4_isArc mq_se_X4_isArc mq_in_X4 mq_co_X4_isArc) rfl rfl rfl (by decide +kernel) ⟨Nat.le_of_ble_eq_true rfl, Nat.le_of_ble_eq_true rfl⟩) hP hK hN 0 rfl rfl rfl hl.1 rfl (Nat.le_of_ble_eq_true rfl) dX4_owner_2 ⟨Nat.zero_le _, Nat.zero_le _⟩ (fun r9 h9 => ?_)
  obtain rfl : r9 = nI (ed_b (decide (0 ≤ x ∧ x < nI a))) := h9
  refine lv_if_eq (tgt := 24) hx hb dX4_owner_5 (by decide) (fun b5 => ?_) (fun b5 => ?_)
  -- ifeq at 5, t
  · have t5 := decide_eq_false_iff_not.mp (zb_0.mp b5)
    refine lv_iconst (v := -1) hx hb dX4_owner_24 (by decide) ?_
    exact W.iret (v := -1) hx hb hr (fun t ht hW => ⟨⟨_, (O, Wy, tr, hd, us, nx), rfl, (by rw [owF, if_neg t5]), by rw [ht]; exact hP, va_K.moved hW.alike hK, by rw [hAe]; exact hD⟩, hS.F ht⟩) hS.2.2 dX4_owner_25
  -- ifeq at 5, f
  · have t5 := decide_eq_true_eq.mp (zb_n0.mp b5)
    obtain ⟨j, hj, rfl⟩ := is_in_of t5 (by omega)
    refine lv_aload_n hx hb dX4_owner_8 rfl (lv_at hl 0 rfl) ?_
    refine mu_Vi (As := []) (rest := []) (b := ad 0) ⟨hx, hb, hml, hown, hts⟩ (c_X4_pack l dC dI cI ad n a b T H R O Wy tr hd us nx _ hI0) (cwV 0 hts (bw_V mq_ml_X4_101 mq_im_X4_pack mq_se_X4_pack mq_in_X4 mq_co_X4_pack) rfl rfl rfl (by decide +kernel) ⟨Nat.le_of_ble_eq_true rfl, Nat.le_of_ble_eq_true rfl⟩) hP hK hN hD hS hA 0 rfl rfl rfl hl.1 rfl (Nat.le_of_ble_eq_true rfl) dX4_owner_9 ⟨Nat.zero_le _, Nat.zero_le _⟩ (fun r9 u9 Hp locs h9 hP hD hS => ?_)
    obtain ⟨⟨O9, W9, tr9, hd9, us9, nx9⟩, rfl⟩ : ∃ z, z = u9 := ⟨_, rfl⟩
    obtain rfl : r9 = nI (ed_b (paF n a T H b R)) := h9.1
    have hP : va_P (dC, dI) classes (mw ad cI n a b T H R O9 W9 tr9 hd9 us9 nx9) Hp := hP
    have hD : va_D A (mw ad cI n a b T H R O9 W9 tr9 hd9 us9 nx9) := hD
    refine lv_if_eq (tgt := 24) hx hb dX4_owner_12 (by decide) (fun b12 => ?_) (fun b12 => ?_)
    -- ifeq at 12, t
    · have t12 := zb_0.mp b12
      refine lv_iconst (v := -1) hx hb dX4_owner_24 (by decide) ?_
      exact W.iret (v := -1) hx hb hr (fun t ht hW => ⟨⟨_, (O9, W9, tr9, hd9, us9, nx9), rfl, (by rw [owF, if_pos t5, pg_no t12 hb3]), by rw [ht]; exact hP, va_K.moved hW.alike hK, by rw [hAe]; exact hD⟩, hS.F ht⟩) hS.2.2 dX4_owner_25
    -- ifeq at 12, f
    · have t12 := zb_n0.mp b12
      refine lv_aload_n hx hb dX4_owner_15 rfl (lv_at hl 0 rfl) ?_
      refine va_get (D := (dC, dI)) (ci := 4) (v := .ref (ad 4)) (C := RX4) (T := TX4) (N := 12) hx hb hw in_X4 hown hK hP 0 rfl rfl 6 (by decide) (hw _ mq_fl_X4_23) (fun _ h9 => h9) rfl dX4_owner_16 ?_
      refine lv_iload_n hx hb dX4_owner_19 rfl (lv_at hl 1 rfl) ?_
      refine va_iald hx hb hK hP 4 0 rfl rfl (vp_in_nI (by omega) (by decide)) dX4_owner_20 ?_
      refine lv_topi (fun z9 e9 => ?_)
      obtain rfl : z9 = pg_all n a b T H R j := e9.trans (by rw [nI_clamp (by omega)]; exact (h9.2 t12).1 j (by omega))
      refine lv_goto (tgt := 25) hx hb dX4_owner_21 (by decide) ?_
      exact W.iret (v := pg_all n a b T H R j) hx hb hr (fun t ht hW => ⟨⟨_, (O9, W9, tr9, hd9, us9, nx9), rfl, (by rw [owF, if_pos t5, nI_clamp (by omega)]), by rw [ht]; exact hP, va_K.moved hW.alike hK, by rw [hAe]; exact hD⟩, hS.F ht⟩) hS.2.2 dX4_owner_25
set_option maxHeartbeats 4000000 in
set_option maxRecDepth 100000 in
theorem c_X4_way (l : Launch) (dC : Nat → ClassId) (dI : Nat → Nat → Nat) (cI : ClassId) (ad : Nat → Nat) (n a b : Nat) (T H R : Nat → Nat) (O Wy tr hd us nx : Nat → Int32) (sz : Nat) (x y : Int32) (hI : st_I n a T H b R) : Met l yX4_way (wq yX4_way cX4_way 4 (some .int)) ({ frames := 7, cells := 0, slots := 0, locals := 167 }) (mu_P (dC, dI) classes [(cI, .int)] (mw ad cI n a b T H R O Wy tr hd us nx) sz [.ref (ad 0), .int x, .int y]) (va_Qi (fun (r : Int32) (u : (Nat → Int32) × (Nat → Int32) × (Nat → Int32) × (Nat → Int32) × (Nat → Int32) × (Nat → Int32)) => r = wyF n a b T H R x y) (mu_B (dC, dI) classes [(cI, .int)] (mw ad cI n a b T H R O Wy tr hd us nx) sz (fun u => mw ad cI n a b T H R u.1 u.2.1 u.2.2.1 u.2.2.2.1 u.2.2.2.2.1 u.2.2.2.2.2)) (va_A (mw ad cI n a b T H R O Wy tr hd us nx) sz)) 0 0 (va_A (mw ad cI n a b T H R O Wy tr hd us nx) sz) := by
  have hI0 := hI
  obtain ⟨n1, n7, a14, hT, hT2, hb3, hR3, hR⟩ := hI
  have p7 := bi_p7 n7
  have p0 := Nat.two_pow_pos n
  refine Met.ofW (cc := cX4_way) (maxL := 4) (ret := (some .int)) (by decide) rfl ?_
  intro p e s m args below meth c s₁ B hml hv
  obtain ⟨rfl, hsz, hP, hK, hN, hD0⟩ := hv
  have hx := B.exec
  have hb := B.bytes
  have hr := B.returns
  have hlocks := B.notSynchronized
  have hts := atoms_spec (ws := (wq yX4_way cX4_way 4 (some .int))) B.pre
  have hw : ∀ w ∈ bigW, w.before _ s = true := fun w h => hts w (List.mem_cons_of_mem _ h)
  have hown : s.vm.findClass RX4 = some m.cls := findClass_of_methodNamed B.named
  subst hsz
  have hD := hD0.self (sz := s.heap.size)
  generalize hAe : va_A (mw ad cI n a b T H R O Wy tr hd us nx) s.heap.size = A at hD ⊢
  have hA : ∀ q : Nat, s.heap.size ≤ q → A q := fun q h => by rw [← hAe]; exact Or.inr h
  have hS : va_S A s.heap s.heap [] := va_S.rf
  have hl := lv_entry ([.ref (ad 0), .int x, .int y]) (n := 4) (Nat.le_of_ble_eq_true rfl)
  rw [lg_entry_eq]
  generalize (lg_sl ([.ref (ad 0), .int x, .int y]) ++ List.replicate (4 - (lg_sl ([.ref (ad 0), .int x, .int y])).length) Slot.unset).toArray = ls at hl ⊢
  have hl : lv_has ls 4 [(0, .ref (ad 0)), (1, .int x), (2, .int y)] := hl
  refine lv_iload_n hx hb dX4_way_0 rfl (lv_at hl 1 rfl) ?_
  refine lv_if_lt (tgt := 28) hx hb dX4_way_1 (by decide) (fun b1 => ?_) (fun b1 => ?_)
  -- iflt at 1, t
  · refine lv_iconst (v := 0) hx hb dX4_way_28 (by decide) ?_
    refine lv_istore_n (lv' := [(3, .int 0), (0, .ref (ad 0)), (1, .int x), (2, .int y)]) hx hb dX4_way_29 rfl hl (by decide) rfl (fun ls hl => ?_)
    refine lv_iload_n hx hb dX4_way_30 rfl (lv_at hl 0 rfl) ?_
    refine lv_if_eq (tgt := 55) hx hb dX4_way_31 (by decide) (fun _ => ?_) (fun b9 => absurd (rfl) b9)
    refine lv_iconst (v := -1) hx hb dX4_way_55 (by decide) ?_
    exact W.iret (v := -1) hx hb hr (fun t ht hW => ⟨⟨_, (O, Wy, tr, hd, us, nx), rfl, (by rw [wyF, if_neg (fun h => absurd h.1.1 (i_le_lt.mpr b1))]), by rw [ht]; exact hP, va_K.moved hW.alike hK, by rw [hAe]; exact hD⟩, hS.F ht⟩) hS.2.2 dX4_way_56
  -- iflt at 1, f
  · refine lv_iload_n hx hb dX4_way_4 rfl (lv_at hl 1 rfl) ?_
    refine lv_aload_n hx hb dX4_way_5 rfl (lv_at hl 0 rfl) ?_
    refine va_get (D := (dC, dI)) (ci := 4) (v := .int (nI b)) (C := RX4) (T := TX4) (N := 12) hx hb hw in_X4 hown hK hP 0 rfl rfl 2 (by decide) (hw _ mq_fl_X4_56) (fun _ h9 => h9) rfl dX4_way_6 ?_
    refine lv_icmp_ge (tgt := 28) hx hb dX4_way_9 (by decide) (fun b9 => ?_) (fun b9 => ?_)
    -- if_icmpge at 9, t
    · refine lv_iconst (v := 0) hx hb dX4_way_28 (by decide) ?_
      refine lv_istore_n (lv' := [(3, .int 0), (0, .ref (ad 0)), (1, .int x), (2, .int y)]) hx hb dX4_way_29 rfl hl (by decide) rfl (fun ls hl => ?_)
      refine lv_iload_n hx hb dX4_way_30 rfl (lv_at hl 0 rfl) ?_
      refine lv_if_eq (tgt := 55) hx hb dX4_way_31 (by decide) (fun _ => ?_) (fun b9 => absurd (rfl) b9)
      refine lv_iconst (v := -1) hx hb dX4_way_55 (by decide) ?_
      exact W.iret (v := -1) hx hb hr (fun t ht hW => ⟨⟨_, (O, Wy, tr, hd, us, nx), rfl, (by rw [wyF, if_neg (fun h => absurd h.1.2 (i_lt_le.mpr b9))]), by rw [ht]; exact hP, va_K.moved hW.alike hK, by rw [hAe]; exact hD⟩, hS.F ht⟩) hS.2.2 dX4_way_56
    -- if_icmpge at 9, f
    · refine lv_iload_n hx hb dX4_way_12 rfl (lv_at hl 2 rfl) ?_
      refine lv_if_lt (tgt := 28) hx hb dX4_way_13 (by decide) (fun b13 => ?_) (fun b13 => ?_)
      -- iflt at 13, t
      · refine lv_iconst (v := 0) hx hb dX4_way_28 (by decide) ?_
        refine lv_istore_n (lv' := [(3, .int 0), (0, .ref (ad 0)), (1, .int x), (2, .int y)]) hx hb dX4_way_29 rfl hl (by decide) rfl (fun ls hl => ?_)
        refine lv_iload_n hx hb dX4_way_30 rfl (lv_at hl 0 rfl) ?_
        refine lv_if_eq (tgt := 55) hx hb dX4_way_31 (by decide) (fun _ => ?_) (fun b9 => absurd (rfl) b9)
        refine lv_iconst (v := -1) hx hb dX4_way_55 (by decide) ?_
        exact W.iret (v := -1) hx hb hr (fun t ht hW => ⟨⟨_, (O, Wy, tr, hd, us, nx), rfl, (by rw [wyF, if_neg (fun h => absurd h.2.1 (i_le_lt.mpr b13))]), by rw [ht]; exact hP, va_K.moved hW.alike hK, by rw [hAe]; exact hD⟩, hS.F ht⟩) hS.2.2 dX4_way_56
      -- iflt at 13, f
      · refine lv_iload_n hx hb dX4_way_16 rfl (lv_at hl 2 rfl) ?_
        refine lv_aload_n hx hb dX4_way_17 rfl (lv_at hl 0 rfl) ?_
        refine va_get (D := (dC, dI)) (ci := 4) (v := .int (nI n)) (C := RX4) (T := TX4) (N := 12) hx hb hw in_X4 hown hK hP 0 rfl rfl 0 (by decide) (hw _ mq_fl_X4_7) (fun _ h9 => h9) rfl dX4_way_18 ?_
        refine lv_icmp_ge (tgt := 28) hx hb dX4_way_21 (by decide) (fun b21 => ?_) (fun b21 => ?_)
        -- if_icmpge at 21, t
        · refine lv_iconst (v := 0) hx hb dX4_way_28 (by decide) ?_
          refine lv_istore_n (lv' := [(3, .int 0), (0, .ref (ad 0)), (1, .int x), (2, .int y)]) hx hb dX4_way_29 rfl hl (by decide) rfl (fun ls hl => ?_)
          refine lv_iload_n hx hb dX4_way_30 rfl (lv_at hl 0 rfl) ?_
          refine lv_if_eq (tgt := 55) hx hb dX4_way_31 (by decide) (fun _ => ?_) (fun b9 => absurd (rfl) b9)
          refine lv_iconst (v := -1) hx hb dX4_way_55 (by decide) ?_
          exact W.iret (v := -1) hx hb hr (fun t ht hW => ⟨⟨_, (O, Wy, tr, hd, us, nx), rfl, (by rw [wyF, if_neg (fun h => absurd h.2.2 (i_lt_le.mpr b21))]), by rw [ht]; exact hP, va_K.moved hW.alike hK, by rw [hAe]; exact hD⟩, hS.F ht⟩) hS.2.2 dX4_way_56
        -- if_icmpge at 21, f
        · obtain ⟨k, hk3, rfl⟩ := is_in_of ⟨i_lt_le.mp b1, i_le_lt.mp b9⟩ (by omega)
          obtain ⟨v, hv3, rfl⟩ := is_in_of ⟨i_lt_le.mp b13, i_le_lt.mp b21⟩ (by omega)
          refine lv_iconst (v := 1) hx hb dX4_way_24 (by decide) ?_
          refine lv_goto (tgt := 29) hx hb dX4_way_25 (by decide) ?_
          refine lv_istore_n (lv' := [(3, .int 1), (0, .ref (ad 0)), (1, .int (nI k)), (2, .int (nI v))]) hx hb dX4_way_29 rfl hl (by decide) rfl (fun ls hl => ?_)
          refine lv_iload_n hx hb dX4_way_30 rfl (lv_at hl 0 rfl) ?_
          refine lv_if_eq (tgt := 55) hx hb dX4_way_31 (by decide) (fun b9 => absurd b9 (by decide)) (fun _ => ?_)
          refine lv_aload_n hx hb dX4_way_34 rfl (lv_at hl 1 rfl) ?_
          refine mu_Vi (As := []) (rest := []) (b := ad 0) ⟨hx, hb, hml, hown, hts⟩ (c_X4_pack l dC dI cI ad n a b T H R O Wy tr hd us nx _ hI0) (cwV 0 hts (bw_V mq_ml_X4_101 mq_im_X4_pack mq_se_X4_pack mq_in_X4 mq_co_X4_pack) rfl rfl rfl (by decide +kernel) ⟨Nat.le_of_ble_eq_true rfl, Nat.le_of_ble_eq_true rfl⟩) hP hK hN hD hS hA 0 rfl rfl rfl hl.1 rfl (Nat.le_of_ble_eq_true rfl) dX4_way_35 ⟨Nat.zero_le _, Nat.zero_le _⟩ (fun r9 u9 Hp locs h9 hP hD hS => ?_)
          obtain ⟨⟨O9, W9, tr9, hd9, us9, nx9⟩, rfl⟩ : ∃ z, z = u9 := ⟨_, rfl⟩
          obtain rfl : r9 = nI (ed_b (paF n a T H b R)) := h9.1
          have hP : va_P (dC, dI) classes (mw ad cI n a b T H R O9 W9 tr9 hd9 us9 nx9) Hp := hP
          have hD : va_D A (mw ad cI n a b T H R O9 W9 tr9 hd9 us9 nx9) := hD
          refine lv_if_eq (tgt := 55) hx hb dX4_way_38 (by decide) (fun b38 => ?_) (fun b38 => ?_)
          -- ifeq at 38, t
          · have t38 := zb_0.mp b38
            refine lv_iconst (v := -1) hx hb dX4_way_55 (by decide) ?_
            exact W.iret (v := -1) hx hb hr (fun t ht hW => ⟨⟨_, (O9, W9, tr9, hd9, us9, nx9), rfl, (wy_no t38 hb3 hk3).symm, by rw [ht]; exact hP, va_K.moved hW.alike hK, by rw [hAe]; exact hD⟩, hS.F ht⟩) hS.2.2 dX4_way_56
          -- ifeq at 38, f
          · have t38 := zb_n0.mp b38
            refine lv_aload_n hx hb dX4_way_41 rfl (lv_at hl 1 rfl) ?_
            refine va_get (D := (dC, dI)) (ci := 4) (v := .ref (ad 5)) (C := RX4) (T := TX4) (N := 12) hx hb hw in_X4 hown hK hP 0 rfl rfl 7 (by decide) (hw _ mq_fl_X4_26) (fun _ h9 => h9) rfl dX4_way_42 ?_
            refine lv_bipush (v := nI 7) hx hb dX4_way_45 (by decide) ?_
            refine lv_iload_n hx hb dX4_way_47 rfl (lv_at hl 2 rfl) ?_
            refine lv_imul hx hb dX4_way_48 ?_
            refine lv_topi (fun z9 e9 => ?_)
            obtain rfl : z9 = nI (7 * k) := e9.trans (pk_mul 7 k)
            refine lv_iload_n hx hb dX4_way_49 rfl (lv_at hl 3 rfl) ?_
            refine lv_iadd hx hb dX4_way_50 ?_
            refine lv_topi (fun z9 e9 => ?_)
            obtain rfl : z9 = nI (7 * k + v) := e9.trans (nI_add _ _)
            refine va_iald hx hb hK hP 5 0 rfl rfl (vp_in_nI (by omega) (by decide)) dX4_way_51 ?_
            refine lv_topi (fun z9 e9 => ?_)
            obtain rfl : z9 = W9 (7 * k + v) := e9.trans (by rw [nI_clamp (by omega)])
            refine lv_goto (tgt := 56) hx hb dX4_way_52 (by decide) ?_
            exact W.iret (v := W9 (7 * k + v)) hx hb hr (fun t ht hW => ⟨⟨_, (O9, W9, tr9, hd9, us9, nx9), rfl, (wy_yes (by omega) hk3 hv3 n7 (h9.2 t38).2 (fun e he => (hT2 e he).2)).symm, by rw [ht]; exact hP, va_K.moved hW.alike hK, by rw [hAe]; exact hD⟩, hS.F ht⟩) hS.2.2 dX4_way_56
set_option maxHeartbeats 4000000 in
set_option maxRecDepth 100000 in
theorem c_X4_spare (l : Launch) (dC : Nat → ClassId) (dI : Nat → Nat → Nat) (cI : ClassId) (ad : Nat → Nat) (n a b : Nat) (T H R : Nat → Nat) (O Wy tr hd us nx : Nat → Int32) (sz : Nat) (x : Int32) (hI : st_I n a T H b R) : Met l yX4_spare (wq yX4_spare cX4_spare 6 (some .boolean)) ({ frames := 6, cells := 0, slots := 0, locals := 143 }) (mu_P (dC, dI) classes [(cI, .int)] (mw ad cI n a b T H R O Wy tr hd us nx) sz [.ref (ad 0), .int x]) (va_Qi (fun (r : Int32) (u : (Nat → Int32) × (Nat → Int32) × (Nat → Int32) × (Nat → Int32)) => r = nI (ed_b (srF n a T H b R x))) (mu_B (dC, dI) classes [(cI, .int)] (mw ad cI n a b T H R O Wy tr hd us nx) sz (fun u => mw ad cI n a b T H R O Wy u.1 u.2.1 u.2.2.1 u.2.2.2)) (va_A (mw ad cI n a b T H R O Wy tr hd us nx) sz)) 0 0 (va_A (mw ad cI n a b T H R O Wy tr hd us nx) sz) := by
  have hI0 := hI
  obtain ⟨n1, n7, a14, hT, hT2, hb3, hR3, hR⟩ := hI
  have p7 := bi_p7 n7
  have p0 := Nat.two_pow_pos n
  refine Met.ofW (cc := cX4_spare) (maxL := 6) (ret := (some .boolean)) (by decide) rfl ?_
  intro p e s m args below meth c s₁ B hml hv
  obtain ⟨rfl, hsz, hP, hK, hN, hD0⟩ := hv
  have hx := B.exec
  have hb := B.bytes
  have hr := B.returns
  have hlocks := B.notSynchronized
  have hts := atoms_spec (ws := (wq yX4_spare cX4_spare 6 (some .boolean))) B.pre
  have hw : ∀ w ∈ bigW, w.before _ s = true := fun w h => hts w (List.mem_cons_of_mem _ h)
  have hown : s.vm.findClass RX4 = some m.cls := findClass_of_methodNamed B.named
  subst hsz
  have hD := hD0.self (sz := s.heap.size)
  generalize hAe : va_A (mw ad cI n a b T H R O Wy tr hd us nx) s.heap.size = A at hD ⊢
  have hA : ∀ q : Nat, s.heap.size ≤ q → A q := fun q h => by rw [← hAe]; exact Or.inr h
  have hS : va_S A s.heap s.heap [] := va_S.rf
  have hl := lv_entry ([.ref (ad 0), .int x]) (n := 6) (Nat.le_of_ble_eq_true rfl)
  rw [lg_entry_eq]
  generalize (lg_sl ([.ref (ad 0), .int x]) ++ List.replicate (6 - (lg_sl ([.ref (ad 0), .int x])).length) Slot.unset).toArray = ls at hl ⊢
  have hl : lv_has ls 6 [(0, .ref (ad 0)), (1, .int x)] := hl
  refine lv_aload_n hx hb dX4_spare_0 rfl (lv_at hl 0 rfl) ?_
  refine lv_iload_n hx hb dX4_spare_1 rfl (lv_at hl 1 rfl) ?_
  refine ro_V (As := [.int x]) (rest := []) (b := ad 0) ⟨hx, hb, hml, hown, hts⟩ (c_X4_isArc l dC dI cI ad n a b T H R O Wy tr hd us nx x) (cwV 1 hts (bw_V mq_ml_X4_59 mq_im_X4_isArc mq_se_X4_isArc mq_in_X4 mq_co_X4_isArc) rfl rfl rfl (by decide +kernel) ⟨Nat.le_of_ble_eq_true rfl, Nat.le_of_ble_eq_true rfl⟩) hP hK hN 0 rfl rfl rfl hl.1 rfl (Nat.le_of_ble_eq_true rfl) dX4_spare_2 ⟨Nat.zero_le _, Nat.zero_le _⟩ (fun r9 h9 => ?_)
  obtain rfl : r9 = nI (ed_b (decide (0 ≤ x ∧ x < nI a))) := h9
  refine lv_if_ne (tgt := 10) hx hb dX4_spare_5 (by decide) (fun b5 => ?_) (fun b5 => ?_)
  -- ifne at 5, t
  · have t5 := decide_eq_true_eq.mp (zb_n0.mp b5)
    obtain ⟨j, hj, rfl⟩ := is_in_of t5 (by omega)
    refine lv_aload_n hx hb dX4_spare_10 rfl (lv_at hl 0 rfl) ?_
    refine va_get (D := (dC, dI)) (ci := 4) (v := .ref (ad 1)) (C := RX4) (T := TX4) (N := 12) hx hb hw in_X4 hown hK hP 0 rfl rfl 3 (by decide) (hw _ mq_fl_X4_13) (fun _ h9 => h9) rfl dX4_spare_11 ?_
    refine lv_iload_n hx hb dX4_spare_14 rfl (lv_at hl 1 rfl) ?_
    refine va_iald hx hb hK hP 1 0 rfl rfl (vp_in_nI (by omega) (by decide)) dX4_spare_15 ?_
    refine lv_topi (fun z9 e9 => ?_)
    obtain rfl : z9 = nI (T j) := e9.trans (ar_at T (by omega))
    refine lv_istore_n (lv' := [(2, .int (nI (T j))), (0, .ref (ad 0)), (1, .int (nI j))]) hx hb dX4_spare_16 rfl hl (by decide) rfl (fun ls hl => ?_)
    refine lv_aload_n hx hb dX4_spare_17 rfl (lv_at hl 1 rfl) ?_
    refine va_get (D := (dC, dI)) (ci := 4) (v := .ref (ad 2)) (C := RX4) (T := TX4) (N := 12) hx hb hw in_X4 hown hK hP 0 rfl rfl 4 (by decide) (hw _ mq_fl_X4_17) (fun _ h9 => h9) rfl dX4_spare_18 ?_
    refine lv_iload_n hx hb dX4_spare_21 rfl (lv_at hl 2 rfl) ?_
    refine va_iald hx hb hK hP 2 0 rfl rfl (vp_in_nI (by omega) (by decide)) dX4_spare_22 ?_
    refine lv_topi (fun z9 e9 => ?_)
    obtain rfl : z9 = nI (H j) := e9.trans (ar_at H (by omega))
    refine lv_istore_n (lv' := [(3, .int (nI (H j))), (2, .int (nI (T j))), (0, .ref (ad 0)), (1, .int (nI j))]) hx hb dX4_spare_23 rfl hl (by decide) rfl (fun ls hl => ?_)
    refine lv_aload_n hx hb dX4_spare_24 rfl (lv_at hl 2 rfl) ?_
    refine lv_iload_n hx hb dX4_spare_25 rfl (lv_at hl 3 rfl) ?_
    refine mu_Vv (As := [.int (nI j)]) (rest := []) (b := ad 0) ⟨hx, hb, hml, hown, hts⟩ (c_X4_remove l dC dI cI ad n a b T H R O Wy tr hd us nx _ j hj a14) (cwV 1 hts (bw_V mq_ml_X4_63 mq_im_X4_remove mq_se_X4_remove mq_in_X4 mq_co_X4_remove) rfl rfl rfl (by decide +kernel) ⟨Nat.le_of_ble_eq_true rfl, Nat.le_of_ble_eq_true rfl⟩) hP hK hN hD hS hA 0 rfl rfl rfl hl.1 rfl (Nat.le_of_ble_eq_true rfl) dX4_spare_26 ⟨Nat.zero_le _, Nat.zero_le _⟩ (fun u9 Hp locs h9 hP hD hS => ?_)
    have hP : va_P (dC, dI) classes (mw ad cI n (a - 1) b (rm_f T j (a - 1)) (rm_f H j (a - 1)) R O Wy tr hd us nx) Hp := hP
    have hD : va_D A (mw ad cI n (a - 1) b (rm_f T j (a - 1)) (rm_f H j (a - 1)) R O Wy tr hd us nx) := hD
    refine lv_aload_n hx hb dX4_spare_29 rfl (lv_at hl 2 rfl) ?_
    refine mu_Vi (As := []) (rest := []) (b := ad 0) ⟨hx, hb, hml, hown, hts⟩ (c_X4_packs l dC dI cI ad n (a - 1) b (rm_f T j (a - 1)) (rm_f H j (a - 1)) R O Wy tr hd us nx _ (st_rm (by omega) hI0)) (cwV 0 hts (bw_V mq_ml_X4_97 mq_im_X4_packs mq_se_X4_packs mq_in_X4 mq_co_X4_packs) rfl rfl rfl (by decide +kernel) ⟨Nat.le_of_ble_eq_true rfl, Nat.le_of_ble_eq_true rfl⟩) hP hK hN hD hS hA 0 rfl rfl rfl hl.1 rfl (Nat.le_of_ble_eq_true rfl) dX4_spare_30 ⟨Nat.zero_le _, Nat.zero_le _⟩ (fun r9 u9 Hp locs h9 hP hD hS => ?_)
    obtain ⟨⟨tr1, hd1, us1, nx1⟩, rfl⟩ : ∃ z, z = u9 := ⟨_, rfl⟩
    obtain rfl : r9 = nI (ed_b (srF n a T H b R (nI j))) := h9.trans (by rw [srF, if_pos t5, nI_clamp (by omega), sr_rm hj])
    have hP : va_P (dC, dI) classes (mw ad cI n (a - 1) b (rm_f T j (a - 1)) (rm_f H j (a - 1)) R O Wy tr1 hd1 us1 nx1) Hp := hP
    have hD : va_D A (mw ad cI n (a - 1) b (rm_f T j (a - 1)) (rm_f H j (a - 1)) R O Wy tr1 hd1 us1 nx1) := hD
    refine lv_istore (lv' := [(4, .int (nI (ed_b (srF n a T H b R (nI j))))), (3, .int (nI (H j))), (2, .int (nI (T j))), (0, .ref (ad 0)), (1, .int (nI j))]) hx hb dX4_spare_33 hl (by decide) rfl (fun ls hl => ?_)
    refine lv_aload_n hx hb dX4_spare_35 rfl (lv_at hl 3 rfl) ?_
    refine va_get (D := (dC, dI)) (ci := 4) (v := .int (nI (a - 1))) (C := RX4) (T := TX4) (N := 12) hx hb hw in_X4 hown hK hP 0 rfl rfl 1 (by decide) (hw _ mq_fl_X4_45) (fun _ h9 => h9) rfl dX4_spare_36 ?_
    refine lv_istore (lv' := [(5, .int (nI (a - 1))), (4, .int (nI (ed_b (srF n a T H b R (nI j))))), (3, .int (nI (H j))), (2, .int (nI (T j))), (0, .ref (ad 0)), (1, .int (nI j))]) hx hb dX4_spare_39 hl (by decide) rfl (fun ls hl => ?_)
    rw [← rs_0 T j (a - 1), ← rs_0 H j (a - 1)] at hP hD
    refine wl_loopH (fun k9 Hp locs ls => ∃ (i : Nat), i = k9 ∧ (j ≤ i ∧ i ≤ a - 1) ∧ lv_has ls 6 [(0, .ref (ad 0)), (1, .int (nI j)), (2, .int (nI (T j))), (3, .int (nI (H j))), (4, .int (nI (ed_b (srF n a T H b R (nI j))))), (5, .int (nI i))] ∧ va_P (dC, dI) classes (mw ad cI n (a - 1) b (rs_f T j (a - 1) i) (rs_f H j (a - 1) i) R O Wy tr1 hd1 us1 nx1) Hp ∧ va_D A (mw ad cI n (a - 1) b (rs_f T j (a - 1) i) (rs_f H j (a - 1) i) R O Wy tr1 hd1 us1 nx1) ∧ va_S A s.heap Hp locs) ?_ _ ⟨a - 1, rfl, ⟨by omega, by omega⟩, lv_sub hl [4, 5, 3, 2, 1, 0] rfl, hP, hD, hS⟩
    clear hP hD hS hl
    intro k9 Hp locs ls ih9 h9
    obtain ⟨i, k9e, hi, hl, hP, hD, hS⟩ := h9
    have ih_41 := ih9
    clear ih9
    subst k9e
    refine lv_iload hx hb dX4_spare_41 (lv_at hl 5 rfl) ?_
    refine lv_iload_n hx hb dX4_spare_43 rfl (lv_at hl 1 rfl) ?_
    refine lv_icmp_le (tgt := 85) hx hb dX4_spare_44 (by decide) (fun b44 => ?_) (fun b44 => ?_)
    -- if_icmple at 44, t
    · have t44 := (nI_leI (by omega) (by omega)).mp b44
      have e44 : i = j := by omega
      rw [e44] at hP hD
      refine lv_aload_n hx hb dX4_spare_85 rfl (lv_at hl 0 rfl) ?_
      refine va_get (D := (dC, dI)) (ci := 4) (v := .ref (ad 1)) (C := RX4) (T := TX4) (N := 12) hx hb hw in_X4 hown hK hP 0 rfl rfl 3 (by decide) (hw _ mq_fl_X4_13) (fun _ h9 => h9) rfl dX4_spare_86 ?_
      refine lv_iload_n hx hb dX4_spare_89 rfl (lv_at hl 1 rfl) ?_
      refine lv_iload_n hx hb dX4_spare_90 rfl (lv_at hl 2 rfl) ?_
      refine va_iast hx hb hK hP hD hS 1 0 rfl rfl (vp_in_nI (by omega) (by decide)) dX4_spare_91 (fun Hp locs hP hD hS => ?_)
      rw [nI_clamp (show j < 2 ^ 31 by omega), ar_up, rs_e (by omega)] at hP hD
      have hP : va_P (dC, dI) classes (mw ad cI n (a - 1) b T (rs_f H j (a - 1) j) R O Wy tr1 hd1 us1 nx1) Hp := hP
      have hD : va_D A (mw ad cI n (a - 1) b T (rs_f H j (a - 1) j) R O Wy tr1 hd1 us1 nx1) := hD
      refine lv_aload_n hx hb dX4_spare_92 rfl (lv_at hl 0 rfl) ?_
      refine va_get (D := (dC, dI)) (ci := 4) (v := .ref (ad 2)) (C := RX4) (T := TX4) (N := 12) hx hb hw in_X4 hown hK hP 0 rfl rfl 4 (by decide) (hw _ mq_fl_X4_17) (fun _ h9 => h9) rfl dX4_spare_93 ?_
      refine lv_iload_n hx hb dX4_spare_96 rfl (lv_at hl 1 rfl) ?_
      refine lv_iload_n hx hb dX4_spare_97 rfl (lv_at hl 3 rfl) ?_
      refine va_iast hx hb hK hP hD hS 2 0 rfl rfl (vp_in_nI (by omega) (by decide)) dX4_spare_98 (fun Hp locs hP hD hS => ?_)
      rw [nI_clamp (show j < 2 ^ 31 by omega), ar_up, rs_e (by omega)] at hP hD
      have hP : va_P (dC, dI) classes (mw ad cI n (a - 1) b T H R O Wy tr1 hd1 us1 nx1) Hp := hP
      have hD : va_D A (mw ad cI n (a - 1) b T H R O Wy tr1 hd1 us1 nx1) := hD
      refine lv_aload_n hx hb dX4_spare_99 rfl (lv_at hl 0 rfl) ?_
      refine lv_dup hx hb dX4_spare_100 rfl ?_
      refine va_get (D := (dC, dI)) (ci := 4) (v := .int (nI (a - 1))) (C := RX4) (T := TX4) (N := 12) hx hb hw in_X4 hown hK hP 0 rfl rfl 1 (by decide) (hw _ mq_fl_X4_45) (fun _ h9 => h9) rfl dX4_spare_101 ?_
      refine lv_iconst (v := 1) hx hb dX4_spare_104 (by decide) ?_
      refine lv_iadd hx hb dX4_spare_105 ?_
      refine lv_topi (fun z9 e9 => ?_)
      obtain rfl : z9 = nI a := e9.trans (by rw [nI_1, show a - 1 + 1 = a by omega])
      refine va_put (D := (dC, dI)) (ci := 4) (v := .int (nI a)) (ty := .int) (C := RX4) (T := TX4) (N := 12) hx hb hw in_X4 tyX4 tyX4_ok nmX4 hown hK hP hD hS 0 rfl rfl 1 (by decide) (hw _ mq_fl_X4_45) (fun _ h9 => h9) rfl (by decide +kernel) rfl rfl (Nat.le_of_ble_eq_true rfl) dX4_spare_106 (fun Hp locs hP hD hS => ?_)
      have hP : va_P (dC, dI) classes (mw ad cI n a b T H R O Wy tr1 hd1 us1 nx1) Hp := hP
      have hD : va_D A (mw ad cI n a b T H R O Wy tr1 hd1 us1 nx1) := hD
      refine lv_iload hx hb dX4_spare_109 (lv_at hl 4 rfl) ?_
      exact W.zret (v := nI (ed_b (srF n a T H b R (nI j)))) hx hb hr (zb_n _) (fun t ht hW => ⟨⟨_, (tr1, hd1, us1, nx1), rfl, rfl, by rw [ht]; exact hP, va_K.moved hW.alike hK, by rw [hAe]; exact hD⟩, hS.F ht⟩) hS.2.2 dX4_spare_111
    -- if_icmple at 44, f
    · have t44 : j < i := Nat.lt_of_not_le (fun z => b44 (nI_le z (by omega)))
      refine lv_aload_n hx hb dX4_spare_47 rfl (lv_at hl 0 rfl) ?_
      refine va_get (D := (dC, dI)) (ci := 4) (v := .ref (ad 1)) (C := RX4) (T := TX4) (N := 12) hx hb hw in_X4 hown hK hP 0 rfl rfl 3 (by decide) (hw _ mq_fl_X4_13) (fun _ h9 => h9) rfl dX4_spare_48 ?_
      refine lv_iload hx hb dX4_spare_51 (lv_at hl 5 rfl) ?_
      refine lv_aload_n hx hb dX4_spare_53 rfl (lv_at hl 0 rfl) ?_
      refine va_get (D := (dC, dI)) (ci := 4) (v := .ref (ad 1)) (C := RX4) (T := TX4) (N := 12) hx hb hw in_X4 hown hK hP 0 rfl rfl 3 (by decide) (hw _ mq_fl_X4_13) (fun _ h9 => h9) rfl dX4_spare_54 ?_
      refine lv_iload hx hb dX4_spare_57 (lv_at hl 5 rfl) ?_
      refine lv_iconst (v := 1) hx hb dX4_spare_59 (by decide) ?_
      refine lv_isub hx hb dX4_spare_60 ?_
      refine lv_topi (fun z9 e9 => ?_)
      obtain rfl : z9 = nI (i - 1) := e9.trans (pk_sub (b := 1) (by omega))
      refine va_iald hx hb hK hP 1 0 rfl rfl (vp_in_nI (by omega) (by decide)) dX4_spare_61 ?_
      refine lv_topi (fun z9 e9 => ?_)
      obtain rfl : z9 = nI (rs_f T j (a - 1) i (i - 1)) := e9.trans (ar_at _ (by omega))
      refine va_iast hx hb hK hP hD hS 1 0 rfl rfl (vp_in_nI (by omega) (by decide)) dX4_spare_62 (fun Hp locs hP hD hS => ?_)
      rw [nI_clamp (show i < 2 ^ 31 by omega), ar_up, rs_s t44 hi.2] at hP hD
      have hP : va_P (dC, dI) classes (mw ad cI n (a - 1) b (rs_f T j (a - 1) (i - 1)) (rs_f H j (a - 1) i) R O Wy tr1 hd1 us1 nx1) Hp := hP
      have hD : va_D A (mw ad cI n (a - 1) b (rs_f T j (a - 1) (i - 1)) (rs_f H j (a - 1) i) R O Wy tr1 hd1 us1 nx1) := hD
      refine lv_aload_n hx hb dX4_spare_63 rfl (lv_at hl 0 rfl) ?_
      refine va_get (D := (dC, dI)) (ci := 4) (v := .ref (ad 2)) (C := RX4) (T := TX4) (N := 12) hx hb hw in_X4 hown hK hP 0 rfl rfl 4 (by decide) (hw _ mq_fl_X4_17) (fun _ h9 => h9) rfl dX4_spare_64 ?_
      refine lv_iload hx hb dX4_spare_67 (lv_at hl 5 rfl) ?_
      refine lv_aload_n hx hb dX4_spare_69 rfl (lv_at hl 0 rfl) ?_
      refine va_get (D := (dC, dI)) (ci := 4) (v := .ref (ad 2)) (C := RX4) (T := TX4) (N := 12) hx hb hw in_X4 hown hK hP 0 rfl rfl 4 (by decide) (hw _ mq_fl_X4_17) (fun _ h9 => h9) rfl dX4_spare_70 ?_
      refine lv_iload hx hb dX4_spare_73 (lv_at hl 5 rfl) ?_
      refine lv_iconst (v := 1) hx hb dX4_spare_75 (by decide) ?_
      refine lv_isub hx hb dX4_spare_76 ?_
      refine lv_topi (fun z9 e9 => ?_)
      obtain rfl : z9 = nI (i - 1) := e9.trans (pk_sub (b := 1) (by omega))
      refine va_iald hx hb hK hP 2 0 rfl rfl (vp_in_nI (by omega) (by decide)) dX4_spare_77 ?_
      refine lv_topi (fun z9 e9 => ?_)
      obtain rfl : z9 = nI (rs_f H j (a - 1) i (i - 1)) := e9.trans (ar_at _ (by omega))
      refine va_iast hx hb hK hP hD hS 2 0 rfl rfl (vp_in_nI (by omega) (by decide)) dX4_spare_78 (fun Hp locs hP hD hS => ?_)
      rw [nI_clamp (show i < 2 ^ 31 by omega), ar_up, rs_s t44 hi.2] at hP hD
      have hP : va_P (dC, dI) classes (mw ad cI n (a - 1) b (rs_f T j (a - 1) (i - 1)) (rs_f H j (a - 1) (i - 1)) R O Wy tr1 hd1 us1 nx1) Hp := hP
      have hD : va_D A (mw ad cI n (a - 1) b (rs_f T j (a - 1) (i - 1)) (rs_f H j (a - 1) (i - 1)) R O Wy tr1 hd1 us1 nx1) := hD
      refine lv_iinc (k := 5) (v := nI (i - 1)) (lv' := [(5, .int (nI (i - 1))), (0, .ref (ad 0)), (1, .int (nI j)), (2, .int (nI (T j))), (3, .int (nI (H j))), (4, .int (nI (ed_b (srF n a T H b R (nI j)))))]) hx hb dX4_spare_79 hl rfl (ii_m1 (by omega)) (by decide) rfl (fun ls hl => ?_)
      refine lv_goto (tgt := 41) hx hb dX4_spare_82 (by decide) ?_
      exact ih_41 _ _ _ _ (by omega) ⟨i - 1, rfl, ⟨by omega, by omega⟩, lv_sub hl [1, 2, 3, 4, 5, 0] rfl, hP, hD, hS⟩
  -- ifne at 5, f
  · have t5 := decide_eq_false_iff_not.mp (zb_0.mp b5)
    refine lv_iconst (v := 0) hx hb dX4_spare_8 (by decide) ?_
    exact W.zret (v := 0) hx hb hr rfl (fun t ht hW => ⟨⟨_, (tr, hd, us, nx), rfl, (zb_F (by rw [srF, if_neg t5])), by rw [ht]; exact hP, va_K.moved hW.alike hK, by rw [hAe]; exact hD⟩, hS.F ht⟩) hS.2.2 dX4_spare_9
end
section
/-! the constructors -/
set_option maxHeartbeats 4000000 in
set_option maxRecDepth 100000 in
theorem c_X1_init (l : Launch) (dC : Nat → ClassId) (dI : Nat → Nat → Nat) (h0 sz : Nat) : Met l yX1_init (wq yX1_init cX1_init 1 none) ({ frames := 1, cells := 2, slots := 28, locals := 20 }) (mu_P (dC, dI) classes [] [(h0, .inr (1, [.null, .null, .int 0, .int 0]))] sz [.ref h0]) (va_Qv (fun _ : Nat × Nat × ClassId => True) (fun u t => va_P (dC, dI) classes [(h0, .inr (1, [.ref (u.1), .ref (u.2.1), .int 1, .int 0])), ((u.1), .inl (u.2.2, 14, .inl (fun _ => 0))), ((u.2.1), .inl (u.2.2, 14, .inl (fun _ => 0)))] t.heap ∧ va_K (dC, dI) classes [(u.2.2, .int)] t ∧ va_D (va_A [(h0, .inr (1, [.null, .null, .int 0, .int 0]))] sz) [(h0, .inr (1, [.ref (u.1), .ref (u.2.1), .int 1, .int 0])), ((u.1), .inl (u.2.2, 14, .inl (fun _ => 0))), ((u.2.1), .inl (u.2.2, 14, .inl (fun _ => 0)))]) (va_A [(h0, .inr (1, [.null, .null, .int 0, .int 0]))] sz)) 2 28 (va_A [(h0, .inr (1, [.null, .null, .int 0, .int 0]))] sz) := by
  refine Met.ofW (cc := cX1_init) (maxL := 1) (ret := none) (by decide) rfl ?_
  intro p e s m args below meth c s₁ B hml hv
  obtain ⟨rfl, hsz, hP, hK, hN, hD0⟩ := hv
  have hx := B.exec
  have hb := B.bytes
  have hr := B.returns
  have hlocks := B.notSynchronized
  have hts := atoms_spec (ws := (wq yX1_init cX1_init 1 none)) B.pre
  have hw : ∀ w ∈ bigW, w.before _ s = true := fun w h => hts w (List.mem_cons_of_mem _ h)
  have hown : s.vm.findClass RX1 = some m.cls := findClass_of_methodNamed B.named
  have hin : meth.name = "<init>" := (name_of_methodNamed B.named B.method).1
  subst hsz
  have hD := hD0.self (sz := s.heap.size)
  generalize hAe : va_A [(h0, .inr (1, [.null, .null, .int 0, .int 0]))] s.heap.size = A at hD ⊢
  have hA : ∀ q : Nat, s.heap.size ≤ q → A q := fun q h => by rw [← hAe]; exact Or.inr h
  have hS : va_S A s.heap s.heap [] := va_S.rf
  have hl := lv_entry ([.ref h0]) (n := 1) (Nat.le_of_ble_eq_true rfl)
  rw [lg_entry_eq]
  generalize (lg_sl ([.ref h0]) ++ List.replicate (1 - (lg_sl ([.ref h0])).length) Slot.unset).toArray = ls at hl ⊢
  have hl : lv_has ls 1 [(0, .ref h0)] := hl
  refine lv_aload_n hx hb dX1_init_0 rfl (lv_at hl 0 rfl) ?_
  refine W.objInit hx hb hown (hw _ mq_ml_X1_3) (hw _ mq_im_obj) (hw _ mq_co_obj) rfl (by rw [hml]; exact hl.1) rfl dX1_init_1 (Nat.le_of_ble_eq_true rfl) (Nat.le_of_ble_eq_true rfl) ?_
  refine W.eq (g2 := F0 m 4 ls []) rfl ?_
  refine lv_aload_n hx hb dX1_init_4 rfl (lv_at hl 0 rfl) ?_
  refine lv_bipush (v := 14) hx hb dX1_init_5 (by decide) ?_
  refine va_newa (atype := .int) (ty := .int) (N' := 14) (a0 := (14, .inl (fun _ => 0))) hx hb (hw _ mq_ac) rfl hK hP hD hS hA (fun _ => rfl) (by decide) (by decide) (by decide) (Nat.le_of_ble_eq_true rfl) (Nat.le_of_ble_eq_true rfl) dX1_init_7 (fun q1 cI Hp hK hP hD hS => ?_)
  have hK : va_K (dC, dI) classes [(cI, .int)] s := hK
  have hP : va_P (dC, dI) classes [(h0, .inr (1, [.null, .null, .int 0, .int 0])), (q1, .inl (cI, 14, .inl (fun _ => 0)))] Hp := hP
  have hD : va_D A [(h0, .inr (1, [.null, .null, .int 0, .int 0])), (q1, .inl (cI, 14, .inl (fun _ => 0)))] := hD
  refine va_putF (D := (dC, dI)) (ci := 1) (v := .ref q1) (ty := (.array .int)) (C := RX1) (T := TX1) (N := 4) hx hb hw in_X1 tyX1 tyX1_ok nmX1 hown hK hP hD hS 0 rfl rfl 0 (by decide) (hw _ mq_fl_X1_9) (fun _ h9 => h9) rfl hin rfl (by decide +kernel) rfl rfl (Nat.le_of_ble_eq_true rfl) dX1_init_9 (fun Hp locs hP hD hS => ?_)
  have hP : va_P (dC, dI) classes [(h0, .inr (1, [.ref q1, .null, .int 0, .int 0])), (q1, .inl (cI, 14, .inl (fun _ => 0)))] Hp := hP
  have hD : va_D A [(h0, .inr (1, [.ref q1, .null, .int 0, .int 0])), (q1, .inl (cI, 14, .inl (fun _ => 0)))] := hD
  refine lv_aload_n hx hb dX1_init_12 rfl (lv_at hl 0 rfl) ?_
  refine lv_bipush (v := 14) hx hb dX1_init_13 (by decide) ?_
  refine va_newa (atype := .int) (ty := .int) (N' := 14) (a0 := (14, .inl (fun _ => 0))) hx hb (hw _ mq_ac) rfl hK hP hD hS hA (fun _ => rfl) (by decide) (by decide) (by decide) (Nat.le_of_ble_eq_true rfl) (Nat.le_of_ble_eq_true rfl) dX1_init_15 (fun q2 cB Hp hK hP hD hS => ?_)
  obtain rfl : cI = cB := Option.some.inj ((va_nm_int (hK.2 0 _ rfl).2).symm.trans (va_nm_int (hK.2 1 _ rfl).2))
  have hK : va_K (dC, dI) classes [(cI, .int)] s := hK.sub [0] rfl
  have hP : va_P (dC, dI) classes [(h0, .inr (1, [.ref q1, .null, .int 0, .int 0])), (q1, .inl (cI, 14, .inl (fun _ => 0))), (q2, .inl (cI, 14, .inl (fun _ => 0)))] Hp := hP
  have hD : va_D A [(h0, .inr (1, [.ref q1, .null, .int 0, .int 0])), (q1, .inl (cI, 14, .inl (fun _ => 0))), (q2, .inl (cI, 14, .inl (fun _ => 0)))] := hD
  refine va_putF (D := (dC, dI)) (ci := 1) (v := .ref q2) (ty := (.array .int)) (C := RX1) (T := TX1) (N := 4) hx hb hw in_X1 tyX1 tyX1_ok nmX1 hown hK hP hD hS 0 rfl rfl 1 (by decide) (hw _ mq_fl_X1_15) (fun _ h9 => h9) rfl hin rfl (by decide +kernel) rfl rfl (Nat.le_of_ble_eq_true rfl) dX1_init_17 (fun Hp locs hP hD hS => ?_)
  have hP : va_P (dC, dI) classes [(h0, .inr (1, [.ref q1, .ref q2, .int 0, .int 0])), (q1, .inl (cI, 14, .inl (fun _ => 0))), (q2, .inl (cI, 14, .inl (fun _ => 0)))] Hp := hP
  have hD : va_D A [(h0, .inr (1, [.ref q1, .ref q2, .int 0, .int 0])), (q1, .inl (cI, 14, .inl (fun _ => 0))), (q2, .inl (cI, 14, .inl (fun _ => 0)))] := hD
  refine lv_aload_n hx hb dX1_init_20 rfl (lv_at hl 0 rfl) ?_
  refine lv_iconst (v := 1) hx hb dX1_init_21 (by decide) ?_
  refine va_put (D := (dC, dI)) (ci := 1) (v := .int 1) (ty := .int) (C := RX1) (T := TX1) (N := 4) hx hb hw in_X1 tyX1 tyX1_ok nmX1 hown hK hP hD hS 0 rfl rfl 2 (by decide) (hw _ mq_fl_X1_18) (fun _ h9 => h9) rfl (by decide +kernel) rfl rfl (Nat.le_of_ble_eq_true rfl) dX1_init_22 (fun Hp locs hP hD hS => ?_)
  have hP : va_P (dC, dI) classes [(h0, .inr (1, [.ref q1, .ref q2, .int 1, .int 0])), (q1, .inl (cI, 14, .inl (fun _ => 0))), (q2, .inl (cI, 14, .inl (fun _ => 0)))] Hp := hP
  have hD : va_D A [(h0, .inr (1, [.ref q1, .ref q2, .int 1, .int 0])), (q1, .inl (cI, 14, .inl (fun _ => 0))), (q2, .inl (cI, 14, .inl (fun _ => 0)))] := hD
  refine lv_aload_n hx hb dX1_init_25 rfl (lv_at hl 0 rfl) ?_
  refine lv_iconst (v := 0) hx hb dX1_init_26 (by decide) ?_
  refine va_put (D := (dC, dI)) (ci := 1) (v := .int 0) (ty := .int) (C := RX1) (T := TX1) (N := 4) hx hb hw in_X1 tyX1 tyX1_ok nmX1 hown hK hP hD hS 0 rfl rfl 3 (by decide) (hw _ mq_fl_X1_22) (fun _ h9 => h9) rfl (by decide +kernel) rfl rfl (Nat.le_of_ble_eq_true rfl) dX1_init_27 (fun Hp locs hP hD hS => ?_)
  have hP : va_P (dC, dI) classes [(h0, .inr (1, [.ref q1, .ref q2, .int 1, .int 0])), (q1, .inl (cI, 14, .inl (fun _ => 0))), (q2, .inl (cI, 14, .inl (fun _ => 0)))] Hp := hP
  have hD : va_D A [(h0, .inr (1, [.ref q1, .ref q2, .int 1, .int 0])), (q1, .inl (cI, 14, .inl (fun _ => 0))), (q2, .inl (cI, 14, .inl (fun _ => 0)))] := hD
  refine W.widen (k := 2) (n := 28) (Nat.le_of_ble_eq_true rfl) (Nat.le_of_ble_eq_true rfl) ?_
  exact W.vret hx hb hr (fun t ht hW => ⟨⟨(q1, q2, cI), rfl, trivial, by rw [ht]; exact hP, va_K.moved hW.alike hK, hD⟩, hS.F ht⟩) hS.2.2 dX1_init_30
set_option maxHeartbeats 4000000 in
set_option maxRecDepth 100000 in
theorem c_X0_init (l : Launch) (dC : Nat → ClassId) (dI : Nat → Nat → Nat) (h0 sz : Nat) : Met l yX0_init (wq yX0_init cX0_init 1 none) ({ frames := 1, cells := 1, slots := 3, locals := 20 }) (mu_P (dC, dI) classes [] [(h0, .inr (0, [.null, .int 0]))] sz [.ref h0]) (va_Qv (fun _ : Nat × ClassId => True) (fun u t => va_P (dC, dI) classes [(h0, .inr (0, [.ref (u.1), .int 0])), ((u.1), .inl (u.2, 3, .inl (fun _ => 0)))] t.heap ∧ va_K (dC, dI) classes [(u.2, .int)] t ∧ va_D (va_A [(h0, .inr (0, [.null, .int 0]))] sz) [(h0, .inr (0, [.ref (u.1), .int 0])), ((u.1), .inl (u.2, 3, .inl (fun _ => 0)))]) (va_A [(h0, .inr (0, [.null, .int 0]))] sz)) 1 3 (va_A [(h0, .inr (0, [.null, .int 0]))] sz) := by
  refine Met.ofW (cc := cX0_init) (maxL := 1) (ret := none) (by decide) rfl ?_
  intro p e s m args below meth c s₁ B hml hv
  obtain ⟨rfl, hsz, hP, hK, hN, hD0⟩ := hv
  have hx := B.exec
  have hb := B.bytes
  have hr := B.returns
  have hlocks := B.notSynchronized
  have hts := atoms_spec (ws := (wq yX0_init cX0_init 1 none)) B.pre
  have hw : ∀ w ∈ bigW, w.before _ s = true := fun w h => hts w (List.mem_cons_of_mem _ h)
  have hown : s.vm.findClass RX0 = some m.cls := findClass_of_methodNamed B.named
  have hin : meth.name = "<init>" := (name_of_methodNamed B.named B.method).1
  subst hsz
  have hD := hD0.self (sz := s.heap.size)
  generalize hAe : va_A [(h0, .inr (0, [.null, .int 0]))] s.heap.size = A at hD ⊢
  have hA : ∀ q : Nat, s.heap.size ≤ q → A q := fun q h => by rw [← hAe]; exact Or.inr h
  have hS : va_S A s.heap s.heap [] := va_S.rf
  have hl := lv_entry ([.ref h0]) (n := 1) (Nat.le_of_ble_eq_true rfl)
  rw [lg_entry_eq]
  generalize (lg_sl ([.ref h0]) ++ List.replicate (1 - (lg_sl ([.ref h0])).length) Slot.unset).toArray = ls at hl ⊢
  have hl : lv_has ls 1 [(0, .ref h0)] := hl
  refine lv_aload_n hx hb dX0_init_0 rfl (lv_at hl 0 rfl) ?_
  refine W.objInit hx hb hown (hw _ mq_ml_X0_3) (hw _ mq_im_obj) (hw _ mq_co_obj) rfl (by rw [hml]; exact hl.1) rfl dX0_init_1 (Nat.le_of_ble_eq_true rfl) (Nat.le_of_ble_eq_true rfl) ?_
  refine W.eq (g2 := F0 m 4 ls []) rfl ?_
  refine lv_aload_n hx hb dX0_init_4 rfl (lv_at hl 0 rfl) ?_
  refine lv_iconst (v := 3) hx hb dX0_init_5 (by decide) ?_
  refine va_newa (atype := .int) (ty := .int) (N' := 3) (a0 := (3, .inl (fun _ => 0))) hx hb (hw _ mq_ac) rfl hK hP hD hS hA (fun _ => rfl) (by decide) (by decide) (by decide) (Nat.le_of_ble_eq_true rfl) (Nat.le_of_ble_eq_true rfl) dX0_init_6 (fun q1 cI Hp hK hP hD hS => ?_)
  have hK : va_K (dC, dI) classes [(cI, .int)] s := hK
  have hP : va_P (dC, dI) classes [(h0, .inr (0, [.null, .int 0])), (q1, .inl (cI, 3, .inl (fun _ => 0)))] Hp := hP
  have hD : va_D A [(h0, .inr (0, [.null, .int 0])), (q1, .inl (cI, 3, .inl (fun _ => 0)))] := hD
  refine va_putF (D := (dC, dI)) (ci := 0) (v := .ref q1) (ty := (.array .int)) (C := RX0) (T := TX0) (N := 2) hx hb hw in_X0 tyX0 tyX0_ok nmX0 hown hK hP hD hS 0 rfl rfl 0 (by decide) (hw _ mq_fl_X0_9) (fun _ h9 => h9) rfl hin rfl (by decide +kernel) rfl rfl (Nat.le_of_ble_eq_true rfl) dX0_init_8 (fun Hp locs hP hD hS => ?_)
  have hP : va_P (dC, dI) classes [(h0, .inr (0, [.ref q1, .int 0])), (q1, .inl (cI, 3, .inl (fun _ => 0)))] Hp := hP
  have hD : va_D A [(h0, .inr (0, [.ref q1, .int 0])), (q1, .inl (cI, 3, .inl (fun _ => 0)))] := hD
  refine lv_aload_n hx hb dX0_init_11 rfl (lv_at hl 0 rfl) ?_
  refine lv_iconst (v := 0) hx hb dX0_init_12 (by decide) ?_
  refine va_put (D := (dC, dI)) (ci := 0) (v := .int 0) (ty := .int) (C := RX0) (T := TX0) (N := 2) hx hb hw in_X0 tyX0 tyX0_ok nmX0 hown hK hP hD hS 0 rfl rfl 1 (by decide) (hw _ mq_fl_X0_15) (fun _ h9 => h9) rfl (by decide +kernel) rfl rfl (Nat.le_of_ble_eq_true rfl) dX0_init_13 (fun Hp locs hP hD hS => ?_)
  have hP : va_P (dC, dI) classes [(h0, .inr (0, [.ref q1, .int 0])), (q1, .inl (cI, 3, .inl (fun _ => 0)))] Hp := hP
  have hD : va_D A [(h0, .inr (0, [.ref q1, .int 0])), (q1, .inl (cI, 3, .inl (fun _ => 0)))] := hD
  refine W.widen (k := 1) (n := 3) (Nat.le_of_ble_eq_true rfl) (Nat.le_of_ble_eq_true rfl) ?_
  exact W.vret hx hb hr (fun t ht hW => ⟨⟨(q1, cI), rfl, trivial, by rw [ht]; exact hP, va_K.moved hW.alike hK, hD⟩, hS.F ht⟩) hS.2.2 dX0_init_16
set_option maxHeartbeats 4000000 in
set_option maxRecDepth 100000 in
theorem c_X2_init (l : Launch) (dC : Nat → ClassId) (dI : Nat → Nat → Nat) (h0 sz : Nat) : Met l yX2_init (wq yX2_init cX2_init 1 none) ({ frames := 1, cells := 2, slots := 142, locals := 20 }) (mu_P (dC, dI) classes [] [(h0, .inr (2, [.null, .null, .int 0]))] sz [.ref h0]) (va_Qv (fun _ : Nat × Nat × ClassId => True) (fun u t => va_P (dC, dI) classes [(h0, .inr (2, [.ref (u.1), .ref (u.2.1), .int 1])), ((u.1), .inl (u.2.2, 14, .inl (fun _ => 0))), ((u.2.1), .inl (u.2.2, 128, .inl (fun _ => 0)))] t.heap ∧ va_K (dC, dI) classes [(u.2.2, .int)] t ∧ va_D (va_A [(h0, .inr (2, [.null, .null, .int 0]))] sz) [(h0, .inr (2, [.ref (u.1), .ref (u.2.1), .int 1])), ((u.1), .inl (u.2.2, 14, .inl (fun _ => 0))), ((u.2.1), .inl (u.2.2, 128, .inl (fun _ => 0)))]) (va_A [(h0, .inr (2, [.null, .null, .int 0]))] sz)) 2 142 (va_A [(h0, .inr (2, [.null, .null, .int 0]))] sz) := by
  refine Met.ofW (cc := cX2_init) (maxL := 1) (ret := none) (by decide) rfl ?_
  intro p e s m args below meth c s₁ B hml hv
  obtain ⟨rfl, hsz, hP, hK, hN, hD0⟩ := hv
  have hx := B.exec
  have hb := B.bytes
  have hr := B.returns
  have hlocks := B.notSynchronized
  have hts := atoms_spec (ws := (wq yX2_init cX2_init 1 none)) B.pre
  have hw : ∀ w ∈ bigW, w.before _ s = true := fun w h => hts w (List.mem_cons_of_mem _ h)
  have hown : s.vm.findClass RX2 = some m.cls := findClass_of_methodNamed B.named
  have hin : meth.name = "<init>" := (name_of_methodNamed B.named B.method).1
  subst hsz
  have hD := hD0.self (sz := s.heap.size)
  generalize hAe : va_A [(h0, .inr (2, [.null, .null, .int 0]))] s.heap.size = A at hD ⊢
  have hA : ∀ q : Nat, s.heap.size ≤ q → A q := fun q h => by rw [← hAe]; exact Or.inr h
  have hS : va_S A s.heap s.heap [] := va_S.rf
  have hl := lv_entry ([.ref h0]) (n := 1) (Nat.le_of_ble_eq_true rfl)
  rw [lg_entry_eq]
  generalize (lg_sl ([.ref h0]) ++ List.replicate (1 - (lg_sl ([.ref h0])).length) Slot.unset).toArray = ls at hl ⊢
  have hl : lv_has ls 1 [(0, .ref h0)] := hl
  refine lv_aload_n hx hb dX2_init_0 rfl (lv_at hl 0 rfl) ?_
  refine W.objInit hx hb hown (hw _ mq_ml_X2_3) (hw _ mq_im_obj) (hw _ mq_co_obj) rfl (by rw [hml]; exact hl.1) rfl dX2_init_1 (Nat.le_of_ble_eq_true rfl) (Nat.le_of_ble_eq_true rfl) ?_
  refine W.eq (g2 := F0 m 4 ls []) rfl ?_
  refine lv_aload_n hx hb dX2_init_4 rfl (lv_at hl 0 rfl) ?_
  refine lv_bipush (v := 14) hx hb dX2_init_5 (by decide) ?_
  refine va_newa (atype := .int) (ty := .int) (N' := 14) (a0 := (14, .inl (fun _ => 0))) hx hb (hw _ mq_ac) rfl hK hP hD hS hA (fun _ => rfl) (by decide) (by decide) (by decide) (Nat.le_of_ble_eq_true rfl) (Nat.le_of_ble_eq_true rfl) dX2_init_7 (fun q1 cI Hp hK hP hD hS => ?_)
  have hK : va_K (dC, dI) classes [(cI, .int)] s := hK
  have hP : va_P (dC, dI) classes [(h0, .inr (2, [.null, .null, .int 0])), (q1, .inl (cI, 14, .inl (fun _ => 0)))] Hp := hP
  have hD : va_D A [(h0, .inr (2, [.null, .null, .int 0])), (q1, .inl (cI, 14, .inl (fun _ => 0)))] := hD
  refine va_putF (D := (dC, dI)) (ci := 2) (v := .ref q1) (ty := (.array .int)) (C := RX2) (T := TX2) (N := 3) hx hb hw in_X2 tyX2 tyX2_ok nmX2 hown hK hP hD hS 0 rfl rfl 0 (by decide) (hw _ mq_fl_X2_9) (fun _ h9 => h9) rfl hin rfl (by decide +kernel) rfl rfl (Nat.le_of_ble_eq_true rfl) dX2_init_9 (fun Hp locs hP hD hS => ?_)
  have hP : va_P (dC, dI) classes [(h0, .inr (2, [.ref q1, .null, .int 0])), (q1, .inl (cI, 14, .inl (fun _ => 0)))] Hp := hP
  have hD : va_D A [(h0, .inr (2, [.ref q1, .null, .int 0])), (q1, .inl (cI, 14, .inl (fun _ => 0)))] := hD
  refine lv_aload_n hx hb dX2_init_12 rfl (lv_at hl 0 rfl) ?_
  refine lv_sipush (v := 128) hx hb dX2_init_13 (by decide) ?_
  refine va_newa (atype := .int) (ty := .int) (N' := 128) (a0 := (128, .inl (fun _ => 0))) hx hb (hw _ mq_ac) rfl hK hP hD hS hA (fun _ => rfl) (by decide) (by decide) (by decide) (Nat.le_of_ble_eq_true rfl) (Nat.le_of_ble_eq_true rfl) dX2_init_16 (fun q2 cB Hp hK hP hD hS => ?_)
  obtain rfl : cI = cB := Option.some.inj ((va_nm_int (hK.2 0 _ rfl).2).symm.trans (va_nm_int (hK.2 1 _ rfl).2))
  have hK : va_K (dC, dI) classes [(cI, .int)] s := hK.sub [0] rfl
  have hP : va_P (dC, dI) classes [(h0, .inr (2, [.ref q1, .null, .int 0])), (q1, .inl (cI, 14, .inl (fun _ => 0))), (q2, .inl (cI, 128, .inl (fun _ => 0)))] Hp := hP
  have hD : va_D A [(h0, .inr (2, [.ref q1, .null, .int 0])), (q1, .inl (cI, 14, .inl (fun _ => 0))), (q2, .inl (cI, 128, .inl (fun _ => 0)))] := hD
  refine va_putF (D := (dC, dI)) (ci := 2) (v := .ref q2) (ty := (.array .int)) (C := RX2) (T := TX2) (N := 3) hx hb hw in_X2 tyX2 tyX2_ok nmX2 hown hK hP hD hS 0 rfl rfl 1 (by decide) (hw _ mq_fl_X2_15) (fun _ h9 => h9) rfl hin rfl (by decide +kernel) rfl rfl (Nat.le_of_ble_eq_true rfl) dX2_init_18 (fun Hp locs hP hD hS => ?_)
  have hP : va_P (dC, dI) classes [(h0, .inr (2, [.ref q1, .ref q2, .int 0])), (q1, .inl (cI, 14, .inl (fun _ => 0))), (q2, .inl (cI, 128, .inl (fun _ => 0)))] Hp := hP
  have hD : va_D A [(h0, .inr (2, [.ref q1, .ref q2, .int 0])), (q1, .inl (cI, 14, .inl (fun _ => 0))), (q2, .inl (cI, 128, .inl (fun _ => 0)))] := hD
  refine lv_aload_n hx hb dX2_init_21 rfl (lv_at hl 0 rfl) ?_
  refine lv_iconst (v := 1) hx hb dX2_init_22 (by decide) ?_
  refine va_put (D := (dC, dI)) (ci := 2) (v := .int 1) (ty := .boolean) (C := RX2) (T := TX2) (N := 3) hx hb hw in_X2 tyX2 tyX2_ok nmX2 hown hK hP hD hS 0 rfl rfl 2 (by decide) (hw _ mq_fl_X2_18) (fun _ h9 => h9) rfl (by decide +kernel) rfl rfl (Nat.le_of_ble_eq_true rfl) dX2_init_23 (fun Hp locs hP hD hS => ?_)
  have hP : va_P (dC, dI) classes [(h0, .inr (2, [.ref q1, .ref q2, .int 1])), (q1, .inl (cI, 14, .inl (fun _ => 0))), (q2, .inl (cI, 128, .inl (fun _ => 0)))] Hp := hP
  have hD : va_D A [(h0, .inr (2, [.ref q1, .ref q2, .int 1])), (q1, .inl (cI, 14, .inl (fun _ => 0))), (q2, .inl (cI, 128, .inl (fun _ => 0)))] := hD
  refine W.widen (k := 2) (n := 142) (Nat.le_of_ble_eq_true rfl) (Nat.le_of_ble_eq_true rfl) ?_
  exact W.vret hx hb hr (fun t ht hW => ⟨⟨(q1, q2, cI), rfl, trivial, by rw [ht]; exact hP, va_K.moved hW.alike hK, hD⟩, hS.F ht⟩) hS.2.2 dX2_init_26
set_option maxHeartbeats 4000000 in
set_option maxRecDepth 100000 in
theorem c_X3_init (l : Launch) (dC : Nat → ClassId) (dI : Nat → Nat → Nat) (h0 sz : Nat) : Met l yX3_init (wq yX3_init cX3_init 1 none) ({ frames := 2, cells := 8, slots := 182, locals := 40 }) (mu_P (dC, dI) classes [] [(h0, .inr (3, [.null, .null, .null]))] sz [.ref h0]) (va_Qv (fun _ : Nat × Nat × Nat × Nat × Nat × Nat × Nat × Nat × ClassId => True) (fun u t => va_P (dC, dI) classes [(h0, .inr (3, [.ref (u.1), .ref (u.2.2.2.1), .ref (u.2.2.2.2.2.1)])), ((u.1), .inr (1, [.ref (u.2.1), .ref (u.2.2.1), .int 1, .int 0])), ((u.2.1), .inl (u.2.2.2.2.2.2.2.2, 14, .inl (fun _ => 0))), ((u.2.2.1), .inl (u.2.2.2.2.2.2.2.2, 14, .inl (fun _ => 0))), ((u.2.2.2.1), .inr (0, [.ref (u.2.2.2.2.1), .int 0])), ((u.2.2.2.2.1), .inl (u.2.2.2.2.2.2.2.2, 3, .inl (fun _ => 0))), ((u.2.2.2.2.2.1), .inr (2, [.ref (u.2.2.2.2.2.2.1), .ref (u.2.2.2.2.2.2.2.1), .int 1])), ((u.2.2.2.2.2.2.1), .inl (u.2.2.2.2.2.2.2.2, 14, .inl (fun _ => 0))), ((u.2.2.2.2.2.2.2.1), .inl (u.2.2.2.2.2.2.2.2, 128, .inl (fun _ => 0)))] t.heap ∧ va_K (dC, dI) classes [(u.2.2.2.2.2.2.2.2, .int)] t ∧ va_D (va_A [(h0, .inr (3, [.null, .null, .null]))] sz) [(h0, .inr (3, [.ref (u.1), .ref (u.2.2.2.1), .ref (u.2.2.2.2.2.1)])), ((u.1), .inr (1, [.ref (u.2.1), .ref (u.2.2.1), .int 1, .int 0])), ((u.2.1), .inl (u.2.2.2.2.2.2.2.2, 14, .inl (fun _ => 0))), ((u.2.2.1), .inl (u.2.2.2.2.2.2.2.2, 14, .inl (fun _ => 0))), ((u.2.2.2.1), .inr (0, [.ref (u.2.2.2.2.1), .int 0])), ((u.2.2.2.2.1), .inl (u.2.2.2.2.2.2.2.2, 3, .inl (fun _ => 0))), ((u.2.2.2.2.2.1), .inr (2, [.ref (u.2.2.2.2.2.2.1), .ref (u.2.2.2.2.2.2.2.1), .int 1])), ((u.2.2.2.2.2.2.1), .inl (u.2.2.2.2.2.2.2.2, 14, .inl (fun _ => 0))), ((u.2.2.2.2.2.2.2.1), .inl (u.2.2.2.2.2.2.2.2, 128, .inl (fun _ => 0)))]) (va_A [(h0, .inr (3, [.null, .null, .null]))] sz)) 8 182 (va_A [(h0, .inr (3, [.null, .null, .null]))] sz) := by
  refine Met.ofW (cc := cX3_init) (maxL := 1) (ret := none) (by decide) rfl ?_
  intro p e s m args below meth c s₁ B hml hv
  obtain ⟨rfl, hsz, hP, hK, hN, hD0⟩ := hv
  have hx := B.exec
  have hb := B.bytes
  have hr := B.returns
  have hlocks := B.notSynchronized
  have hts := atoms_spec (ws := (wq yX3_init cX3_init 1 none)) B.pre
  have hw : ∀ w ∈ bigW, w.before _ s = true := fun w h => hts w (List.mem_cons_of_mem _ h)
  have hown : s.vm.findClass RX3 = some m.cls := findClass_of_methodNamed B.named
  have hin : meth.name = "<init>" := (name_of_methodNamed B.named B.method).1
  subst hsz
  have hD := hD0.self (sz := s.heap.size)
  generalize hAe : va_A [(h0, .inr (3, [.null, .null, .null]))] s.heap.size = A at hD ⊢
  have hA : ∀ q : Nat, s.heap.size ≤ q → A q := fun q h => by rw [← hAe]; exact Or.inr h
  have hS : va_S A s.heap s.heap [] := va_S.rf
  have hl := lv_entry ([.ref h0]) (n := 1) (Nat.le_of_ble_eq_true rfl)
  rw [lg_entry_eq]
  generalize (lg_sl ([.ref h0]) ++ List.replicate (1 - (lg_sl ([.ref h0])).length) Slot.unset).toArray = ls at hl ⊢
  have hl : lv_has ls 1 [(0, .ref h0)] := hl
  refine lv_aload_n hx hb dX3_init_0 rfl (lv_at hl 0 rfl) ?_
  refine W.objInit hx hb hown (hw _ mq_ml_X3_1) (hw _ mq_im_obj) (hw _ mq_co_obj) rfl (by rw [hml]; exact hl.1) rfl dX3_init_1 (Nat.le_of_ble_eq_true rfl) (Nat.le_of_ble_eq_true rfl) ?_
  refine W.eq (g2 := F0 m 4 ls []) rfl ?_
  refine lv_aload_n hx hb dX3_init_4 rfl (lv_at hl 0 rfl) ?_
  refine va_new (ci := 1) (fs := [.null, .null, .int 0, .int 0]) (C := RX1) (T := TX1) (N := 4) hx hb hw in_X1 tyX1 tyX1_ok hown (hw _ mq_cl_X3_7) (hw _ mq_ins_X1) (hw _ mq_in_X1) hK hP hD hS hA rfl (fun j hj => by rcases (show j = 0 ∨ j = 1 ∨ j = 2 ∨ j = 3 by omega) with rfl | rfl | rfl | rfl <;> rfl) (Nat.le_of_ble_eq_true rfl) (Nat.le_of_ble_eq_true rfl) dX3_init_5 (fun q1 Hp hP hD hS => ?_)
  have hP : va_P (dC, dI) classes [(h0, .inr (3, [.null, .null, .null])), (q1, .inr (1, [.null, .null, .int 0, .int 0]))] Hp := hP
  have hD : va_D A [(h0, .inr (3, [.null, .null, .null])), (q1, .inr (1, [.null, .null, .int 0, .int 0]))] := hD
  refine lv_dup hx hb dX3_init_8 rfl ?_
  have hPc := hP.sub (ws' := [(q1, .inr (1, [.null, .null, .int 0, .int 0]))]) [1] rfl
  have hDc := hD.sub (ws' := [(q1, .inr (1, [.null, .null, .int 0, .int 0]))]) [1] (by decide) rfl
  have hKc := hK.sub (tys' := []) [] rfl
  have hFc := va_free (wc := [(q1, .inr (1, [.null, .null, .int 0, .int 0]))]) hD hS hA [1] rfl
  refine va_callv (va_runIN (As := []) (rest := [.ref q1, .ref h0]) ⟨hx, hb, hml, hown, hts⟩ (c_X1_init l dC dI q1 Hp.size) ⟨va_cnB 0 hts (bw_c mq_co_X1_init) rfl rfl rfl (nm_X3_9 hN) (hw _ mq_in_X1) (by decide +kernel) ⟨Nat.le_of_ble_eq_true rfl, Nat.le_of_ble_eq_true rfl⟩, rfl, hw _ mq_im_X1_init⟩ ⟨mu_blind, mu_pre hPc hKc hN hDc⟩ rfl rfl hl.1 rfl (lv_room (Nat.le_of_ble_eq_true rfl)) dX3_init_9 ⟨Nat.le_of_ble_eq_true rfl, Nat.le_of_ble_eq_true rfl⟩) hS (fun q _ h => hFc q h) hFc (fun u t Hq locs ht hvm h5 hB hz1 hk1 hS => ?_)
  obtain ⟨⟨q2, q3, cI⟩, rfl⟩ : ∃ z, z = u := ⟨_, rfl⟩
  obtain ⟨hP1, hK1, hD1⟩ := hB
  rw [ht] at hP1
  have hK1 : va_K (dC, dI) classes [(cI, .int)] s := va_K.moved hvm.symm hK1
  obtain ⟨hP, hD⟩ := va_join (wr := [(h0, .inr (3, [.null, .null, .null]))]) (w1 := [(q1, .inr (1, [.ref q2, .ref q3, .int 1, .int 0])), (q2, .inl (cI, 14, .inl (fun _ => 0))), (q3, .inl (cI, 14, .inl (fun _ => 0)))]) hP hD [1] [0] rfl rfl (by decide) (by decide) hk1 hFc hP1 hD1
  have hK := hK1
  generalize Hq = Hp at hP hS ⊢
  have hP : va_P (dC, dI) classes [(h0, .inr (3, [.null, .null, .null])), (q1, .inr (1, [.ref q2, .ref q3, .int 1, .int 0])), (q2, .inl (cI, 14, .inl (fun _ => 0))), (q3, .inl (cI, 14, .inl (fun _ => 0)))] Hp := hP
  have hD : va_D A [(h0, .inr (3, [.null, .null, .null])), (q1, .inr (1, [.ref q2, .ref q3, .int 1, .int 0])), (q2, .inl (cI, 14, .inl (fun _ => 0))), (q3, .inl (cI, 14, .inl (fun _ => 0)))] := hD
  refine va_putF (D := (dC, dI)) (ci := 3) (v := .ref q1) (ty := (.object "BranchPacker$Net")) (C := RX3) (T := TX3) (N := 3) hx hb hw in_X3 tyX3 tyX3_ok nmX3 hown hK hP hD hS 0 rfl rfl 0 (by decide) (hw _ mq_fl_X3_10) (fun _ h9 => h9) rfl hin rfl (by decide +kernel) rfl rfl (Nat.le_of_ble_eq_true rfl) dX3_init_12 (fun Hp locs hP hD hS => ?_)
  have hP : va_P (dC, dI) classes [(h0, .inr (3, [.ref q1, .null, .null])), (q1, .inr (1, [.ref q2, .ref q3, .int 1, .int 0])), (q2, .inl (cI, 14, .inl (fun _ => 0))), (q3, .inl (cI, 14, .inl (fun _ => 0)))] Hp := hP
  have hD : va_D A [(h0, .inr (3, [.ref q1, .null, .null])), (q1, .inr (1, [.ref q2, .ref q3, .int 1, .int 0])), (q2, .inl (cI, 14, .inl (fun _ => 0))), (q3, .inl (cI, 14, .inl (fun _ => 0)))] := hD
  refine lv_aload_n hx hb dX3_init_15 rfl (lv_at hl 0 rfl) ?_
  refine va_new (ci := 0) (fs := [.null, .int 0]) (C := RX0) (T := TX0) (N := 2) hx hb hw in_X0 tyX0 tyX0_ok hown (hw _ mq_cl_X3_16) (hw _ mq_ins_X0) (hw _ mq_in_X0) hK hP hD hS hA rfl (fun j hj => by rcases (show j = 0 ∨ j = 1 by omega) with rfl | rfl <;> rfl) (Nat.le_of_ble_eq_true rfl) (Nat.le_of_ble_eq_true rfl) dX3_init_16 (fun q4 Hp hP hD hS => ?_)
  have hP : va_P (dC, dI) classes [(h0, .inr (3, [.ref q1, .null, .null])), (q1, .inr (1, [.ref q2, .ref q3, .int 1, .int 0])), (q2, .inl (cI, 14, .inl (fun _ => 0))), (q3, .inl (cI, 14, .inl (fun _ => 0))), (q4, .inr (0, [.null, .int 0]))] Hp := hP
  have hD : va_D A [(h0, .inr (3, [.ref q1, .null, .null])), (q1, .inr (1, [.ref q2, .ref q3, .int 1, .int 0])), (q2, .inl (cI, 14, .inl (fun _ => 0))), (q3, .inl (cI, 14, .inl (fun _ => 0))), (q4, .inr (0, [.null, .int 0]))] := hD
  refine lv_dup hx hb dX3_init_19 rfl ?_
  have hPc := hP.sub (ws' := [(q4, .inr (0, [.null, .int 0]))]) [4] rfl
  have hDc := hD.sub (ws' := [(q4, .inr (0, [.null, .int 0]))]) [4] (by decide) rfl
  have hKc := hK.sub (tys' := []) [] rfl
  have hFc := va_free (wc := [(q4, .inr (0, [.null, .int 0]))]) hD hS hA [4] rfl
  refine va_callv (va_runIN (As := []) (rest := [.ref q4, .ref h0]) ⟨hx, hb, hml, hown, hts⟩ (c_X0_init l dC dI q4 Hp.size) ⟨va_cnB 0 hts (bw_c mq_co_X0_init) rfl rfl rfl (nm_X3_18 hN) (hw _ mq_in_X0) (by decide +kernel) ⟨Nat.le_of_ble_eq_true rfl, Nat.le_of_ble_eq_true rfl⟩, rfl, hw _ mq_im_X0_init⟩ ⟨mu_blind, mu_pre hPc hKc hN hDc⟩ rfl rfl hl.1 rfl (lv_room (Nat.le_of_ble_eq_true rfl)) dX3_init_20 ⟨Nat.le_of_ble_eq_true rfl, Nat.le_of_ble_eq_true rfl⟩) hS (fun q _ h => hFc q h) hFc (fun u t Hq locs ht hvm h5 hB hz1 hk1 hS => ?_)
  obtain ⟨⟨q5, cB⟩, rfl⟩ : ∃ z, z = u := ⟨_, rfl⟩
  obtain ⟨hP1, hK1, hD1⟩ := hB
  rw [ht] at hP1
  have hK1 : va_K (dC, dI) classes [(cB, .int)] s := va_K.moved hvm.symm hK1
  obtain rfl : cI = cB := Option.some.inj ((va_nm_int (hK.2 0 _ rfl).2).symm.trans (va_nm_int (hK1.2 0 _ rfl).2))
  obtain ⟨hP, hD⟩ := va_join (wr := [(h0, .inr (3, [.ref q1, .null, .null])), (q1, .inr (1, [.ref q2, .ref q3, .int 1, .int 0])), (q2, .inl (cI, 14, .inl (fun _ => 0))), (q3, .inl (cI, 14, .inl (fun _ => 0)))]) (w1 := [(q4, .inr (0, [.ref q5, .int 0])), (q5, .inl (cI, 3, .inl (fun _ => 0)))]) hP hD [4] [0, 1, 2, 3] rfl rfl (by decide) (by decide) hk1 hFc hP1 hD1
  have hK := hK1
  generalize Hq = Hp at hP hS ⊢
  have hP : va_P (dC, dI) classes [(h0, .inr (3, [.ref q1, .null, .null])), (q1, .inr (1, [.ref q2, .ref q3, .int 1, .int 0])), (q2, .inl (cI, 14, .inl (fun _ => 0))), (q3, .inl (cI, 14, .inl (fun _ => 0))), (q4, .inr (0, [.ref q5, .int 0])), (q5, .inl (cI, 3, .inl (fun _ => 0)))] Hp := hP
  have hD : va_D A [(h0, .inr (3, [.ref q1, .null, .null])), (q1, .inr (1, [.ref q2, .ref q3, .int 1, .int 0])), (q2, .inl (cI, 14, .inl (fun _ => 0))), (q3, .inl (cI, 14, .inl (fun _ => 0))), (q4, .inr (0, [.ref q5, .int 0])), (q5, .inl (cI, 3, .inl (fun _ => 0)))] := hD
  refine va_putF (D := (dC, dI)) (ci := 3) (v := .ref q4) (ty := (.object "BranchPacker$Grove")) (C := RX3) (T := TX3) (N := 3) hx hb hw in_X3 tyX3 tyX3_ok nmX3 hown hK hP hD hS 0 rfl rfl 1 (by decide) (hw _ mq_fl_X3_19) (fun _ h9 => h9) rfl hin rfl (by decide +kernel) rfl rfl (Nat.le_of_ble_eq_true rfl) dX3_init_23 (fun Hp locs hP hD hS => ?_)
  have hP : va_P (dC, dI) classes [(h0, .inr (3, [.ref q1, .ref q4, .null])), (q1, .inr (1, [.ref q2, .ref q3, .int 1, .int 0])), (q2, .inl (cI, 14, .inl (fun _ => 0))), (q3, .inl (cI, 14, .inl (fun _ => 0))), (q4, .inr (0, [.ref q5, .int 0])), (q5, .inl (cI, 3, .inl (fun _ => 0)))] Hp := hP
  have hD : va_D A [(h0, .inr (3, [.ref q1, .ref q4, .null])), (q1, .inr (1, [.ref q2, .ref q3, .int 1, .int 0])), (q2, .inl (cI, 14, .inl (fun _ => 0))), (q3, .inl (cI, 14, .inl (fun _ => 0))), (q4, .inr (0, [.ref q5, .int 0])), (q5, .inl (cI, 3, .inl (fun _ => 0)))] := hD
  refine lv_aload_n hx hb dX3_init_26 rfl (lv_at hl 0 rfl) ?_
  refine va_new (ci := 2) (fs := [.null, .null, .int 0]) (C := RX2) (T := TX2) (N := 3) hx hb hw in_X2 tyX2 tyX2_ok hown (hw _ mq_cl_X3_23) (hw _ mq_ins_X2) (hw _ mq_in_X2) hK hP hD hS hA rfl (fun j hj => by rcases (show j = 0 ∨ j = 1 ∨ j = 2 by omega) with rfl | rfl | rfl <;> rfl) (Nat.le_of_ble_eq_true rfl) (Nat.le_of_ble_eq_true rfl) dX3_init_27 (fun q6 Hp hP hD hS => ?_)
  have hP : va_P (dC, dI) classes [(h0, .inr (3, [.ref q1, .ref q4, .null])), (q1, .inr (1, [.ref q2, .ref q3, .int 1, .int 0])), (q2, .inl (cI, 14, .inl (fun _ => 0))), (q3, .inl (cI, 14, .inl (fun _ => 0))), (q4, .inr (0, [.ref q5, .int 0])), (q5, .inl (cI, 3, .inl (fun _ => 0))), (q6, .inr (2, [.null, .null, .int 0]))] Hp := hP
  have hD : va_D A [(h0, .inr (3, [.ref q1, .ref q4, .null])), (q1, .inr (1, [.ref q2, .ref q3, .int 1, .int 0])), (q2, .inl (cI, 14, .inl (fun _ => 0))), (q3, .inl (cI, 14, .inl (fun _ => 0))), (q4, .inr (0, [.ref q5, .int 0])), (q5, .inl (cI, 3, .inl (fun _ => 0))), (q6, .inr (2, [.null, .null, .int 0]))] := hD
  refine lv_dup hx hb dX3_init_30 rfl ?_
  have hPc := hP.sub (ws' := [(q6, .inr (2, [.null, .null, .int 0]))]) [6] rfl
  have hDc := hD.sub (ws' := [(q6, .inr (2, [.null, .null, .int 0]))]) [6] (by decide) rfl
  have hKc := hK.sub (tys' := []) [] rfl
  have hFc := va_free (wc := [(q6, .inr (2, [.null, .null, .int 0]))]) hD hS hA [6] rfl
  refine va_callv (va_runIN (As := []) (rest := [.ref q6, .ref h0]) ⟨hx, hb, hml, hown, hts⟩ (c_X2_init l dC dI q6 Hp.size) ⟨va_cnB 0 hts (bw_c mq_co_X2_init) rfl rfl rfl (nm_X3_25 hN) (hw _ mq_in_X2) (by decide +kernel) ⟨Nat.le_of_ble_eq_true rfl, Nat.le_of_ble_eq_true rfl⟩, rfl, hw _ mq_im_X2_init⟩ ⟨mu_blind, mu_pre hPc hKc hN hDc⟩ rfl rfl hl.1 rfl (lv_room (Nat.le_of_ble_eq_true rfl)) dX3_init_31 ⟨Nat.le_of_ble_eq_true rfl, Nat.le_of_ble_eq_true rfl⟩) hS (fun q _ h => hFc q h) hFc (fun u t Hq locs ht hvm h5 hB hz1 hk1 hS => ?_)
  obtain ⟨⟨q7, q8, cB⟩, rfl⟩ : ∃ z, z = u := ⟨_, rfl⟩
  obtain ⟨hP1, hK1, hD1⟩ := hB
  rw [ht] at hP1
  have hK1 : va_K (dC, dI) classes [(cB, .int)] s := va_K.moved hvm.symm hK1
  obtain rfl : cI = cB := Option.some.inj ((va_nm_int (hK.2 0 _ rfl).2).symm.trans (va_nm_int (hK1.2 0 _ rfl).2))
  obtain ⟨hP, hD⟩ := va_join (wr := [(h0, .inr (3, [.ref q1, .ref q4, .null])), (q1, .inr (1, [.ref q2, .ref q3, .int 1, .int 0])), (q2, .inl (cI, 14, .inl (fun _ => 0))), (q3, .inl (cI, 14, .inl (fun _ => 0))), (q4, .inr (0, [.ref q5, .int 0])), (q5, .inl (cI, 3, .inl (fun _ => 0)))]) (w1 := [(q6, .inr (2, [.ref q7, .ref q8, .int 1])), (q7, .inl (cI, 14, .inl (fun _ => 0))), (q8, .inl (cI, 128, .inl (fun _ => 0)))]) hP hD [6] [0, 1, 2, 3, 4, 5] rfl rfl (by decide) (by decide) hk1 hFc hP1 hD1
  have hK := hK1
  generalize Hq = Hp at hP hS ⊢
  have hP : va_P (dC, dI) classes [(h0, .inr (3, [.ref q1, .ref q4, .null])), (q1, .inr (1, [.ref q2, .ref q3, .int 1, .int 0])), (q2, .inl (cI, 14, .inl (fun _ => 0))), (q3, .inl (cI, 14, .inl (fun _ => 0))), (q4, .inr (0, [.ref q5, .int 0])), (q5, .inl (cI, 3, .inl (fun _ => 0))), (q6, .inr (2, [.ref q7, .ref q8, .int 1])), (q7, .inl (cI, 14, .inl (fun _ => 0))), (q8, .inl (cI, 128, .inl (fun _ => 0)))] Hp := hP
  have hD : va_D A [(h0, .inr (3, [.ref q1, .ref q4, .null])), (q1, .inr (1, [.ref q2, .ref q3, .int 1, .int 0])), (q2, .inl (cI, 14, .inl (fun _ => 0))), (q3, .inl (cI, 14, .inl (fun _ => 0))), (q4, .inr (0, [.ref q5, .int 0])), (q5, .inl (cI, 3, .inl (fun _ => 0))), (q6, .inr (2, [.ref q7, .ref q8, .int 1])), (q7, .inl (cI, 14, .inl (fun _ => 0))), (q8, .inl (cI, 128, .inl (fun _ => 0)))] := hD
  refine va_putF (D := (dC, dI)) (ci := 3) (v := .ref q6) (ty := (.object "BranchPacker$Packing")) (C := RX3) (T := TX3) (N := 3) hx hb hw in_X3 tyX3 tyX3_ok nmX3 hown hK hP hD hS 0 rfl rfl 2 (by decide) (hw _ mq_fl_X3_26) (fun _ h9 => h9) rfl hin rfl (by decide +kernel) rfl rfl (Nat.le_of_ble_eq_true rfl) dX3_init_34 (fun Hp locs hP hD hS => ?_)
  have hP : va_P (dC, dI) classes [(h0, .inr (3, [.ref q1, .ref q4, .ref q6])), (q1, .inr (1, [.ref q2, .ref q3, .int 1, .int 0])), (q2, .inl (cI, 14, .inl (fun _ => 0))), (q3, .inl (cI, 14, .inl (fun _ => 0))), (q4, .inr (0, [.ref q5, .int 0])), (q5, .inl (cI, 3, .inl (fun _ => 0))), (q6, .inr (2, [.ref q7, .ref q8, .int 1])), (q7, .inl (cI, 14, .inl (fun _ => 0))), (q8, .inl (cI, 128, .inl (fun _ => 0)))] Hp := hP
  have hD : va_D A [(h0, .inr (3, [.ref q1, .ref q4, .ref q6])), (q1, .inr (1, [.ref q2, .ref q3, .int 1, .int 0])), (q2, .inl (cI, 14, .inl (fun _ => 0))), (q3, .inl (cI, 14, .inl (fun _ => 0))), (q4, .inr (0, [.ref q5, .int 0])), (q5, .inl (cI, 3, .inl (fun _ => 0))), (q6, .inr (2, [.ref q7, .ref q8, .int 1])), (q7, .inl (cI, 14, .inl (fun _ => 0))), (q8, .inl (cI, 128, .inl (fun _ => 0)))] := hD
  refine W.widen (k := 8) (n := 182) (Nat.le_of_ble_eq_true rfl) (Nat.le_of_ble_eq_true rfl) ?_
  exact W.vret hx hb hr (fun t ht hW => ⟨⟨(q1, q2, q3, q4, q5, q6, q7, q8, cI), rfl, trivial, by rw [ht]; exact hP, va_K.moved hW.alike hK, hD⟩, hS.F ht⟩) hS.2.2 dX3_init_37
set_option maxHeartbeats 4000000 in
set_option maxRecDepth 100000 in
theorem c_X4_init (l : Launch) (dC : Nat → ClassId) (dI : Nat → Nat → Nat) (h0 sz : Nat) : Met l yX4_init (wq yX4_init cX4_init 1 none) ({ frames := 1, cells := 9, slots := 130, locals := 20 }) (mu_P (dC, dI) classes [] [(h0, .inr (4, [.int 0, .int 0, .int 0, .null, .null, .null, .null, .null, .null, .null, .null, .null]))] sz [.ref h0]) (va_Qv (fun _ : Nat × Nat × Nat × Nat × Nat × Nat × Nat × Nat × Nat × ClassId => True) (fun u t => va_P (dC, dI) classes [(h0, .inr (4, [.int 1, .int 0, .int 0, .ref (u.1), .ref (u.2.1), .ref (u.2.2.1), .ref (u.2.2.2.1), .ref (u.2.2.2.2.1), .ref (u.2.2.2.2.2.1), .ref (u.2.2.2.2.2.2.1), .ref (u.2.2.2.2.2.2.2.1), .ref (u.2.2.2.2.2.2.2.2.1)])), ((u.1), .inl (u.2.2.2.2.2.2.2.2.2, 14, .inl (fun _ => 0))), ((u.2.1), .inl (u.2.2.2.2.2.2.2.2.2, 14, .inl (fun _ => 0))), ((u.2.2.1), .inl (u.2.2.2.2.2.2.2.2.2, 3, .inl (fun _ => 0))), ((u.2.2.2.1), .inl (u.2.2.2.2.2.2.2.2.2, 14, .inl (fun _ => 0))), ((u.2.2.2.2.1), .inl (u.2.2.2.2.2.2.2.2.2, 21, .inl (fun _ => 0))), ((u.2.2.2.2.2.1), .inl (u.2.2.2.2.2.2.2.2.2, 16, .inl (fun _ => 0))), ((u.2.2.2.2.2.2.1), .inl (u.2.2.2.2.2.2.2.2.2, 16, .inl (fun _ => 0))), ((u.2.2.2.2.2.2.2.1), .inl (u.2.2.2.2.2.2.2.2.2, 16, .inl (fun _ => 0))), ((u.2.2.2.2.2.2.2.2.1), .inl (u.2.2.2.2.2.2.2.2.2, 16, .inl (fun _ => 0)))] t.heap ∧ va_K (dC, dI) classes [(u.2.2.2.2.2.2.2.2.2, .int)] t ∧ va_D (va_A [(h0, .inr (4, [.int 0, .int 0, .int 0, .null, .null, .null, .null, .null, .null, .null, .null, .null]))] sz) [(h0, .inr (4, [.int 1, .int 0, .int 0, .ref (u.1), .ref (u.2.1), .ref (u.2.2.1), .ref (u.2.2.2.1), .ref (u.2.2.2.2.1), .ref (u.2.2.2.2.2.1), .ref (u.2.2.2.2.2.2.1), .ref (u.2.2.2.2.2.2.2.1), .ref (u.2.2.2.2.2.2.2.2.1)])), ((u.1), .inl (u.2.2.2.2.2.2.2.2.2, 14, .inl (fun _ => 0))), ((u.2.1), .inl (u.2.2.2.2.2.2.2.2.2, 14, .inl (fun _ => 0))), ((u.2.2.1), .inl (u.2.2.2.2.2.2.2.2.2, 3, .inl (fun _ => 0))), ((u.2.2.2.1), .inl (u.2.2.2.2.2.2.2.2.2, 14, .inl (fun _ => 0))), ((u.2.2.2.2.1), .inl (u.2.2.2.2.2.2.2.2.2, 21, .inl (fun _ => 0))), ((u.2.2.2.2.2.1), .inl (u.2.2.2.2.2.2.2.2.2, 16, .inl (fun _ => 0))), ((u.2.2.2.2.2.2.1), .inl (u.2.2.2.2.2.2.2.2.2, 16, .inl (fun _ => 0))), ((u.2.2.2.2.2.2.2.1), .inl (u.2.2.2.2.2.2.2.2.2, 16, .inl (fun _ => 0))), ((u.2.2.2.2.2.2.2.2.1), .inl (u.2.2.2.2.2.2.2.2.2, 16, .inl (fun _ => 0)))]) (va_A [(h0, .inr (4, [.int 0, .int 0, .int 0, .null, .null, .null, .null, .null, .null, .null, .null, .null]))] sz)) 9 130 (va_A [(h0, .inr (4, [.int 0, .int 0, .int 0, .null, .null, .null, .null, .null, .null, .null, .null, .null]))] sz) := by
  refine Met.ofW (cc := cX4_init) (maxL := 1) (ret := none) (by decide) rfl ?_
  intro p e s m args below meth c s₁ B hml hv
  obtain ⟨rfl, hsz, hP, hK, hN, hD0⟩ := hv
  have hx := B.exec
  have hb := B.bytes
  have hr := B.returns
  have hlocks := B.notSynchronized
  have hts := atoms_spec (ws := (wq yX4_init cX4_init 1 none)) B.pre
  have hw : ∀ w ∈ bigW, w.before _ s = true := fun w h => hts w (List.mem_cons_of_mem _ h)
  have hown : s.vm.findClass RX4 = some m.cls := findClass_of_methodNamed B.named
  have hin : meth.name = "<init>" := (name_of_methodNamed B.named B.method).1
  subst hsz
  have hD := hD0.self (sz := s.heap.size)
  generalize hAe : va_A [(h0, .inr (4, [.int 0, .int 0, .int 0, .null, .null, .null, .null, .null, .null, .null, .null, .null]))] s.heap.size = A at hD ⊢
  have hA : ∀ q : Nat, s.heap.size ≤ q → A q := fun q h => by rw [← hAe]; exact Or.inr h
  have hS : va_S A s.heap s.heap [] := va_S.rf
  have hl := lv_entry ([.ref h0]) (n := 1) (Nat.le_of_ble_eq_true rfl)
  rw [lg_entry_eq]
  generalize (lg_sl ([.ref h0]) ++ List.replicate (1 - (lg_sl ([.ref h0])).length) Slot.unset).toArray = ls at hl ⊢
  have hl : lv_has ls 1 [(0, .ref h0)] := hl
  refine lv_aload_n hx hb dX4_init_0 rfl (lv_at hl 0 rfl) ?_
  refine W.objInit hx hb hown (hw _ mq_ml_X4_1) (hw _ mq_im_obj) (hw _ mq_co_obj) rfl (by rw [hml]; exact hl.1) rfl dX4_init_1 (Nat.le_of_ble_eq_true rfl) (Nat.le_of_ble_eq_true rfl) ?_
  refine W.eq (g2 := F0 m 4 ls []) rfl ?_
  refine lv_aload_n hx hb dX4_init_4 rfl (lv_at hl 0 rfl) ?_
  refine lv_iconst (v := 1) hx hb dX4_init_5 (by decide) ?_
  refine va_put (D := (dC, dI)) (ci := 4) (v := .int 1) (ty := .int) (C := RX4) (T := TX4) (N := 12) hx hb hw in_X4 tyX4 tyX4_ok nmX4 hown hK hP hD hS 0 rfl rfl 0 (by decide) (hw _ mq_fl_X4_7) (fun _ h9 => h9) rfl (by decide +kernel) rfl rfl (Nat.le_of_ble_eq_true rfl) dX4_init_6 (fun Hp locs hP hD hS => ?_)
  have hP : va_P (dC, dI) classes [(h0, .inr (4, [.int 1, .int 0, .int 0, .null, .null, .null, .null, .null, .null, .null, .null, .null]))] Hp := hP
  have hD : va_D A [(h0, .inr (4, [.int 1, .int 0, .int 0, .null, .null, .null, .null, .null, .null, .null, .null, .null]))] := hD
  refine lv_aload_n hx hb dX4_init_9 rfl (lv_at hl 0 rfl) ?_
  refine lv_bipush (v := 14) hx hb dX4_init_10 (by decide) ?_
  refine va_newa (atype := .int) (ty := .int) (N' := 14) (a0 := (14, .inl (fun _ => 0))) hx hb (hw _ mq_ac) rfl hK hP hD hS hA (fun _ => rfl) (by decide) (by decide) (by decide) (Nat.le_of_ble_eq_true rfl) (Nat.le_of_ble_eq_true rfl) dX4_init_12 (fun q1 cI Hp hK hP hD hS => ?_)
  have hK : va_K (dC, dI) classes [(cI, .int)] s := hK
  have hP : va_P (dC, dI) classes [(h0, .inr (4, [.int 1, .int 0, .int 0, .null, .null, .null, .null, .null, .null, .null, .null, .null])), (q1, .inl (cI, 14, .inl (fun _ => 0)))] Hp := hP
  have hD : va_D A [(h0, .inr (4, [.int 1, .int 0, .int 0, .null, .null, .null, .null, .null, .null, .null, .null, .null])), (q1, .inl (cI, 14, .inl (fun _ => 0)))] := hD
  refine va_putF (D := (dC, dI)) (ci := 4) (v := .ref q1) (ty := (.array .int)) (C := RX4) (T := TX4) (N := 12) hx hb hw in_X4 tyX4 tyX4_ok nmX4 hown hK hP hD hS 0 rfl rfl 3 (by decide) (hw _ mq_fl_X4_13) (fun _ h9 => h9) rfl hin rfl (by decide +kernel) rfl rfl (Nat.le_of_ble_eq_true rfl) dX4_init_14 (fun Hp locs hP hD hS => ?_)
  have hP : va_P (dC, dI) classes [(h0, .inr (4, [.int 1, .int 0, .int 0, .ref q1, .null, .null, .null, .null, .null, .null, .null, .null])), (q1, .inl (cI, 14, .inl (fun _ => 0)))] Hp := hP
  have hD : va_D A [(h0, .inr (4, [.int 1, .int 0, .int 0, .ref q1, .null, .null, .null, .null, .null, .null, .null, .null])), (q1, .inl (cI, 14, .inl (fun _ => 0)))] := hD
  refine lv_aload_n hx hb dX4_init_17 rfl (lv_at hl 0 rfl) ?_
  refine lv_bipush (v := 14) hx hb dX4_init_18 (by decide) ?_
  refine va_newa (atype := .int) (ty := .int) (N' := 14) (a0 := (14, .inl (fun _ => 0))) hx hb (hw _ mq_ac) rfl hK hP hD hS hA (fun _ => rfl) (by decide) (by decide) (by decide) (Nat.le_of_ble_eq_true rfl) (Nat.le_of_ble_eq_true rfl) dX4_init_20 (fun q2 cB Hp hK hP hD hS => ?_)
  obtain rfl : cI = cB := Option.some.inj ((va_nm_int (hK.2 0 _ rfl).2).symm.trans (va_nm_int (hK.2 1 _ rfl).2))
  have hK : va_K (dC, dI) classes [(cI, .int)] s := hK.sub [0] rfl
  have hP : va_P (dC, dI) classes [(h0, .inr (4, [.int 1, .int 0, .int 0, .ref q1, .null, .null, .null, .null, .null, .null, .null, .null])), (q1, .inl (cI, 14, .inl (fun _ => 0))), (q2, .inl (cI, 14, .inl (fun _ => 0)))] Hp := hP
  have hD : va_D A [(h0, .inr (4, [.int 1, .int 0, .int 0, .ref q1, .null, .null, .null, .null, .null, .null, .null, .null])), (q1, .inl (cI, 14, .inl (fun _ => 0))), (q2, .inl (cI, 14, .inl (fun _ => 0)))] := hD
  refine va_putF (D := (dC, dI)) (ci := 4) (v := .ref q2) (ty := (.array .int)) (C := RX4) (T := TX4) (N := 12) hx hb hw in_X4 tyX4 tyX4_ok nmX4 hown hK hP hD hS 0 rfl rfl 4 (by decide) (hw _ mq_fl_X4_17) (fun _ h9 => h9) rfl hin rfl (by decide +kernel) rfl rfl (Nat.le_of_ble_eq_true rfl) dX4_init_22 (fun Hp locs hP hD hS => ?_)
  have hP : va_P (dC, dI) classes [(h0, .inr (4, [.int 1, .int 0, .int 0, .ref q1, .ref q2, .null, .null, .null, .null, .null, .null, .null])), (q1, .inl (cI, 14, .inl (fun _ => 0))), (q2, .inl (cI, 14, .inl (fun _ => 0)))] Hp := hP
  have hD : va_D A [(h0, .inr (4, [.int 1, .int 0, .int 0, .ref q1, .ref q2, .null, .null, .null, .null, .null, .null, .null])), (q1, .inl (cI, 14, .inl (fun _ => 0))), (q2, .inl (cI, 14, .inl (fun _ => 0)))] := hD
  refine lv_aload_n hx hb dX4_init_25 rfl (lv_at hl 0 rfl) ?_
  refine lv_iconst (v := 3) hx hb dX4_init_26 (by decide) ?_
  refine va_newa (atype := .int) (ty := .int) (N' := 3) (a0 := (3, .inl (fun _ => 0))) hx hb (hw _ mq_ac) rfl hK hP hD hS hA (fun _ => rfl) (by decide) (by decide) (by decide) (Nat.le_of_ble_eq_true rfl) (Nat.le_of_ble_eq_true rfl) dX4_init_27 (fun q3 cB Hp hK hP hD hS => ?_)
  obtain rfl : cI = cB := Option.some.inj ((va_nm_int (hK.2 0 _ rfl).2).symm.trans (va_nm_int (hK.2 1 _ rfl).2))
  have hK : va_K (dC, dI) classes [(cI, .int)] s := hK.sub [0] rfl
  have hP : va_P (dC, dI) classes [(h0, .inr (4, [.int 1, .int 0, .int 0, .ref q1, .ref q2, .null, .null, .null, .null, .null, .null, .null])), (q1, .inl (cI, 14, .inl (fun _ => 0))), (q2, .inl (cI, 14, .inl (fun _ => 0))), (q3, .inl (cI, 3, .inl (fun _ => 0)))] Hp := hP
  have hD : va_D A [(h0, .inr (4, [.int 1, .int 0, .int 0, .ref q1, .ref q2, .null, .null, .null, .null, .null, .null, .null])), (q1, .inl (cI, 14, .inl (fun _ => 0))), (q2, .inl (cI, 14, .inl (fun _ => 0))), (q3, .inl (cI, 3, .inl (fun _ => 0)))] := hD
  refine va_putF (D := (dC, dI)) (ci := 4) (v := .ref q3) (ty := (.array .int)) (C := RX4) (T := TX4) (N := 12) hx hb hw in_X4 tyX4 tyX4_ok nmX4 hown hK hP hD hS 0 rfl rfl 5 (by decide) (hw _ mq_fl_X4_20) (fun _ h9 => h9) rfl hin rfl (by decide +kernel) rfl rfl (Nat.le_of_ble_eq_true rfl) dX4_init_29 (fun Hp locs hP hD hS => ?_)
  have hP : va_P (dC, dI) classes [(h0, .inr (4, [.int 1, .int 0, .int 0, .ref q1, .ref q2, .ref q3, .null, .null, .null, .null, .null, .null])), (q1, .inl (cI, 14, .inl (fun _ => 0))), (q2, .inl (cI, 14, .inl (fun _ => 0))), (q3, .inl (cI, 3, .inl (fun _ => 0)))] Hp := hP
  have hD : va_D A [(h0, .inr (4, [.int 1, .int 0, .int 0, .ref q1, .ref q2, .ref q3, .null, .null, .null, .null, .null, .null])), (q1, .inl (cI, 14, .inl (fun _ => 0))), (q2, .inl (cI, 14, .inl (fun _ => 0))), (q3, .inl (cI, 3, .inl (fun _ => 0)))] := hD
  refine lv_aload_n hx hb dX4_init_32 rfl (lv_at hl 0 rfl) ?_
  refine lv_bipush (v := 14) hx hb dX4_init_33 (by decide) ?_
  refine va_newa (atype := .int) (ty := .int) (N' := 14) (a0 := (14, .inl (fun _ => 0))) hx hb (hw _ mq_ac) rfl hK hP hD hS hA (fun _ => rfl) (by decide) (by decide) (by decide) (Nat.le_of_ble_eq_true rfl) (Nat.le_of_ble_eq_true rfl) dX4_init_35 (fun q4 cB Hp hK hP hD hS => ?_)
  obtain rfl : cI = cB := Option.some.inj ((va_nm_int (hK.2 0 _ rfl).2).symm.trans (va_nm_int (hK.2 1 _ rfl).2))
  have hK : va_K (dC, dI) classes [(cI, .int)] s := hK.sub [0] rfl
  have hP : va_P (dC, dI) classes [(h0, .inr (4, [.int 1, .int 0, .int 0, .ref q1, .ref q2, .ref q3, .null, .null, .null, .null, .null, .null])), (q1, .inl (cI, 14, .inl (fun _ => 0))), (q2, .inl (cI, 14, .inl (fun _ => 0))), (q3, .inl (cI, 3, .inl (fun _ => 0))), (q4, .inl (cI, 14, .inl (fun _ => 0)))] Hp := hP
  have hD : va_D A [(h0, .inr (4, [.int 1, .int 0, .int 0, .ref q1, .ref q2, .ref q3, .null, .null, .null, .null, .null, .null])), (q1, .inl (cI, 14, .inl (fun _ => 0))), (q2, .inl (cI, 14, .inl (fun _ => 0))), (q3, .inl (cI, 3, .inl (fun _ => 0))), (q4, .inl (cI, 14, .inl (fun _ => 0)))] := hD
  refine va_putF (D := (dC, dI)) (ci := 4) (v := .ref q4) (ty := (.array .int)) (C := RX4) (T := TX4) (N := 12) hx hb hw in_X4 tyX4 tyX4_ok nmX4 hown hK hP hD hS 0 rfl rfl 6 (by decide) (hw _ mq_fl_X4_23) (fun _ h9 => h9) rfl hin rfl (by decide +kernel) rfl rfl (Nat.le_of_ble_eq_true rfl) dX4_init_37 (fun Hp locs hP hD hS => ?_)
  have hP : va_P (dC, dI) classes [(h0, .inr (4, [.int 1, .int 0, .int 0, .ref q1, .ref q2, .ref q3, .ref q4, .null, .null, .null, .null, .null])), (q1, .inl (cI, 14, .inl (fun _ => 0))), (q2, .inl (cI, 14, .inl (fun _ => 0))), (q3, .inl (cI, 3, .inl (fun _ => 0))), (q4, .inl (cI, 14, .inl (fun _ => 0)))] Hp := hP
  have hD : va_D A [(h0, .inr (4, [.int 1, .int 0, .int 0, .ref q1, .ref q2, .ref q3, .ref q4, .null, .null, .null, .null, .null])), (q1, .inl (cI, 14, .inl (fun _ => 0))), (q2, .inl (cI, 14, .inl (fun _ => 0))), (q3, .inl (cI, 3, .inl (fun _ => 0))), (q4, .inl (cI, 14, .inl (fun _ => 0)))] := hD
  refine lv_aload_n hx hb dX4_init_40 rfl (lv_at hl 0 rfl) ?_
  refine lv_bipush (v := 21) hx hb dX4_init_41 (by decide) ?_
  refine va_newa (atype := .int) (ty := .int) (N' := 21) (a0 := (21, .inl (fun _ => 0))) hx hb (hw _ mq_ac) rfl hK hP hD hS hA (fun _ => rfl) (by decide) (by decide) (by decide) (Nat.le_of_ble_eq_true rfl) (Nat.le_of_ble_eq_true rfl) dX4_init_43 (fun q5 cB Hp hK hP hD hS => ?_)
  obtain rfl : cI = cB := Option.some.inj ((va_nm_int (hK.2 0 _ rfl).2).symm.trans (va_nm_int (hK.2 1 _ rfl).2))
  have hK : va_K (dC, dI) classes [(cI, .int)] s := hK.sub [0] rfl
  have hP : va_P (dC, dI) classes [(h0, .inr (4, [.int 1, .int 0, .int 0, .ref q1, .ref q2, .ref q3, .ref q4, .null, .null, .null, .null, .null])), (q1, .inl (cI, 14, .inl (fun _ => 0))), (q2, .inl (cI, 14, .inl (fun _ => 0))), (q3, .inl (cI, 3, .inl (fun _ => 0))), (q4, .inl (cI, 14, .inl (fun _ => 0))), (q5, .inl (cI, 21, .inl (fun _ => 0)))] Hp := hP
  have hD : va_D A [(h0, .inr (4, [.int 1, .int 0, .int 0, .ref q1, .ref q2, .ref q3, .ref q4, .null, .null, .null, .null, .null])), (q1, .inl (cI, 14, .inl (fun _ => 0))), (q2, .inl (cI, 14, .inl (fun _ => 0))), (q3, .inl (cI, 3, .inl (fun _ => 0))), (q4, .inl (cI, 14, .inl (fun _ => 0))), (q5, .inl (cI, 21, .inl (fun _ => 0)))] := hD
  refine va_putF (D := (dC, dI)) (ci := 4) (v := .ref q5) (ty := (.array .int)) (C := RX4) (T := TX4) (N := 12) hx hb hw in_X4 tyX4 tyX4_ok nmX4 hown hK hP hD hS 0 rfl rfl 7 (by decide) (hw _ mq_fl_X4_26) (fun _ h9 => h9) rfl hin rfl (by decide +kernel) rfl rfl (Nat.le_of_ble_eq_true rfl) dX4_init_45 (fun Hp locs hP hD hS => ?_)
  have hP : va_P (dC, dI) classes [(h0, .inr (4, [.int 1, .int 0, .int 0, .ref q1, .ref q2, .ref q3, .ref q4, .ref q5, .null, .null, .null, .null])), (q1, .inl (cI, 14, .inl (fun _ => 0))), (q2, .inl (cI, 14, .inl (fun _ => 0))), (q3, .inl (cI, 3, .inl (fun _ => 0))), (q4, .inl (cI, 14, .inl (fun _ => 0))), (q5, .inl (cI, 21, .inl (fun _ => 0)))] Hp := hP
  have hD : va_D A [(h0, .inr (4, [.int 1, .int 0, .int 0, .ref q1, .ref q2, .ref q3, .ref q4, .ref q5, .null, .null, .null, .null])), (q1, .inl (cI, 14, .inl (fun _ => 0))), (q2, .inl (cI, 14, .inl (fun _ => 0))), (q3, .inl (cI, 3, .inl (fun _ => 0))), (q4, .inl (cI, 14, .inl (fun _ => 0))), (q5, .inl (cI, 21, .inl (fun _ => 0)))] := hD
  refine lv_aload_n hx hb dX4_init_48 rfl (lv_at hl 0 rfl) ?_
  refine lv_bipush (v := 16) hx hb dX4_init_49 (by decide) ?_
  refine va_newa (atype := .int) (ty := .int) (N' := 16) (a0 := (16, .inl (fun _ => 0))) hx hb (hw _ mq_ac) rfl hK hP hD hS hA (fun _ => rfl) (by decide) (by decide) (by decide) (Nat.le_of_ble_eq_true rfl) (Nat.le_of_ble_eq_true rfl) dX4_init_51 (fun q6 cB Hp hK hP hD hS => ?_)
  obtain rfl : cI = cB := Option.some.inj ((va_nm_int (hK.2 0 _ rfl).2).symm.trans (va_nm_int (hK.2 1 _ rfl).2))
  have hK : va_K (dC, dI) classes [(cI, .int)] s := hK.sub [0] rfl
  have hP : va_P (dC, dI) classes [(h0, .inr (4, [.int 1, .int 0, .int 0, .ref q1, .ref q2, .ref q3, .ref q4, .ref q5, .null, .null, .null, .null])), (q1, .inl (cI, 14, .inl (fun _ => 0))), (q2, .inl (cI, 14, .inl (fun _ => 0))), (q3, .inl (cI, 3, .inl (fun _ => 0))), (q4, .inl (cI, 14, .inl (fun _ => 0))), (q5, .inl (cI, 21, .inl (fun _ => 0))), (q6, .inl (cI, 16, .inl (fun _ => 0)))] Hp := hP
  have hD : va_D A [(h0, .inr (4, [.int 1, .int 0, .int 0, .ref q1, .ref q2, .ref q3, .ref q4, .ref q5, .null, .null, .null, .null])), (q1, .inl (cI, 14, .inl (fun _ => 0))), (q2, .inl (cI, 14, .inl (fun _ => 0))), (q3, .inl (cI, 3, .inl (fun _ => 0))), (q4, .inl (cI, 14, .inl (fun _ => 0))), (q5, .inl (cI, 21, .inl (fun _ => 0))), (q6, .inl (cI, 16, .inl (fun _ => 0)))] := hD
  refine va_putF (D := (dC, dI)) (ci := 4) (v := .ref q6) (ty := (.array .int)) (C := RX4) (T := TX4) (N := 12) hx hb hw in_X4 tyX4 tyX4_ok nmX4 hown hK hP hD hS 0 rfl rfl 8 (by decide) (hw _ mq_fl_X4_29) (fun _ h9 => h9) rfl hin rfl (by decide +kernel) rfl rfl (Nat.le_of_ble_eq_true rfl) dX4_init_53 (fun Hp locs hP hD hS => ?_)
  have hP : va_P (dC, dI) classes [(h0, .inr (4, [.int 1, .int 0, .int 0, .ref q1, .ref q2, .ref q3, .ref q4, .ref q5, .ref q6, .null, .null, .null])), (q1, .inl (cI, 14, .inl (fun _ => 0))), (q2, .inl (cI, 14, .inl (fun _ => 0))), (q3, .inl (cI, 3, .inl (fun _ => 0))), (q4, .inl (cI, 14, .inl (fun _ => 0))), (q5, .inl (cI, 21, .inl (fun _ => 0))), (q6, .inl (cI, 16, .inl (fun _ => 0)))] Hp := hP
  have hD : va_D A [(h0, .inr (4, [.int 1, .int 0, .int 0, .ref q1, .ref q2, .ref q3, .ref q4, .ref q5, .ref q6, .null, .null, .null])), (q1, .inl (cI, 14, .inl (fun _ => 0))), (q2, .inl (cI, 14, .inl (fun _ => 0))), (q3, .inl (cI, 3, .inl (fun _ => 0))), (q4, .inl (cI, 14, .inl (fun _ => 0))), (q5, .inl (cI, 21, .inl (fun _ => 0))), (q6, .inl (cI, 16, .inl (fun _ => 0)))] := hD
  refine lv_aload_n hx hb dX4_init_56 rfl (lv_at hl 0 rfl) ?_
  refine lv_bipush (v := 16) hx hb dX4_init_57 (by decide) ?_
  refine va_newa (atype := .int) (ty := .int) (N' := 16) (a0 := (16, .inl (fun _ => 0))) hx hb (hw _ mq_ac) rfl hK hP hD hS hA (fun _ => rfl) (by decide) (by decide) (by decide) (Nat.le_of_ble_eq_true rfl) (Nat.le_of_ble_eq_true rfl) dX4_init_59 (fun q7 cB Hp hK hP hD hS => ?_)
  obtain rfl : cI = cB := Option.some.inj ((va_nm_int (hK.2 0 _ rfl).2).symm.trans (va_nm_int (hK.2 1 _ rfl).2))
  have hK : va_K (dC, dI) classes [(cI, .int)] s := hK.sub [0] rfl
  have hP : va_P (dC, dI) classes [(h0, .inr (4, [.int 1, .int 0, .int 0, .ref q1, .ref q2, .ref q3, .ref q4, .ref q5, .ref q6, .null, .null, .null])), (q1, .inl (cI, 14, .inl (fun _ => 0))), (q2, .inl (cI, 14, .inl (fun _ => 0))), (q3, .inl (cI, 3, .inl (fun _ => 0))), (q4, .inl (cI, 14, .inl (fun _ => 0))), (q5, .inl (cI, 21, .inl (fun _ => 0))), (q6, .inl (cI, 16, .inl (fun _ => 0))), (q7, .inl (cI, 16, .inl (fun _ => 0)))] Hp := hP
  have hD : va_D A [(h0, .inr (4, [.int 1, .int 0, .int 0, .ref q1, .ref q2, .ref q3, .ref q4, .ref q5, .ref q6, .null, .null, .null])), (q1, .inl (cI, 14, .inl (fun _ => 0))), (q2, .inl (cI, 14, .inl (fun _ => 0))), (q3, .inl (cI, 3, .inl (fun _ => 0))), (q4, .inl (cI, 14, .inl (fun _ => 0))), (q5, .inl (cI, 21, .inl (fun _ => 0))), (q6, .inl (cI, 16, .inl (fun _ => 0))), (q7, .inl (cI, 16, .inl (fun _ => 0)))] := hD
  refine va_putF (D := (dC, dI)) (ci := 4) (v := .ref q7) (ty := (.array .int)) (C := RX4) (T := TX4) (N := 12) hx hb hw in_X4 tyX4 tyX4_ok nmX4 hown hK hP hD hS 0 rfl rfl 9 (by decide) (hw _ mq_fl_X4_32) (fun _ h9 => h9) rfl hin rfl (by decide +kernel) rfl rfl (Nat.le_of_ble_eq_true rfl) dX4_init_61 (fun Hp locs hP hD hS => ?_)
  have hP : va_P (dC, dI) classes [(h0, .inr (4, [.int 1, .int 0, .int 0, .ref q1, .ref q2, .ref q3, .ref q4, .ref q5, .ref q6, .ref q7, .null, .null])), (q1, .inl (cI, 14, .inl (fun _ => 0))), (q2, .inl (cI, 14, .inl (fun _ => 0))), (q3, .inl (cI, 3, .inl (fun _ => 0))), (q4, .inl (cI, 14, .inl (fun _ => 0))), (q5, .inl (cI, 21, .inl (fun _ => 0))), (q6, .inl (cI, 16, .inl (fun _ => 0))), (q7, .inl (cI, 16, .inl (fun _ => 0)))] Hp := hP
  have hD : va_D A [(h0, .inr (4, [.int 1, .int 0, .int 0, .ref q1, .ref q2, .ref q3, .ref q4, .ref q5, .ref q6, .ref q7, .null, .null])), (q1, .inl (cI, 14, .inl (fun _ => 0))), (q2, .inl (cI, 14, .inl (fun _ => 0))), (q3, .inl (cI, 3, .inl (fun _ => 0))), (q4, .inl (cI, 14, .inl (fun _ => 0))), (q5, .inl (cI, 21, .inl (fun _ => 0))), (q6, .inl (cI, 16, .inl (fun _ => 0))), (q7, .inl (cI, 16, .inl (fun _ => 0)))] := hD
  refine lv_aload_n hx hb dX4_init_64 rfl (lv_at hl 0 rfl) ?_
  refine lv_bipush (v := 16) hx hb dX4_init_65 (by decide) ?_
  refine va_newa (atype := .int) (ty := .int) (N' := 16) (a0 := (16, .inl (fun _ => 0))) hx hb (hw _ mq_ac) rfl hK hP hD hS hA (fun _ => rfl) (by decide) (by decide) (by decide) (Nat.le_of_ble_eq_true rfl) (Nat.le_of_ble_eq_true rfl) dX4_init_67 (fun q8 cB Hp hK hP hD hS => ?_)
  obtain rfl : cI = cB := Option.some.inj ((va_nm_int (hK.2 0 _ rfl).2).symm.trans (va_nm_int (hK.2 1 _ rfl).2))
  have hK : va_K (dC, dI) classes [(cI, .int)] s := hK.sub [0] rfl
  have hP : va_P (dC, dI) classes [(h0, .inr (4, [.int 1, .int 0, .int 0, .ref q1, .ref q2, .ref q3, .ref q4, .ref q5, .ref q6, .ref q7, .null, .null])), (q1, .inl (cI, 14, .inl (fun _ => 0))), (q2, .inl (cI, 14, .inl (fun _ => 0))), (q3, .inl (cI, 3, .inl (fun _ => 0))), (q4, .inl (cI, 14, .inl (fun _ => 0))), (q5, .inl (cI, 21, .inl (fun _ => 0))), (q6, .inl (cI, 16, .inl (fun _ => 0))), (q7, .inl (cI, 16, .inl (fun _ => 0))), (q8, .inl (cI, 16, .inl (fun _ => 0)))] Hp := hP
  have hD : va_D A [(h0, .inr (4, [.int 1, .int 0, .int 0, .ref q1, .ref q2, .ref q3, .ref q4, .ref q5, .ref q6, .ref q7, .null, .null])), (q1, .inl (cI, 14, .inl (fun _ => 0))), (q2, .inl (cI, 14, .inl (fun _ => 0))), (q3, .inl (cI, 3, .inl (fun _ => 0))), (q4, .inl (cI, 14, .inl (fun _ => 0))), (q5, .inl (cI, 21, .inl (fun _ => 0))), (q6, .inl (cI, 16, .inl (fun _ => 0))), (q7, .inl (cI, 16, .inl (fun _ => 0))), (q8, .inl (cI, 16, .inl (fun _ => 0)))] := hD
  refine va_putF (D := (dC, dI)) (ci := 4) (v := .ref q8) (ty := (.array .int)) (C := RX4) (T := TX4) (N := 12) hx hb hw in_X4 tyX4 tyX4_ok nmX4 hown hK hP hD hS 0 rfl rfl 10 (by decide) (hw _ mq_fl_X4_35) (fun _ h9 => h9) rfl hin rfl (by decide +kernel) rfl rfl (Nat.le_of_ble_eq_true rfl) dX4_init_69 (fun Hp locs hP hD hS => ?_)
  have hP : va_P (dC, dI) classes [(h0, .inr (4, [.int 1, .int 0, .int 0, .ref q1, .ref q2, .ref q3, .ref q4, .ref q5, .ref q6, .ref q7, .ref q8, .null])), (q1, .inl (cI, 14, .inl (fun _ => 0))), (q2, .inl (cI, 14, .inl (fun _ => 0))), (q3, .inl (cI, 3, .inl (fun _ => 0))), (q4, .inl (cI, 14, .inl (fun _ => 0))), (q5, .inl (cI, 21, .inl (fun _ => 0))), (q6, .inl (cI, 16, .inl (fun _ => 0))), (q7, .inl (cI, 16, .inl (fun _ => 0))), (q8, .inl (cI, 16, .inl (fun _ => 0)))] Hp := hP
  have hD : va_D A [(h0, .inr (4, [.int 1, .int 0, .int 0, .ref q1, .ref q2, .ref q3, .ref q4, .ref q5, .ref q6, .ref q7, .ref q8, .null])), (q1, .inl (cI, 14, .inl (fun _ => 0))), (q2, .inl (cI, 14, .inl (fun _ => 0))), (q3, .inl (cI, 3, .inl (fun _ => 0))), (q4, .inl (cI, 14, .inl (fun _ => 0))), (q5, .inl (cI, 21, .inl (fun _ => 0))), (q6, .inl (cI, 16, .inl (fun _ => 0))), (q7, .inl (cI, 16, .inl (fun _ => 0))), (q8, .inl (cI, 16, .inl (fun _ => 0)))] := hD
  refine lv_aload_n hx hb dX4_init_72 rfl (lv_at hl 0 rfl) ?_
  refine lv_bipush (v := 16) hx hb dX4_init_73 (by decide) ?_
  refine va_newa (atype := .int) (ty := .int) (N' := 16) (a0 := (16, .inl (fun _ => 0))) hx hb (hw _ mq_ac) rfl hK hP hD hS hA (fun _ => rfl) (by decide) (by decide) (by decide) (Nat.le_of_ble_eq_true rfl) (Nat.le_of_ble_eq_true rfl) dX4_init_75 (fun q9 cB Hp hK hP hD hS => ?_)
  obtain rfl : cI = cB := Option.some.inj ((va_nm_int (hK.2 0 _ rfl).2).symm.trans (va_nm_int (hK.2 1 _ rfl).2))
  have hK : va_K (dC, dI) classes [(cI, .int)] s := hK.sub [0] rfl
  have hP : va_P (dC, dI) classes [(h0, .inr (4, [.int 1, .int 0, .int 0, .ref q1, .ref q2, .ref q3, .ref q4, .ref q5, .ref q6, .ref q7, .ref q8, .null])), (q1, .inl (cI, 14, .inl (fun _ => 0))), (q2, .inl (cI, 14, .inl (fun _ => 0))), (q3, .inl (cI, 3, .inl (fun _ => 0))), (q4, .inl (cI, 14, .inl (fun _ => 0))), (q5, .inl (cI, 21, .inl (fun _ => 0))), (q6, .inl (cI, 16, .inl (fun _ => 0))), (q7, .inl (cI, 16, .inl (fun _ => 0))), (q8, .inl (cI, 16, .inl (fun _ => 0))), (q9, .inl (cI, 16, .inl (fun _ => 0)))] Hp := hP
  have hD : va_D A [(h0, .inr (4, [.int 1, .int 0, .int 0, .ref q1, .ref q2, .ref q3, .ref q4, .ref q5, .ref q6, .ref q7, .ref q8, .null])), (q1, .inl (cI, 14, .inl (fun _ => 0))), (q2, .inl (cI, 14, .inl (fun _ => 0))), (q3, .inl (cI, 3, .inl (fun _ => 0))), (q4, .inl (cI, 14, .inl (fun _ => 0))), (q5, .inl (cI, 21, .inl (fun _ => 0))), (q6, .inl (cI, 16, .inl (fun _ => 0))), (q7, .inl (cI, 16, .inl (fun _ => 0))), (q8, .inl (cI, 16, .inl (fun _ => 0))), (q9, .inl (cI, 16, .inl (fun _ => 0)))] := hD
  refine va_putF (D := (dC, dI)) (ci := 4) (v := .ref q9) (ty := (.array .int)) (C := RX4) (T := TX4) (N := 12) hx hb hw in_X4 tyX4 tyX4_ok nmX4 hown hK hP hD hS 0 rfl rfl 11 (by decide) (hw _ mq_fl_X4_38) (fun _ h9 => h9) rfl hin rfl (by decide +kernel) rfl rfl (Nat.le_of_ble_eq_true rfl) dX4_init_77 (fun Hp locs hP hD hS => ?_)
  have hP : va_P (dC, dI) classes [(h0, .inr (4, [.int 1, .int 0, .int 0, .ref q1, .ref q2, .ref q3, .ref q4, .ref q5, .ref q6, .ref q7, .ref q8, .ref q9])), (q1, .inl (cI, 14, .inl (fun _ => 0))), (q2, .inl (cI, 14, .inl (fun _ => 0))), (q3, .inl (cI, 3, .inl (fun _ => 0))), (q4, .inl (cI, 14, .inl (fun _ => 0))), (q5, .inl (cI, 21, .inl (fun _ => 0))), (q6, .inl (cI, 16, .inl (fun _ => 0))), (q7, .inl (cI, 16, .inl (fun _ => 0))), (q8, .inl (cI, 16, .inl (fun _ => 0))), (q9, .inl (cI, 16, .inl (fun _ => 0)))] Hp := hP
  have hD : va_D A [(h0, .inr (4, [.int 1, .int 0, .int 0, .ref q1, .ref q2, .ref q3, .ref q4, .ref q5, .ref q6, .ref q7, .ref q8, .ref q9])), (q1, .inl (cI, 14, .inl (fun _ => 0))), (q2, .inl (cI, 14, .inl (fun _ => 0))), (q3, .inl (cI, 3, .inl (fun _ => 0))), (q4, .inl (cI, 14, .inl (fun _ => 0))), (q5, .inl (cI, 21, .inl (fun _ => 0))), (q6, .inl (cI, 16, .inl (fun _ => 0))), (q7, .inl (cI, 16, .inl (fun _ => 0))), (q8, .inl (cI, 16, .inl (fun _ => 0))), (q9, .inl (cI, 16, .inl (fun _ => 0)))] := hD
  refine W.widen (k := 9) (n := 130) (Nat.le_of_ble_eq_true rfl) (Nat.le_of_ble_eq_true rfl) ?_
  exact W.vret hx hb hr (fun t ht hW => ⟨⟨(q1, q2, q3, q4, q5, q6, q7, q8, q9, cI), rfl, trivial, by rw [ht]; exact hP, va_K.moved hW.alike hK, hD⟩, hS.F ht⟩) hS.2.2 dX4_init_80
end
section
/-! two worlds side by side: a call over one leaves the other -/
theorem fj_pl {D : va_G} {cl : List vw_C} {w0 wr : va_W} {H : Heap} (h : va_P D cl (w0 ++ wr) H) : va_P D cl w0 H := fun k q hk => h k q (by rw [List.getElem?_append_left (List.getElem?_eq_some_iff.mp hk).1]; exact hk)
theorem fj_pr {D : va_G} {cl : List vw_C} {w0 wr : va_W} {H : Heap} (h : va_P D cl (w0 ++ wr) H) : va_P D cl wr H := fun k q hk => h (w0.length + k) q (by rw [List.getElem?_append_right (Nat.le_add_right _ _), Nat.add_sub_cancel_left]; exact hk)
theorem fj_ap {A : Nat → Prop} {w0 wr : va_W} (h : va_D A (w0 ++ wr)) {i j : Nat} {p q : Nat × va_E} (hi : w0[i]? = some p) (hj : wr[j]? = some q) : p.1 ≠ q.1 := fun e => by
  have hl := (List.getElem?_eq_some_iff.mp hi).1
  have h1 := h.1 i (w0.length + j) p q (by rw [List.getElem?_append_left hl]; exact hi) (by rw [List.getElem?_append_right (Nat.le_add_right _ _), Nat.add_sub_cancel_left]; exact hj) e
  omega
theorem fj_dl {A : Nat → Prop} {w0 wr : va_W} (h : va_D A (w0 ++ wr)) : va_D A w0 := ⟨fun i j p q hi hj e => h.1 i j p q (by rw [List.getElem?_append_left (List.getElem?_eq_some_iff.mp hi).1]; exact hi) (by rw [List.getElem?_append_left (List.getElem?_eq_some_iff.mp hj).1]; exact hj) e, fun k q hk => h.2 k q (by rw [List.getElem?_append_left (List.getElem?_eq_some_iff.mp hk).1]; exact hk)⟩
theorem fj_dr {A : Nat → Prop} {w0 wr : va_W} (h : va_D A (w0 ++ wr)) : va_D A wr := ⟨fun i j p q hi hj e => by
    have h1 := h.1 (w0.length + i) (w0.length + j) p q (by rw [List.getElem?_append_right (Nat.le_add_right _ _), Nat.add_sub_cancel_left]; exact hi) (by rw [List.getElem?_append_right (Nat.le_add_right _ _), Nat.add_sub_cancel_left]; exact hj) e
    omega, fun k q hk => h.2 (w0.length + k) q (by rw [List.getElem?_append_right (Nat.le_add_right _ _), Nat.add_sub_cancel_left]; exact hk)⟩
theorem fj_out {D : va_G} {cl : List vw_C} {w0 wr : va_W} {H : Heap} (hP : va_P D cl wr H) (hap : ∀ (i j : Nat) (p q : Nat × va_E), w0[i]? = some p → wr[j]? = some q → p.1 ≠ q.1) {j : Nat} {q : Nat × va_E} (hj : wr[j]? = some q) : ¬ va_A w0 H.size q.1 := by
  intro h
  rcases h with ⟨k, x, h⟩ | h
  · exact hap k j (q.1, x) q h hj rfl
  · have := (hP j q hj).lt
    omega
theorem fj_keep {D : va_G} {cl : List vw_C} {w0 wr : va_W} {H H1 : Heap} (hP : va_P D cl wr H) (hap : ∀ (i j : Nat) (p q : Nat × va_E), w0[i]? = some p → wr[j]? = some q → p.1 ≠ q.1) (hk : ∀ q : Nat, q < H.size → ¬ va_A w0 H.size q → H1[q]? = H[q]?) : va_P D cl wr H1 := hP.kept (fun k q hq => hk q.1 (hP k q hq).lt (fj_out hP hap hq))
theorem fj_apart {D : va_G} {cl : List vw_C} {w0 wr w1 : va_W} {H : Heap} (hP : va_P D cl wr H) (hap : ∀ (i j : Nat) (p q : Nat × va_E), w0[i]? = some p → wr[j]? = some q → p.1 ≠ q.1) (hD1 : va_D (va_A w0 H.size) w1) : ∀ (i j : Nat) (p q : Nat × va_E), w1[i]? = some p → wr[j]? = some q → p.1 ≠ q.1 := fun i j p q hi hj e => fj_out hP hap hj (e ▸ hD1.2 i p hi)
section LWC
variable {p : Program} {l : Launch} {e : Env} {R : Room} {s : State} {m : MethodId} {args : Array Value} {below : List Frame} {meth : Method} {c : Code} {H : Heap} {locs : List Loc} {cells slots : Nat} {Q : State → Prop}
variable {pc : Nat} {ls : Array Slot} {rest st0 : List Value} {D : va_G} {cl : List vw_C} {tys : List (ClassId × FieldType)} {w0 wr : va_W}
variable {y : MethodName} {bytes cc : ByteArray} {maxL nL n index : Nat} {ret : Option FieldType} {ws : List Cond} {rm : Room} {Ts : List Cond} {own C : String} {b : Nat} {As : List Value} {post : Int32 → Prop}
theorem lx_ro (S : CallFix p m c cc nL s args Ts own) (hM : Met l y ws rm (ro_P D cl tys w0 (.ref b :: As)) (vp_Si post) 0 0 (fun _ => False)) (cw : CallW R s args own C index y bytes maxL ret ws rm 0 0 n) (hP : va_P D cl (w0 ++ wr) H) (hK : va_K D cl tys s) (hN : nx_ok s) (q0 : Nat) {ci : Nat} {fs : List Value} {T : u_T} {N : Nat} (he : w0[q0]? = some (b, .inr (ci, fs))) (hc : cl[ci]? = some (C, T, N)) (hn : As.length = n) (hl : ls.size = nL) (hst : st0 = As.reverse ++ .ref b :: rest) (hW : (rest.map fun v => v.category).sum ≤ 8) (hdg : decode cc pc = .ok (.invokevirtual index, 3)) (hf : cells ≤ R.cells ∧ slots ≤ R.slots)
    (kk : ∀ r : Int32, post r → W p l e R s m args below meth c H locs cells slots Q (F0 m (pc + 3) ls (.int r :: rest))) : W p l e R s m args below meth c H locs cells slots Q (F0 m pc ls st0) := ro_V S hM cw (fj_pl hP) hK hN q0 he hc hn hl hst hW hdg hf kk
theorem lm_ro (S : CallFix p m c cc nL s args Ts own) (hM : Met l y ws rm (ro_P D cl tys wr (.ref b :: As)) (vp_Si post) 0 0 (fun _ => False)) (cw : CallW R s args own C index y bytes maxL ret ws rm 0 0 n) (hP : va_P D cl (w0 ++ wr) H) (hK : va_K D cl tys s) (hN : nx_ok s) (q0 : Nat) {ci : Nat} {fs : List Value} {T : u_T} {N : Nat} (he : wr[q0]? = some (b, .inr (ci, fs))) (hc : cl[ci]? = some (C, T, N)) (hn : As.length = n) (hl : ls.size = nL) (hst : st0 = As.reverse ++ .ref b :: rest) (hW : (rest.map fun v => v.category).sum ≤ 8) (hdg : decode cc pc = .ok (.invokevirtual index, 3)) (hf : cells ≤ R.cells ∧ slots ≤ R.slots)
    (kk : ∀ r : Int32, post r → W p l e R s m args below meth c H locs cells slots Q (F0 m (pc + 3) ls (.int r :: rest))) : W p l e R s m args below meth c H locs cells slots Q (F0 m pc ls st0) := ro_V S hM cw (fj_pr hP) hK hN q0 he hc hn hl hst hW hdg hf kk
variable {A : Nat → Prop} {H0 : Heap} {St : Type} {w1 : St → va_W} {a : Array Value} {pi : Int32 → St → Prop}
theorem lx_mu (S : CallFix p m c cc nL s args Ts own) (hM : Met l y ws rm (mu_P D cl tys w0 H.size (.ref b :: As)) (va_Qi pi (mu_B D cl tys w0 H.size w1) (va_A w0 H.size)) 0 0 (va_A w0 H.size)) (cw : CallW R s args own C index y bytes maxL ret ws rm 0 0 n) (hP : va_P D cl (w0 ++ wr) H) (hK : va_K D cl tys s) (hN : nx_ok s) (hD : va_D A (w0 ++ wr)) (hS : va_S A H0 H locs) (hA : ∀ q, H0.size ≤ q → A q) (q0 : Nat) {ci : Nat} {fs : List Value} {T : u_T} {N : Nat} (he : w0[q0]? = some (b, .inr (ci, fs))) (hc : cl[ci]? = some (C, T, N)) (hn : As.length = n) (hl : ls.size = nL) (hst : st0 = As.reverse ++ .ref b :: rest) (hW : (rest.map fun v => v.category).sum ≤ 8) (hdg : decode cc pc = .ok (.invokevirtual index, 3)) (hf : cells ≤ R.cells ∧ slots ≤ R.slots)
    (kk : ∀ (r : Int32) (u : St) (H1 : Heap) (locs1 : List Loc), pi r u → va_P D cl (w1 u ++ wr) H1 → va_D A (w1 u ++ wr) → va_S A H0 H1 locs1 → W p l e R s m args below meth c H1 locs1 cells slots Q (F0 m (pc + 3) ls (.int r :: rest))) : W p l e R s m args below meth c H locs cells slots Q (F0 m pc ls st0) := by
  have hF := mu_free (fj_dl hD) hS hA
  have hap : ∀ (i j : Nat) (p q : Nat × va_E), w0[i]? = some p → wr[j]? = some q → p.1 ≠ q.1 := fun i j p q hi hj => fj_ap hD hi hj
  refine va_calli (va_runV (As := As) (rest := rest) (b := b) S hM cw ⟨mu_blind, va_recv hK (fj_pl hP) hc he, mu_pre (fj_pl hP) hK hN (fj_dl hD)⟩ rfl hn hl hst (lv_room hW) hdg hf) hS (fun q _ h => hF q h) hF (fun r u t H1 locs1 ht _ hp hB _ hk hS1 => ?_)
  have hP1 : va_P D cl (w1 u) H1 := by rw [← ht]; exact hB.1
  have hD1 : va_D A (w1 u) := hB.2.2.weaken (fun _ _ _ h => hF _ h)
  exact kk r u H1 locs1 hp (hP1.app (fj_keep (fj_pr hP) hap hk)) (hD1.app (fj_dr hD) (fj_apart (fj_pr hP) hap hB.2.2)) hS1
theorem lm_mu (S : CallFix p m c cc nL s args Ts own) (hM : Met l y ws rm (mu_P D cl tys wr H.size (.ref b :: As)) (va_Qi pi (mu_B D cl tys wr H.size w1) (va_A wr H.size)) 0 0 (va_A wr H.size)) (cw : CallW R s args own C index y bytes maxL ret ws rm 0 0 n) (hP : va_P D cl (w0 ++ wr) H) (hK : va_K D cl tys s) (hN : nx_ok s) (hD : va_D A (w0 ++ wr)) (hS : va_S A H0 H locs) (hA : ∀ q, H0.size ≤ q → A q) (q0 : Nat) {ci : Nat} {fs : List Value} {T : u_T} {N : Nat} (he : wr[q0]? = some (b, .inr (ci, fs))) (hc : cl[ci]? = some (C, T, N)) (hn : As.length = n) (hl : ls.size = nL) (hst : st0 = As.reverse ++ .ref b :: rest) (hW : (rest.map fun v => v.category).sum ≤ 8) (hdg : decode cc pc = .ok (.invokevirtual index, 3)) (hf : cells ≤ R.cells ∧ slots ≤ R.slots)
    (kk : ∀ (r : Int32) (u : St) (H1 : Heap) (locs1 : List Loc), pi r u → va_P D cl (w0 ++ w1 u) H1 → va_D A (w0 ++ w1 u) → va_S A H0 H1 locs1 → W p l e R s m args below meth c H1 locs1 cells slots Q (F0 m (pc + 3) ls (.int r :: rest))) : W p l e R s m args below meth c H locs cells slots Q (F0 m pc ls st0) := by
  have hF := mu_free (fj_dr hD) hS hA
  have hap : ∀ (i j : Nat) (p q : Nat × va_E), wr[i]? = some p → w0[j]? = some q → p.1 ≠ q.1 := fun i j p q hi hj => (fj_ap hD hj hi).symm
  refine va_calli (va_runV (As := As) (rest := rest) (b := b) S hM cw ⟨mu_blind, va_recv hK (fj_pr hP) hc he, mu_pre (fj_pr hP) hK hN (fj_dr hD)⟩ rfl hn hl hst (lv_room hW) hdg hf) hS (fun q _ h => hF q h) hF (fun r u t H1 locs1 ht _ hp hB _ hk hS1 => ?_)
  have hP1 : va_P D cl (w1 u) H1 := by rw [← ht]; exact hB.1
  have hD1 : va_D A (w1 u) := hB.2.2.weaken (fun _ _ _ h => hF _ h)
  exact kk r u H1 locs1 hp (va_P.app (fj_keep (fj_pl hP) hap hk) hP1) (va_D.app (fj_dl hD) hD1 (fun i j p q hi hj => (fj_apart (fj_pl hP) hap hB.2.2 j i q p hj hi).symm)) hS1
end LWC
end

/-! counting; the cut condition; the arc that may be taken (Edmonds, Lovász's proof) -/
def ed_b (x : Bool) : Nat := if x then 1 else 0
theorem ed_bt : ed_b true = 1 := rfl
theorem ed_bf : ed_b false = 0 := rfl
def ed_ct (f : Nat → Bool) : Nat → Nat
  | 0 => 0
  | n + 1 => ed_ct f n + ed_b (f n)
theorem ed_ct_s (f : Nat → Bool) (n : Nat) : ed_ct f (n + 1) = ed_ct f n + ed_b (f n) := rfl
theorem ed_b_le (x : Bool) : ed_b x ≤ 1 := by cases x <;> decide
theorem ed_ct_le (f : Nat → Bool) (n : Nat) : ed_ct f n ≤ n := by
  induction n with
  | zero => exact Nat.le_refl _
  | succ n ih =>
    have h := ed_b_le (f n)
    rw [ed_ct_s]
    omega
theorem ed_ct_congr {f g : Nat → Bool} {n : Nat} (h : ∀ e, e < n → f e = g e) : ed_ct f n = ed_ct g n := by
  induction n with
  | zero => rfl
  | succ n ih =>
    rw [ed_ct_s, ed_ct_s, ih (fun e he => h e (by omega)), h n (by omega)]
theorem ed_ct_two {f g f' g' : Nat → Bool} {n : Nat} (h : ∀ e, e < n → ed_b (f e) + ed_b (g e) ≤ ed_b (f' e) + ed_b (g' e)) : ed_ct f n + ed_ct g n ≤ ed_ct f' n + ed_ct g' n := by
  induction n with
  | zero => exact Nat.le_refl _
  | succ n ih =>
    have h1 := ih (fun e he => h e (by omega))
    have h2 := h n (by omega)
    rw [ed_ct_s, ed_ct_s, ed_ct_s, ed_ct_s]
    omega
theorem ed_b_mono : ∀ x y : Bool, (x = true → y = true) → ed_b x ≤ ed_b y := by decide
theorem ed_ct_mono {f f' : Nat → Bool} {n : Nat} (h : ∀ e, e < n → f e = true → f' e = true) : ed_ct f n ≤ ed_ct f' n := by
  induction n with
  | zero => exact Nat.le_refl _
  | succ n ih =>
    have h1 := ih (fun e he => h e (by omega))
    have h2 := ed_b_mono _ _ (h n (by omega))
    rw [ed_ct_s, ed_ct_s]
    omega
theorem ed_ct_0 (n : Nat) : ed_ct (fun _ => false) n = 0 := by
  induction n with
  | zero => rfl
  | succ n ih => rw [ed_ct_s, ih, ed_bf]
theorem ed_ct_ex {f g : Nat → Bool} {n : Nat} (h : ed_ct g n < ed_ct f n) : ∃ e, e < n ∧ f e = true ∧ g e = false := by
  induction n with
  | zero => exact absurd h (Nat.lt_irrefl 0)
  | succ n ih =>
    by_cases hc : ed_ct g n < ed_ct f n
    · obtain ⟨e, h1, h2⟩ := ih hc
      exact ⟨e, by omega, h2⟩
    · refine ⟨n, by omega, ?_⟩
      rw [ed_ct_s, ed_ct_s] at h
      cases hf : f n with
      | false =>
        rw [hf, ed_bf] at h
        omega
      | true =>
        cases hg : g n with
        | true =>
          rw [hf, hg] at h
          omega
        | false => exact ⟨rfl, rfl⟩
theorem ed_ct_del {f g : Nat → Bool} {n k : Nat} (hk : k < n) (hf : f k = true) (hg : g k = false) (ho : ∀ e, e < n → e ≠ k → g e = f e) : ed_ct g n + 1 = ed_ct f n := by
  induction n with
  | zero => omega
  | succ n ih =>
    rw [ed_ct_s, ed_ct_s]
    by_cases hkn : k = n
    · subst hkn
      rw [hf, hg, ed_ct_congr (g := f) (fun e he => ho e (by omega) (by omega)), ed_bt, ed_bf]
    · have h1 := ih (by omega) (fun e he hn => ho e (by omega) hn)
      rw [ho n (by omega) (by omega)]
      omega
theorem ed_ct_pos {f : Nat → Bool} {n k : Nat} (hk : k < n) (hf : f k = true) : 0 < ed_ct f n := by
  induction n with
  | zero => omega
  | succ n ih =>
    rw [ed_ct_s]
    by_cases hkn : k = n
    · subst hkn
      rw [hf, ed_bt]
      omega
    · have h1 := ih (by omega)
      omega
def ed_en (T H : Nat → Nat) (X e : Nat) : Bool := X.testBit (H e) && !X.testBit (T e)
def ed_rho (T H : Nat → Nat) (a : Nat) (u : Nat → Bool) (X : Nat) : Nat := ed_ct (fun e => !u e && ed_en T H X e) a
def ed_q (R : Nat → Nat) (b k X : Nat) : Nat := ed_ct (fun j => decide (k < j) && (R j &&& X == 0)) b
def ed_p (R : Nat → Nat) (b k had X : Nat) : Nat := ed_b (had &&& X == 0) + ed_q R b k X
def ed_ok (n : Nat) (T H : Nat → Nat) (a : Nat) (R : Nat → Nat) (b k had : Nat) (u : Nat → Bool) : Prop := ∀ X, 0 < X → X < 2 ^ n → ed_p R b k had X ≤ ed_rho T H a u X
theorem ed_and0 {x y : Nat} (h : x &&& y = 0) {i : Nat} (hx : x.testBit i = true) : y.testBit i = false := by
  have h1 := congrArg (fun z => Nat.testBit z i) h
  simp only [Nat.testBit_and, Nat.zero_testBit, hx, Bool.true_and] at h1
  exact h1
theorem ed_and1 {x y i : Nat} (hx : x.testBit i = true) (hy : y.testBit i = true) : x &&& y ≠ 0 := fun h => by
  have h1 := ed_and0 h hx
  rw [hy] at h1
  cases h1
theorem ed_beq {x : Nat} : (x == 0) = true ↔ x = 0 := beq_iff_eq
theorem ed_beqf {x : Nat} (h : x ≠ 0) : (x == 0) = false := beq_false_of_ne h
theorem ed_q_anti {R : Nat → Nat} {b k X Z : Nat} (h : Z &&& X = Z) : ed_q R b k X ≤ ed_q R b k Z := by
  apply ed_ct_mono
  intro j _ hj
  rw [Bool.and_eq_true, ed_beq] at hj ⊢
  refine ⟨hj.1, ?_⟩
  rw [← h, Nat.and_comm Z X, ← Nat.and_assoc, hj.2, Nat.zero_and]
theorem ed_b4 : ∀ x y z w : Bool, (x = true → z = true) → (y = true → z = true) → (x = true → y = true → w = true) → ed_b x + ed_b y ≤ ed_b z + ed_b w := by decide
theorem ed_q_super (R : Nat → Nat) (b k X Y : Nat) : ed_q R b k X + ed_q R b k Y ≤ ed_q R b k (X &&& Y) + ed_q R b k (X ||| Y) := by
  apply ed_ct_two
  intro j _
  apply ed_b4
  · intro h
    rw [Bool.and_eq_true, ed_beq] at h ⊢
    exact ⟨h.1, by rw [← Nat.and_assoc, h.2, Nat.zero_and]⟩
  · intro h
    rw [Bool.and_eq_true, ed_beq] at h ⊢
    exact ⟨h.1, by rw [Nat.and_comm X Y, ← Nat.and_assoc, h.2, Nat.zero_and]⟩
  · intro h h'
    rw [Bool.and_eq_true, ed_beq] at h h' ⊢
    exact ⟨h.1, by rw [Nat.and_or_distrib_left, h.2, h'.2]; rfl⟩
theorem ed_b5 : ∀ u hx hy tx ty : Bool, ed_b (!u && ((hx && hy) && !(tx && ty))) + ed_b (!u && ((hx || hy) && !(tx || ty))) ≤ ed_b (!u && (hx && !tx)) + ed_b (!u && (hy && !ty)) := by decide
theorem ed_rho_sub (T H : Nat → Nat) (a : Nat) (u : Nat → Bool) (X Y : Nat) : ed_rho T H a u (X &&& Y) + ed_rho T H a u (X ||| Y) ≤ ed_rho T H a u X + ed_rho T H a u Y := by
  apply ed_ct_two
  intro e _
  simp only [ed_en, Nat.testBit_and, Nat.testBit_or]
  exact ed_b5 _ _ _ _ _
theorem ed_rho_in {T H : Nat → Nat} {a e : Nat} {u u' : Nat → Bool} (he : e < a) (hu : u e = false) (hu1 : u' e = true) (hu2 : ∀ i, i < a → i ≠ e → u' i = u i) {X : Nat} (hX : ed_en T H X e = true) : ed_rho T H a u' X + 1 = ed_rho T H a u X := by
  apply ed_ct_del he
  · show (!u e && ed_en T H X e) = true
    rw [hu, hX]
    rfl
  · show (!u' e && ed_en T H X e) = false
    rw [hu1]
    rfl
  · intro i hi hn
    show (!u' i && ed_en T H X i) = (!u i && ed_en T H X i)
    rw [hu2 i hi hn]
theorem ed_rho_out {T H : Nat → Nat} {a e : Nat} {u u' : Nat → Bool} (hu2 : ∀ i, i < a → i ≠ e → u' i = u i) {X : Nat} (hX : ed_en T H X e = false) : ed_rho T H a u' X = ed_rho T H a u X := by
  apply ed_ct_congr
  intro i hi
  show (!u' i && ed_en T H X i) = (!u i && ed_en T H X i)
  by_cases hn : i = e
  · subst hn
    rw [hX, Bool.and_false, Bool.and_false]
  · rw [hu2 i hi hn]
theorem ed_child {n a b k had e : Nat} {T H R : Nat → Nat} {u u' : Nat → Bool} (hok : ed_ok n T H a R b k had u) (he : e < a) (hu : u e = false) (hu1 : u' e = true) (hu2 : ∀ i, i < a → i ≠ e → u' i = u i) :
    ed_ok n T H a R b k (had ||| 2 ^ H e) u' ↔ ∀ X, 0 < X → X < 2 ^ n → had &&& X ≠ 0 → ed_en T H X e = true → ed_q R b k X < ed_rho T H a u X := by
  have hp : ∀ X, ed_en T H X e = true → ed_p R b k (had ||| 2 ^ H e) X = ed_q R b k X := by
    intro X hX
    have hb : X.testBit (H e) = true := by
      rw [ed_en, Bool.and_eq_true] at hX
      exact hX.1
    have h1 : (had ||| 2 ^ H e).testBit (H e) = true := by rw [Nat.testBit_or, Nat.testBit_two_pow_self, Bool.or_true]
    rw [ed_p, ed_beqf (ed_and1 h1 hb), ed_bf, Nat.zero_add]
  constructor
  · intro h X h0 h1 h2 h3
    have h4 := h X h0 h1
    rw [hp X h3] at h4
    have h5 := ed_rho_in he hu hu1 hu2 h3
    omega
  · intro h X h0 h1
    have h4 := hok X h0 h1
    cases h3 : ed_en T H X e with
    | true =>
      rw [hp X h3]
      have h5 := ed_rho_in he hu hu1 hu2 h3
      by_cases h2 : had &&& X = 0
      · rw [ed_p, h2] at h4
        have h6 : ed_b ((0 : Nat) == 0) = 1 := rfl
        omega
      · have h6 := h X h0 h1 h2 h3
        omega
    | false =>
      rw [ed_rho_out hu2 h3]
      refine Nat.le_trans ?_ h4
      rw [ed_p, ed_p]
      refine Nat.add_le_add_right (ed_b_mono _ _ ?_) _
      intro h5
      rw [ed_beq] at h5 ⊢
      rw [Nat.and_or_distrib_right] at h5
      exact (Nat.or_eq_zero_iff.mp h5).1
theorem ed_hi {x n i : Nat} (hx : x < 2 ^ n) (hi : n ≤ i) : x.testBit i = false := Nat.testBit_lt_two_pow (Nat.lt_of_lt_of_le hx (Nat.pow_le_pow_right (by decide) hi))
theorem ed_in {x n i : Nat} (hx : x < 2 ^ n) (hi : x.testBit i = true) : i < n := by
  rcases Nat.lt_or_ge i n with h | h
  · exact h
  · rw [ed_hi hx h] at hi
    cases hi
theorem ed_exists {n a b k had : Nat} {T H R : Nat → Nat} {u : Nat → Bool} (hok : ed_ok n T H a R b k had u) (hT : ∀ e, e < a → T e < n) (hh : had < 2 ^ n) (hne : had ≠ 2 ^ n - 1) :
    ∃ e, e < a ∧ u e = false ∧ had.testBit (T e) = true ∧ had.testBit (H e) = false ∧ ∀ X, 0 < X → X < 2 ^ n → had &&& X ≠ 0 → ed_en T H X e = true → ed_q R b k X < ed_rho T H a u X := by
  by_cases ht : ∃ X, 0 < X ∧ X < 2 ^ n ∧ had &&& X ≠ 0 ∧ X &&& had ≠ X ∧ ed_rho T H a u X ≤ ed_q R b k X
  · obtain ⟨X, ⟨h0, h1, h2, h3, h4⟩, hmin⟩ := pk_least _ ht
    have hZb : ∀ i, (X ^^^ (X &&& had)).testBit i = (X.testBit i && !had.testBit i) := by
      intro i
      rw [Nat.testBit_xor, Nat.testBit_and]
      cases X.testBit i <;> cases had.testBit i <;> rfl
    generalize X ^^^ (X &&& had) = Z at hZb
    have hZ0 : Z ≠ 0 := by
      intro hz
      apply h3
      apply Nat.eq_of_testBit_eq
      intro i
      have h5 := hZb i
      rw [hz, Nat.zero_testBit] at h5
      rw [Nat.testBit_and]
      revert h5
      cases X.testBit i <;> cases had.testBit i <;> decide
    have hZn : Z < 2 ^ n := by
      apply Nat.lt_pow_two_of_testBit
      intro i hi
      rw [hZb i, ed_hi h1 hi, Bool.false_and]
    have hZX : Z &&& X = Z := by
      apply Nat.eq_of_testBit_eq
      intro i
      rw [Nat.testBit_and, hZb i]
      cases X.testBit i <;> cases had.testBit i <;> rfl
    have hZh : had &&& Z = 0 := by
      apply Nat.eq_of_testBit_eq
      intro i
      rw [Nat.testBit_and, hZb i, Nat.zero_testBit]
      cases X.testBit i <;> cases had.testBit i <;> rfl
    have h6 := hok Z (Nat.pos_of_ne_zero hZ0) hZn
    rw [ed_p, hZh] at h6
    have h7 : ed_b ((0 : Nat) == 0) = 1 := rfl
    have h8 := ed_q_anti (R := R) (b := b) (k := k) hZX
    obtain ⟨e, he, hf, hg⟩ := ed_ct_ex (f := fun e => !u e && ed_en T H Z e) (g := fun e => !u e && ed_en T H X e) (n := a) (by
      show ed_rho T H a u X < ed_rho T H a u Z
      omega)
    have hu : u e = false := by
      revert hf
      cases u e
      · intro _
        rfl
      · intro hf
        exact absurd hf (by simp)
    have hf : ed_en T H Z e = true := by
      have hf' : (!u e && ed_en T H Z e) = true := hf
      rw [hu] at hf'
      exact hf'
    have hg : ed_en T H X e = false := by
      have hg' : (!u e && ed_en T H X e) = false := hg
      rw [hu] at hg'
      exact hg'
    rw [ed_en, hZb, hZb] at hf
    rw [ed_en] at hg
    have hb : X.testBit (H e) = true ∧ had.testBit (H e) = false ∧ X.testBit (T e) = true ∧ had.testBit (T e) = true := by
      revert hf hg
      cases X.testBit (H e) <;> cases had.testBit (H e) <;> cases X.testBit (T e) <;> cases had.testBit (T e) <;> decide
    obtain ⟨b1, b2, b3, b4⟩ := hb
    refine ⟨e, he, hu, b4, b2, ?_⟩
    intro Y y0 y1 y2 y3
    rw [ed_en, Bool.and_eq_true] at y3
    obtain ⟨y3, y4⟩ := y3
    have y4 : Y.testBit (T e) = false := by
      revert y4
      cases Y.testBit (T e) <;> decide
    rcases Nat.lt_or_ge (ed_q R b k Y) (ed_rho T H a u Y) with y5 | y5
    · exact y5
    · exfalso
      have w1 := ed_rho_sub T H a u X Y
      have w2 := ed_q_super R b k X Y
      have hW0 : 0 < X &&& Y := Nat.pos_of_ne_zero (ed_and1 b1 y3)
      have hWn : X &&& Y < 2 ^ n := Nat.and_lt_two_pow _ y1
      have hVn : X ||| Y < 2 ^ n := Nat.or_lt_two_pow h1 y1
      have hV0 : 0 < X ||| Y := Nat.lt_of_lt_of_le h0 Nat.left_le_or
      have w3 := hok _ hW0 hWn
      have w4 := hok _ hV0 hVn
      rw [ed_p] at w3 w4
      have w5 : had &&& (X &&& Y) ≠ 0 := by
        intro hz
        rw [hz] at w3
        omega
      refine hmin (X &&& Y) ?_ ⟨hW0, hWn, w5, ?_, by omega⟩
      · have hle : X &&& Y ≤ X := Nat.and_le_left
        have hn : X &&& Y ≠ X := by
          intro hz
          have hz' := congrArg (fun z => Nat.testBit z (T e)) hz
          simp only [Nat.testBit_and, b3, y4, Bool.and_false] at hz'
          cases hz'
        omega
      · intro hz
        have hz' := congrArg (fun z => Nat.testBit z (H e)) hz
        simp only [Nat.testBit_and, b1, b2, y3, Bool.and_false, Bool.and_true] at hz'
        cases hz'
  · have hYb : ∀ i, ((2 ^ n - 1) ^^^ had).testBit i = (decide (i < n) && !had.testBit i) := by
      intro i
      rw [Nat.testBit_xor, Nat.testBit_two_pow_sub_one]
      rcases Nat.lt_or_ge i n with h | h
      · rw [decide_eq_true h]
        cases had.testBit i <;> rfl
      · rw [decide_eq_false (by omega), ed_hi hh h]
        rfl
    have hY0 : (2 ^ n - 1) ^^^ had ≠ 0 := by
      intro hz
      apply hne
      apply Nat.eq_of_testBit_eq
      intro i
      have h5 := hYb i
      rw [hz, Nat.zero_testBit] at h5
      rw [Nat.testBit_two_pow_sub_one]
      rcases Nat.lt_or_ge i n with h | h
      · rw [decide_eq_true h] at h5 ⊢
        revert h5
        cases had.testBit i <;> decide
      · rw [decide_eq_false (by omega), ed_hi hh h]
    generalize (2 ^ n - 1) ^^^ had = Y at hYb hY0
    have hYn : Y < 2 ^ n := by
      apply Nat.lt_pow_two_of_testBit
      intro i hi
      rw [hYb i, decide_eq_false (by omega), Bool.false_and]
    have hYh : had &&& Y = 0 := by
      apply Nat.eq_of_testBit_eq
      intro i
      rw [Nat.testBit_and, hYb i, Nat.zero_testBit]
      cases had.testBit i
      · rfl
      · rw [Bool.not_true, Bool.and_false, Bool.and_false]
    have h6 := hok Y (Nat.pos_of_ne_zero hY0) hYn
    rw [ed_p, hYh] at h6
    have h7 : ed_b ((0 : Nat) == 0) = 1 := rfl
    obtain ⟨e, he, hf, -⟩ := ed_ct_ex (f := fun e => !u e && ed_en T H Y e) (g := fun _ => false) (n := a) (by
      show ed_ct (fun _ => false) a < ed_rho T H a u Y
      rw [ed_ct_0]
      omega)
    have hf : (!u e && ed_en T H Y e) = true := hf
    rw [Bool.and_eq_true, ed_en, hYb, hYb, decide_eq_true (hT e he)] at hf
    obtain ⟨hu, hf⟩ := hf
    have hu : u e = false := by
      revert hu
      cases u e <;> decide
    have hb : had.testBit (H e) = false ∧ had.testBit (T e) = true := by
      revert hf
      generalize decide (H e < n) = z
      revert z
      cases had.testBit (H e) <;> cases had.testBit (T e) <;> decide
    refine ⟨e, he, hu, hb.2, hb.1, ?_⟩
    intro X y0 y1 y2 y3
    rcases Nat.lt_or_ge (ed_q R b k X) (ed_rho T H a u X) with y5 | y5
    · exact y5
    · exfalso
      apply ht
      refine ⟨X, y0, y1, y2, ?_, y5⟩
      intro hz
      rw [ed_en, Bool.and_eq_true] at y3
      have hz' := congrArg (fun z => Nat.testBit z (H e)) hz
      simp only [Nat.testBit_and, hb.1, y3.1, Bool.and_false] at hz'
      cases hz'

/-! the run of the packing: which arc is taken, what is left, how it ends -/
theorem ed_rho_u {T H : Nat → Nat} {a : Nat} {u u' : Nat → Bool} (h : ∀ e, e < a → u e = u' e) (X : Nat) : ed_rho T H a u X = ed_rho T H a u' X := ed_ct_congr (fun e he => by rw [h e he])
theorem ed_ok_u {n a b k had : Nat} {T H R : Nat → Nat} {u u' : Nat → Bool} (h : ∀ e, e < a → u e = u' e) (ho : ed_ok n T H a R b k had u) : ed_ok n T H a R b k had u' := by
  intro X h0 h1
  rw [← ed_rho_u h X]
  exact ho X h0 h1
theorem ed_all_and {n X : Nat} (h : X < 2 ^ n) : (2 ^ n - 1) &&& X = X := by
  rw [Nat.and_comm]
  exact Nat.and_two_pow_sub_one_of_lt_two_pow h
theorem ed_q_last {R : Nat → Nat} {b k X : Nat} (h : b ≤ k + 1) : ed_q R b k X = 0 := by
  rw [ed_q, ed_ct_congr (g := fun _ => false), ed_ct_0]
  intro j hj
  rw [decide_eq_false (by omega), Bool.false_and]
theorem ed_q_next {R : Nat → Nat} {b k X : Nat} (h : k + 1 < b) : ed_q R b k X = ed_b (R (k + 1) &&& X == 0) + ed_q R b (k + 1) X := by
  cases hx : (R (k + 1) &&& X == 0) with
  | true =>
    have h1 := ed_ct_del (f := fun j => decide (k < j) && (R j &&& X == 0)) (g := fun j => decide (k + 1 < j) && (R j &&& X == 0)) h (by rw [decide_eq_true (by omega), hx]; rfl) (by rw [decide_eq_false (by omega)]; rfl) (fun j hj hn => by
      show (decide (k + 1 < j) && (R j &&& X == 0)) = (decide (k < j) && (R j &&& X == 0))
      by_cases hk : k < j
      · rw [decide_eq_true hk, decide_eq_true (by omega)]
      · rw [decide_eq_false hk, decide_eq_false (by omega)])
    rw [ed_bt, ed_q, ed_q]
    omega
  | false =>
    rw [ed_bf, Nat.zero_add]
    apply ed_ct_congr
    intro j hj
    show (decide (k < j) && (R j &&& X == 0)) = (decide (k + 1 < j) && (R j &&& X == 0))
    by_cases hn : j = k + 1
    · subst hn
      rw [hx, Bool.and_false, Bool.and_false]
    · by_cases hk : k < j
      · rw [decide_eq_true hk, decide_eq_true (by omega)]
      · rw [decide_eq_false hk, decide_eq_false (by omega)]
/-- the branching k has all: what is left is the rest -/
theorem ed_next {n a b k : Nat} {T H R : Nat → Nat} {u : Nat → Bool} (hk : k < b) : ed_ok n T H a R b k (2 ^ n - 1) u ↔ (k + 1 = b ∨ ed_ok n T H a R b (k + 1) (R (k + 1)) u) := by
  have hp : ∀ X, 0 < X → X < 2 ^ n → ed_p R b k (2 ^ n - 1) X = ed_q R b k X := by
    intro X h0 h1
    rw [ed_p, ed_all_and h1, ed_beqf (by omega), ed_bf, Nat.zero_add]
  by_cases hb : k + 1 = b
  · constructor
    · intro _
      exact Or.inl hb
    · intro _ X h0 h1
      rw [hp X h0 h1, ed_q_last (by omega)]
      exact Nat.zero_le _
  · constructor
    · intro h
      right
      intro X h0 h1
      have h2 := h X h0 h1
      rw [hp X h0 h1, ed_q_next (by omega)] at h2
      exact h2
    · intro h X h0 h1
      rcases h with h | h
      · exact absurd h hb
      · rw [hp X h0 h1, ed_q_next (by omega)]
        exact h X h0 h1
/-- all branchings at the start: the first one's state -/
def ed_mis (R : Nat → Nat) (b X : Nat) : Nat := ed_ct (fun k => R k &&& X == 0) b
theorem ed_mis_p {R : Nat → Nat} {b X : Nat} (hb : 0 < b) : ed_p R b 0 (R 0) X = ed_mis R b X := by
  rw [ed_p, ed_mis, ed_q]
  cases hx : (R 0 &&& X == 0) with
  | true =>
    have h1 := ed_ct_del (f := fun k => R k &&& X == 0) (g := fun j => decide (0 < j) && (R j &&& X == 0)) hb hx rfl (fun j hj hn => by
      show (decide (0 < j) && (R j &&& X == 0)) = (R j &&& X == 0)
      rw [decide_eq_true (by omega), Bool.true_and])
    rw [ed_bt]
    omega
  | false =>
    rw [ed_bf, Nat.zero_add]
    apply ed_ct_congr
    intro j hj
    show (decide (0 < j) && (R j &&& X == 0)) = (R j &&& X == 0)
    by_cases hn : j = 0
    · subst hn
      rw [hx, Bool.and_false]
    · rw [decide_eq_true (by omega), Bool.true_and]
def ru_ok (n a b : Nat) (T H R : Nat → Nat) (k had : Nat) (u : Nat → Bool) : Bool := (List.range (2 ^ n)).all (fun X => X == 0 || decide (ed_p R b k had X ≤ ed_rho T H a u X))
theorem ru_ok_iff {n a b k had : Nat} {T H R : Nat → Nat} {u : Nat → Bool} : ru_ok n a b T H R k had u = true ↔ ed_ok n T H a R b k had u := by
  rw [ru_ok, List.all_eq_true]
  constructor
  · intro h X h0 h1
    have h2 : (X == 0 || decide (ed_p R b k had X ≤ ed_rho T H a u X)) = true := h X (List.mem_range.mpr h1)
    rw [Bool.or_eq_true, decide_eq_true_eq, beq_iff_eq] at h2
    rcases h2 with h2 | h2
    · omega
    · exact h2
  · intro h X hX
    show (X == 0 || decide (ed_p R b k had X ≤ ed_rho T H a u X)) = true
    rw [Bool.or_eq_true, decide_eq_true_eq, beq_iff_eq]
    rcases Nat.eq_zero_or_pos X with h0 | h0
    · exact Or.inl h0
    · exact Or.inr (h X h0 (List.mem_range.mp hX))
def ru_use (u : Nat → Bool) (e : Nat) : Nat → Bool := fun i => decide (i = e) || u i
def ru_gr (T H : Nat → Nat) (had : Nat) (u : Nat → Bool) (e : Nat) : Bool := !u e && (had.testBit (T e) && !had.testBit (H e))
def ru_good (n a b : Nat) (T H R : Nat → Nat) (k had : Nat) (u : Nat → Bool) (e : Nat) : Bool := ru_gr T H had u e && ru_ok n a b T H R k (had ||| 2 ^ H e) (ru_use u e)
def ru_pick (n a b : Nat) (T H R : Nat → Nat) (k had : Nat) (u : Nat → Bool) : Nat := ed_fd (ru_good n a b T H R k had u) a
theorem ru_use_e (u : Nat → Bool) (e : Nat) : ru_use u e e = true := by rw [ru_use, decide_eq_true rfl, Bool.true_or]
theorem ru_use_n (u : Nat → Bool) {e i : Nat} (h : i ≠ e) : ru_use u e i = u i := by rw [ru_use, decide_eq_false h, Bool.false_or]
theorem ru_pick_ex {n a b k had : Nat} {T H R : Nat → Nat} {u : Nat → Bool} (hok : ed_ok n T H a R b k had u) (hT : ∀ e, e < a → T e < n) (hh : had < 2 ^ n) (hne : had ≠ 2 ^ n - 1) : ∃ e, e < a ∧ ru_good n a b T H R k had u e = true := by
  obtain ⟨e, h1, h2, h3, h4, h5⟩ := ed_exists hok hT hh hne
  refine ⟨e, h1, ?_⟩
  rw [ru_good, ru_gr, h2, h3, h4, Bool.and_eq_true]
  refine ⟨rfl, ?_⟩
  rw [ru_ok_iff]
  exact (ed_child hok h1 h2 (ru_use_e u e) (fun i _ hn => ru_use_n u hn)).mpr h5
theorem ru_pick_at {n a b k had : Nat} {T H R : Nat → Nat} {u : Nat → Bool} (hok : ed_ok n T H a R b k had u) (hT : ∀ e, e < a → T e < n) (hh : had < 2 ^ n) (hne : had ≠ 2 ^ n - 1) :
    ru_pick n a b T H R k had u < a ∧ ru_gr T H had u (ru_pick n a b T H R k had u) = true ∧ ed_ok n T H a R b k (had ||| 2 ^ H (ru_pick n a b T H R k had u)) (ru_use u (ru_pick n a b T H R k had u)) ∧ ∀ j, j < ru_pick n a b T H R k had u → ru_good n a b T H R k had u j = false := by
  have h := ed_fd_ex (ru_pick_ex hok hT hh hne)
  have e1 : ed_fd (ru_good n a b T H R k had u) a = ru_pick n a b T H R k had u := rfl
  rw [e1] at h
  generalize ru_pick n a b T H R k had u = e at h
  obtain ⟨h1, h2, h3⟩ := h
  rw [ru_good, Bool.and_eq_true, ru_ok_iff] at h2
  exact ⟨h1, h2.1, h2.2, h3⟩
theorem ru_gr_iff {T H : Nat → Nat} {had e : Nat} {u : Nat → Bool} : ru_gr T H had u e = true ↔ u e = false ∧ had.testBit (T e) = true ∧ had.testBit (H e) = false := by
  rw [ru_gr]
  cases u e <;> cases had.testBit (T e) <;> cases had.testBit (H e) <;> decide
/-! owners -/
def ow_u (O : Nat → Int32) : Nat → Bool := fun e => decide (¬ O e = -1)
theorem ow_n1 : ∀ k, k < 3 → ¬ nI k = -1 := by decide +kernel
theorem ow_upd (O : Nat → Int32) (e : Nat) {k : Nat} (hk : k < 3) : ow_u (upd O e (nI k)) = ru_use (ow_u O) e := by
  funext i
  by_cases h : i = e
  · subst h
    rw [ru_use_e, ow_u, pk_us, decide_eq_true (ow_n1 k hk)]
  · rw [ru_use_n _ h, ow_u, ow_u, pk_un h]
def ru_st (n a b : Nat) (T H R : Nat → Nat) (k : Nat) (s : Nat × (Nat → Int32)) : Nat × (Nat → Int32) := if s.1 = 2 ^ n - 1 then s else (s.1 ||| 2 ^ H (ru_pick n a b T H R k s.1 (ow_u s.2)), upd s.2 (ru_pick n a b T H R k s.1 (ow_u s.2)) (nI k))
def ru_it (n a b : Nat) (T H R : Nat → Nat) (k : Nat) : Nat → Nat × (Nat → Int32) → Nat × (Nat → Int32)
  | 0, s => s
  | m + 1, s => ru_st n a b T H R k (ru_it n a b T H R k m s)
theorem ru_it_s (n a b : Nat) (T H R : Nat → Nat) (k m : Nat) (s : Nat × (Nat → Int32)) : ru_it n a b T H R k (m + 1) s = ru_st n a b T H R k (ru_it n a b T H R k m s) := rfl
theorem ru_st_fix {n a b k : Nat} {T H R : Nat → Nat} {s : Nat × (Nat → Int32)} (h : s.1 = 2 ^ n - 1) : ru_st n a b T H R k s = s := if_pos h
theorem ru_st_go {n a b k : Nat} {T H R : Nat → Nat} {s : Nat × (Nat → Int32)} (h : ¬ s.1 = 2 ^ n - 1) : ru_st n a b T H R k s = (s.1 ||| 2 ^ H (ru_pick n a b T H R k s.1 (ow_u s.2)), upd s.2 (ru_pick n a b T H R k s.1 (ow_u s.2)) (nI k)) := if_neg h
theorem ru_it_fix {n a b k : Nat} {T H R : Nat → Nat} {s : Nat × (Nat → Int32)} {j : Nat} (h : (ru_it n a b T H R k j s).1 = 2 ^ n - 1) (m : Nat) : ru_it n a b T H R k (j + m) s = ru_it n a b T H R k j s := by
  induction m with
  | zero => rfl
  | succ m ih => rw [← Nat.add_assoc, ru_it_s, ih, ru_st_fix h]
theorem ru_it_two {n a b k : Nat} {T H R : Nat → Nat} {s : Nat × (Nat → Int32)} {i j : Nat} (hi : (ru_it n a b T H R k i s).1 = 2 ^ n - 1) (hj : (ru_it n a b T H R k j s).1 = 2 ^ n - 1) : ru_it n a b T H R k i s = ru_it n a b T H R k j s := by
  rcases Nat.le_total i j with h | h
  · rw [← ru_it_fix hi (j - i), Nat.add_sub_cancel' h]
  · rw [← ru_it_fix hj (i - j), Nat.add_sub_cancel' h]
/-- what holds of a state of the run at the branching k -/
def ru_I (n a b : Nat) (T H R : Nat → Nat) (k : Nat) (s : Nat × (Nat → Int32)) : Prop := ed_ok n T H a R b k s.1 (ow_u s.2) ∧ s.1 < 2 ^ n ∧ s.1 ≠ 0 ∧ (∀ e, e < a → s.2 e = nI k → s.1.testBit (H e) = true) ∧ (∀ e, s.2 e = -1 ∨ (e < a ∧ ∃ j, j ≤ k ∧ s.2 e = nI j))
theorem ru_or_ne {x y : Nat} (h : x ≠ 0) : x ||| y ≠ 0 := fun z => h (Nat.or_eq_zero_iff.mp z).1
theorem ru_I_st {n a b k : Nat} {T H R : Nat → Nat} {s : Nat × (Nat → Int32)} (hT : ∀ e, e < a → T e < n ∧ H e < n) (hk : k < 3) (h : ru_I n a b T H R k s) : ru_I n a b T H R k (ru_st n a b T H R k s) := by
  by_cases hf : s.1 = 2 ^ n - 1
  · rw [ru_st_fix hf]
    exact h
  · rw [ru_st_go hf]
    obtain ⟨h1, h2, h3, h4, h5⟩ := h
    obtain ⟨p1, p2, p3, p4⟩ := ru_pick_at h1 (fun e he => (hT e he).1) h2 hf
    generalize ru_pick n a b T H R k s.1 (ow_u s.2) = e at p1 p2 p3 p4
    refine ⟨?_, ?_, ru_or_ne h3, ?_, ?_⟩
    · show ed_ok n T H a R b k (s.1 ||| 2 ^ H e) (ow_u (upd s.2 e (nI k)))
      rw [ow_upd s.2 e hk]
      exact p3
    · exact Nat.or_lt_two_pow h2 (bi_pw (hT e p1).2)
    · intro i hi hO
      show (s.1 ||| 2 ^ H e).testBit (H i) = true
      rw [Nat.testBit_or]
      by_cases hie : i = e
      · subst hie
        rw [Nat.testBit_two_pow_self, Bool.or_true]
      · have hO' : upd s.2 e (nI k) i = nI k := hO
        rw [pk_un hie] at hO'
        rw [h4 i hi hO', Bool.true_or]
    · intro i
      show upd s.2 e (nI k) i = -1 ∨ (i < a ∧ ∃ j, j ≤ k ∧ upd s.2 e (nI k) i = nI j)
      by_cases hie : i = e
      · subst hie
        rw [pk_us]
        exact Or.inr ⟨p1, k, Nat.le_refl k, rfl⟩
      · rw [pk_un hie]
        exact h5 i
theorem ru_I_it {n a b k : Nat} {T H R : Nat → Nat} {s : Nat × (Nat → Int32)} (hT : ∀ e, e < a → T e < n ∧ H e < n) (hk : k < 3) (h : ru_I n a b T H R k s) (m : Nat) : ru_I n a b T H R k (ru_it n a b T H R k m s) := by
  induction m with
  | zero => exact h
  | succ m ih =>
    rw [ru_it_s]
    exact ru_I_st hT hk ih
/-! how long it runs -/
def ru_left (n had : Nat) : Nat := ed_ct (fun v => !had.testBit v) n
theorem ed_ct_lt {f : Nat → Bool} {n k : Nat} (hk : k < n) (hf : f k = false) : ed_ct f n < n := by
  induction n with
  | zero => omega
  | succ n ih =>
    rw [ed_ct_s]
    have h1 := ed_b_le (f n)
    have h2 := ed_ct_le f n
    by_cases hkn : k = n
    · subst hkn
      rw [hf, ed_bf]
      omega
    · have h3 := ih (by omega)
      omega
theorem ru_left_lt {n had : Nat} (h : had < 2 ^ n) (h0 : had ≠ 0) : ru_left n had < n := by
  obtain ⟨v, hv⟩ := Nat.exists_testBit_of_ne_zero h0
  exact ed_ct_lt (ed_in h hv) (by rw [hv]; rfl)
theorem ru_left_0 {n had : Nat} (h : had < 2 ^ n) (h0 : ru_left n had = 0) : had = 2 ^ n - 1 := by
  apply Nat.eq_of_testBit_eq
  intro i
  rw [Nat.testBit_two_pow_sub_one]
  rcases Nat.lt_or_ge i n with hi | hi
  · rw [decide_eq_true hi]
    cases hb : had.testBit i with
    | true => rfl
    | false =>
      have h1 := ed_ct_pos (f := fun v => !had.testBit v) hi (by rw [hb]; rfl)
      rw [ru_left] at h0
      omega
  · rw [decide_eq_false (by omega), ed_hi h hi]
theorem ru_left_st {n had v : Nat} (hv : v < n) (hb : had.testBit v = false) : ru_left n (had ||| 2 ^ v) + 1 = ru_left n had := by
  apply ed_ct_del hv
  · rw [hb]
    rfl
  · rw [Nat.testBit_or, Nat.testBit_two_pow_self, Bool.or_true]
    rfl
  · intro i _ hn
    rw [Nat.testBit_or, Nat.testBit_two_pow_of_ne (Ne.symm hn), Bool.or_false]
theorem ru_it_left {n a b k : Nat} {T H R : Nat → Nat} {s : Nat × (Nat → Int32)} (hT : ∀ e, e < a → T e < n ∧ H e < n) (hk : k < 3) (h : ru_I n a b T H R k s) (m : Nat) : (ru_it n a b T H R k m s).1 = 2 ^ n - 1 ∨ ru_left n (ru_it n a b T H R k m s).1 + m ≤ ru_left n s.1 := by
  induction m with
  | zero => exact Or.inr (Nat.le_refl _)
  | succ m ih =>
    rw [ru_it_s]
    have hI := ru_I_it hT hk h m
    generalize ru_it n a b T H R k m s = t at ih hI
    by_cases hf : t.1 = 2 ^ n - 1
    · rw [ru_st_fix hf]
      exact Or.inl hf
    · rw [ru_st_go hf]
      rcases ih with ih | ih
      · exact absurd ih hf
      · right
        obtain ⟨h1, h2, -⟩ := hI
        obtain ⟨p1, p2, -⟩ := ru_pick_at h1 (fun e he => (hT e he).1) h2 hf
        generalize ru_pick n a b T H R k t.1 (ow_u t.2) = e at p1 p2
        have h3 := ru_left_st (hT e p1).2 (ru_gr_iff.mp p2).2.2
        show ru_left n (t.1 ||| 2 ^ H e) + (m + 1) ≤ ru_left n s.1
        omega
theorem ru_it_all {n a b k : Nat} {T H R : Nat → Nat} {s : Nat × (Nat → Int32)} (hT : ∀ e, e < a → T e < n ∧ H e < n) (hk : k < 3) (h : ru_I n a b T H R k s) : (ru_it n a b T H R k (n - 1) s).1 = 2 ^ n - 1 := by
  rcases ru_it_left hT hk h (n - 1) with h1 | h1
  · exact h1
  · have h2 := ru_left_lt h.2.1 h.2.2.1
    exact ru_left_0 (ru_I_it hT hk h (n - 1)).2.1 (by omega)
/-! all branchings, one after the other -/
def pg_O (n a b : Nat) (T H R : Nat → Nat) : Nat → (Nat → Int32)
  | 0 => fun _ => -1
  | k + 1 => (ru_it n a b T H R k (n - 1) (R k, pg_O n a b T H R k)).2
def pg_all (n a b : Nat) (T H R : Nat → Nat) : Nat → Int32 := if ru_ok n a b T H R 0 (R 0) (fun _ => false) = true then pg_O n a b T H R b else fun _ => -1
/-- what holds ahead of the branching k -/
def pg_I (n a b : Nat) (T H R : Nat → Nat) (k : Nat) (O : Nat → Int32) : Prop := (k < b → ed_ok n T H a R b k (R k) (ow_u O)) ∧ ∀ e, O e = -1 ∨ (e < a ∧ ∃ j, j < k ∧ O e = nI j)
theorem ow_m1 : ow_u (fun _ => -1) = fun _ => false := by
  funext e
  rw [ow_u]
  exact decide_eq_false (fun h => h rfl)
theorem pg_I0 {n a b : Nat} {T H R : Nat → Nat} (h : ru_ok n a b T H R 0 (R 0) (fun _ => false) = true) : pg_I n a b T H R 0 (fun _ => -1) := by
  refine ⟨fun _ => ?_, fun e => Or.inl rfl⟩
  rw [ow_m1]
  exact ru_ok_iff.mp h
theorem ow_inj {j k : Nat} (hj : j < 3) (hk : k < 3) (h : nI j = nI k) : j = k := (nI_eq (by omega) (by omega)).mp h
theorem pg_start {n a b k : Nat} {T H R : Nat → Nat} {O : Nat → Int32} (hR : ∀ k, k < b → R k ≠ 0 ∧ R k < 2 ^ n) (hb : b ≤ 3) (hk : k < b) (h : pg_I n a b T H R k O) : ru_I n a b T H R k (R k, O) := by
  refine ⟨h.1 hk, (hR k hk).2, (hR k hk).1, ?_, ?_⟩
  · intro e _ hO
    exfalso
    have hO' : O e = nI k := hO
    rcases h.2 e with h1 | ⟨_, j, h2, h3⟩
    · rw [h1] at hO'
      exact ow_n1 k (by omega) hO'.symm
    · rw [h3] at hO'
      have h4 := ow_inj (by omega) (by omega) hO'
      omega
  · intro e
    rcases h.2 e with h1 | ⟨h0, j, h2, h3⟩
    · exact Or.inl h1
    · exact Or.inr ⟨h0, j, by omega, h3⟩
theorem pg_end {n a b k : Nat} {T H R : Nat → Nat} {s : Nat × (Nat → Int32)} (hk : k < b) (h : ru_I n a b T H R k s) (hs : s.1 = 2 ^ n - 1) : pg_I n a b T H R (k + 1) s.2 := by
  obtain ⟨h1, h2, h3, h4, h5⟩ := h
  rw [hs] at h1
  refine ⟨fun hb => ?_, fun e => ?_⟩
  · rcases (ed_next hk).mp h1 with h6 | h6
    · omega
    · exact h6
  · rcases h5 e with h6 | ⟨h0, j, h6, h7⟩
    · exact Or.inl h6
    · exact Or.inr ⟨h0, j, by omega, h7⟩
theorem pg_step {n a b k : Nat} {T H R : Nat → Nat} {O : Nat → Int32} (hT : ∀ e, e < a → T e < n ∧ H e < n) (hR : ∀ k, k < b → R k ≠ 0 ∧ R k < 2 ^ n) (hb : b ≤ 3) (hk : k < b) (h : pg_I n a b T H R k O) : pg_I n a b T H R (k + 1) (ru_it n a b T H R k (n - 1) (R k, O)).2 := by
  have h1 := pg_start hR hb hk h
  exact pg_end hk (ru_I_it hT (by omega) h1 (n - 1)) (ru_it_all hT (by omega) h1)
theorem pg_I_k {n a b : Nat} {T H R : Nat → Nat} (hT : ∀ e, e < a → T e < n ∧ H e < n) (hR : ∀ k, k < b → R k ≠ 0 ∧ R k < 2 ^ n) (hb : b ≤ 3) (h : ru_ok n a b T H R 0 (R 0) (fun _ => false) = true) (k : Nat) (hk : k ≤ b) : pg_I n a b T H R k (pg_O n a b T H R k) := by
  induction k with
  | zero => exact pg_I0 h
  | succ k ih => exact pg_step hT hR hb (by omega) (ih (by omega))
/-! ways -/
def wy_ok (a : Nat) (H : Nat → Nat) (O W : Nat → Int32) : Prop := ∀ k v, k < 3 → v < 7 → (W (7 * k + v) = -1 ∧ ∀ e, e < a → O e = nI k → H e ≠ v) ∨ ∃ e, e < a ∧ W (7 * k + v) = nI e ∧ O e = nI k ∧ H e = v ∧ ∀ i, i < a → O i = nI k → H i = v → i = e
theorem wy_0 {a : Nat} {H : Nat → Nat} {O W : Nat → Int32} (hO : ∀ e, e < a → O e = -1) (hW : ∀ j, j < 21 → W j = -1) : wy_ok a H O W := by
  intro k v hk hv
  left
  refine ⟨hW _ (by omega), fun e he hO' => ?_⟩
  rw [hO e he] at hO'
  exact absurd hO'.symm (ow_n1 k hk)
theorem wy_st {a k e : Nat} {H : Nat → Nat} {O W : Nat → Int32} (h : wy_ok a H O W) (hk : k < 3) (he : e < a) (hO : O e = -1) (hv : H e < 7) (hn : ∀ i, i < a → O i = nI k → H i ≠ H e) : wy_ok a H (upd O e (nI k)) (upd W (7 * k + H e) (nI e)) := by
  intro k' v hk' hv'
  by_cases hc : k' = k ∧ v = H e
  · obtain ⟨rfl, rfl⟩ := hc
    right
    refine ⟨e, he, pk_us, pk_us, rfl, ?_⟩
    intro i hi hOi hHi
    by_cases hie : i = e
    · exact hie
    · rw [pk_un hie] at hOi
      exact absurd hHi (hn i hi hOi)
  · have hne : 7 * k' + v ≠ 7 * k + H e := by
      intro hz
      apply hc
      omega
    rw [pk_un hne]
    rcases h k' v hk' hv' with ⟨h1, h2⟩ | ⟨i, h1, h2, h3, h4, h5⟩
    · left
      refine ⟨h1, fun j hj hOj => ?_⟩
      by_cases hje : j = e
      · subst hje
        rw [pk_us] at hOj
        have h6 := ow_inj hk hk' hOj
        intro hz
        exact hc ⟨h6.symm, hz.symm⟩
      · rw [pk_un hje] at hOj
        exact h2 j hj hOj
    · right
      have hie : i ≠ e := by
        intro hz
        subst hz
        rw [hO] at h3
        exact ow_n1 k' hk' h3.symm
      refine ⟨i, h1, h2, by rw [pk_un hie]; exact h3, h4, fun j hj hOj hHj => ?_⟩
      by_cases hje : j = e
      · subst hje
        rw [pk_us] at hOj
        have h6 := ow_inj hk hk' hOj
        exact absurd ⟨h6.symm, hHj.symm⟩ hc
      · rw [pk_un hje] at hOj
        exact h5 j hj hOj hHj
theorem wy_look {a k v : Nat} {H : Nat → Nat} {O W : Nat → Int32} (h : wy_ok a H O W) (hk : k < 3) (hv : v < 7) : W (7 * k + v) = if ed_fd (fun e => decide (O e = nI k) && decide (H e = v)) a < a then nI (ed_fd (fun e => decide (O e = nI k) && decide (H e = v)) a) else -1 := by
  rcases h k v hk hv with ⟨h1, h2⟩ | ⟨e, h1, h2, h3, h4, h5⟩
  · rw [ed_fd_no, if_neg (Nat.lt_irrefl a)]
    · exact h1
    · intro j hj
      by_cases hO : O j = nI k
      · rw [decide_eq_false (h2 j hj hO), Bool.and_false]
      · rw [decide_eq_false hO, Bool.false_and]
  · rw [ed_fd_eq (e := e) h1, if_pos h1]
    · exact h2
    · rw [decide_eq_true h3, decide_eq_true h4]
      rfl
    · intro j hj
      by_cases hO : O j = nI k
      · by_cases hH : H j = v
        · have h6 := h5 j (by omega) hO hH
          omega
        · rw [decide_eq_false hH, Bool.and_false]
      · rw [decide_eq_false hO, Bool.false_and]
/-! surplus -/
def su_ok (n a b : Nat) (T H R : Nat → Nat) (k had : Nat) (u : Nat → Bool) (S : Nat → Int32) : Prop := ∀ X, 0 < X → X < 2 ^ n → S X = nI (ed_rho T H a u X - ed_p R b k had X)
def su_tk (T H : Nat → Nat) (had e X : Nat) : Bool := !(X &&& had == 0) && ed_en T H X e
theorem su_tk_iff {T H : Nat → Nat} {had e X : Nat} : su_tk T H had e X = true ↔ had &&& X ≠ 0 ∧ ed_en T H X e = true := by
  rw [su_tk, Bool.and_eq_true, Nat.and_comm]
  constructor
  · intro h
    refine ⟨fun hz => ?_, h.2⟩
    rw [hz] at h
    exact absurd h.1 (by decide)
  · intro h
    refine ⟨?_, h.2⟩
    rw [ed_beqf h.1]
    rfl
theorem ed_p_in {R : Nat → Nat} {b k had X : Nat} (h : had &&& X ≠ 0) : ed_p R b k had X = ed_q R b k X := by rw [ed_p, ed_beqf h, ed_bf, Nat.zero_add]
theorem ed_p_out {R : Nat → Nat} {b k had X : Nat} (h : had &&& X = 0) : ed_p R b k had X = 1 + ed_q R b k X := by rw [ed_p, h]; rfl
/-- an arc is safe: no set that it takes from is short -/
theorem su_safe {n a b k had e : Nat} {T H R : Nat → Nat} {u : Nat → Bool} (hok : ed_ok n T H a R b k had u) (he : e < a) (hu : u e = false) : ru_ok n a b T H R k (had ||| 2 ^ H e) (ru_use u e) = true ↔ ∀ X, 0 < X → X < 2 ^ n → su_tk T H had e X = true → 0 < ed_rho T H a u X - ed_p R b k had X := by
  rw [ru_ok_iff, ed_child hok he hu (ru_use_e u e) (fun i _ hn => ru_use_n u hn)]
  constructor
  · intro h X h0 h1 h2
    obtain ⟨h3, h4⟩ := su_tk_iff.mp h2
    have h5 := h X h0 h1 h3 h4
    rw [ed_p_in h3]
    omega
  · intro h X h0 h1 h3 h4
    have h5 := h X h0 h1 (su_tk_iff.mpr ⟨h3, h4⟩)
    rw [ed_p_in h3] at h5
    omega
theorem su_use {n a b k had e : Nat} {T H R : Nat → Nat} {u : Nat → Bool} {S S' : Nat → Int32} (hok : ed_ok n T H a R b k had u) (he : e < a) (hg : ru_gr T H had u e = true) (hs : ru_ok n a b T H R k (had ||| 2 ^ H e) (ru_use u e) = true) (hS : su_ok n a b T H R k had u S) (hS' : ∀ X, 0 < X → X < 2 ^ n → S' X = if su_tk T H had e X = true then S X - 1 else S X) : su_ok n a b T H R k (had ||| 2 ^ H e) (ru_use u e) S' := by
  obtain ⟨g1, g2, g3⟩ := ru_gr_iff.mp hg
  have hsafe := (su_safe hok he g1).mp hs
  intro X h0 h1
  rw [hS' X h0 h1, hS X h0 h1]
  have h5 := hok X h0 h1
  cases hen : ed_en T H X e with
  | true =>
    have hr := ed_rho_in he g1 (ru_use_e u e) (fun i _ hn => ru_use_n u hn) hen
    have hb : X.testBit (H e) = true := by
      rw [ed_en, Bool.and_eq_true] at hen
      exact hen.1
    have h1' : (had ||| 2 ^ H e).testBit (H e) = true := by rw [Nat.testBit_or, Nat.testBit_two_pow_self, Bool.or_true]
    rw [ed_p_in (ed_and1 h1' hb)]
    by_cases h2 : had &&& X = 0
    · rw [if_neg (fun hz => (su_tk_iff.mp hz).1 h2), ed_p_out h2]
      congr 1
      omega
    · have h3 := su_tk_iff.mpr ⟨h2, hen⟩
      have h4 := hsafe X h0 h1 h3
      rw [if_pos h3]
      rw [ed_p_in h2] at h4 ⊢
      rw [show ed_rho T H a u X - ed_q R b k X = (ed_rho T H a (ru_use u e) X - ed_q R b k X) + 1 by omega]
      exact nI_pred _
  | false =>
    rw [if_neg (fun hz => by rw [(su_tk_iff.mp hz).2] at hen; cases hen), ed_rho_out (u' := ru_use u e) (fun i _ hn => ru_use_n u hn) hen]
    have hp : ed_p R b k (had ||| 2 ^ H e) X = ed_p R b k had X := by
      by_cases h2 : had &&& X = 0
      · have hT : X.testBit (T e) = false := ed_and0 h2 g2
        have hH : X.testBit (H e) = false := by
          rw [ed_en, hT] at hen
          revert hen
          cases X.testBit (H e) <;> decide
        have h3 : (had ||| 2 ^ H e) &&& X = 0 := by
          rw [Nat.and_or_distrib_right, h2, Nat.and_comm, bi_bit0.mpr hH]
          rfl
        rw [ed_p_out h2, ed_p_out h3]
      · have h3 : (had ||| 2 ^ H e) &&& X ≠ 0 := by
          intro hz
          rw [Nat.and_or_distrib_right] at hz
          exact h2 (Nat.or_eq_zero_iff.mp hz).1
        rw [ed_p_in h2, ed_p_in h3]
    rw [hp]
theorem su_next {n a b k : Nat} {T H R : Nat → Nat} {u : Nat → Bool} {S : Nat → Int32} (hk : k + 1 < b) (h : su_ok n a b T H R k (2 ^ n - 1) u S) : su_ok n a b T H R (k + 1) (R (k + 1)) u S := by
  intro X h0 h1
  rw [h X h0 h1, ed_p_in (by rw [ed_all_and h1]; omega), ed_q_next hk]
  rfl
theorem su_start {n a b : Nat} {T H R : Nat → Nat} {S : Nat → Int32} (hb : 0 < b) (h : ∀ X, 0 < X → X < 2 ^ n → S X = nI (ed_rho T H a (fun _ => false) X - ed_mis R b X)) : su_ok n a b T H R 0 (R 0) (fun _ => false) S := by
  intro X h0 h1
  rw [h X h0 h1, ed_mis_p hb]
/-! an arc left out -/
theorem ed_ct_skip (f : Nat → Bool) {e m : Nat} (he : e ≤ m) : ed_ct (fun i => if i < e then f i else f (i + 1)) m + ed_b (f e) = ed_ct f (m + 1) := by
  induction m with
  | zero =>
    have h0 : e = 0 := by omega
    subst h0
    rfl
  | succ m ih =>
    by_cases hm : e = m + 1
    · rw [ed_ct_s f (m + 1), ← hm, ed_ct_congr (g := f)]
      intro i hi
      rw [if_pos (by omega)]
    · have h1 := ih (by omega)
      rw [ed_ct_s, if_neg (by omega), ed_ct_s f (m + 1)]
      omega
def rm_f (T : Nat → Nat) (e m : Nat) : Nat → Nat := fun i => if e ≤ i ∧ i < m then T (i + 1) else T i
theorem rm_rho {T H : Nat → Nat} {e m X : Nat} (he : e ≤ m) : ed_rho (rm_f T e m) (rm_f H e m) m (fun _ => false) X + ed_b (ed_en T H X e) = ed_rho T H (m + 1) (fun _ => false) X := by
  rw [ed_rho, ed_rho]
  have h := ed_ct_skip (fun i => !(fun _ => false) i && ed_en T H X i) he
  have h2 : ed_ct (fun i => !(fun _ => false) i && ed_en (rm_f T e m) (rm_f H e m) X i) m = ed_ct (fun i => if i < e then !(fun _ => false) i && ed_en T H X i else !(fun _ => false) (i + 1) && ed_en T H X (i + 1)) m := by
    apply ed_ct_congr
    intro i hi
    rw [ed_en, rm_f, rm_f]
    by_cases h3 : i < e
    · rw [if_neg (by omega), if_neg (by omega), if_pos h3]
      rfl
    · rw [if_pos (by omega), if_pos (by omega), if_neg h3]
      rfl
  rw [h2]
  exact h
theorem rm_lt {T : Nat → Nat} {e m n : Nat} (h : ∀ i, i < m + 1 → T i < n) : ∀ i, i < m → rm_f T e m i < n := by
  intro i hi
  rw [rm_f]
  split
  · exact h _ (by omega)
  · exact h _ (by omega)

/-! Packing: the greedy run over the surplus rows -/
def us_S (T H : Nat → Nat) (had j : Nat) (S : Nat → Int32) (X : Nat) : Nat → Int32 := fun Y => if 0 < Y ∧ Y < X ∧ su_tk T H had j Y = true then S Y - 1 else S Y
theorem us_1 (T H : Nat → Nat) (had j : Nat) (S : Nat → Int32) : us_S T H had j S 1 = S := by
  funext Y
  rw [us_S, if_neg (fun h => by omega)]
theorem us_at (T H : Nat → Nat) (had j : Nat) (S : Nat → Int32) (X : Nat) : us_S T H had j S X X = S X := by rw [us_S, if_neg (fun h => by omega)]
theorem us_n {T H : Nat → Nat} {had j : Nat} {S : Nat → Int32} {X : Nat} (h : su_tk T H had j X = false) : us_S T H had j S (X + 1) = us_S T H had j S X := by
  funext Y
  rw [us_S, us_S]
  by_cases hY : Y = X
  · subst hY
    rw [if_neg (fun z => by rw [h] at z; exact absurd z.2.2 (by decide)), if_neg (fun z => by omega)]
  · by_cases hc : 0 < Y ∧ Y < X ∧ su_tk T H had j Y = true
    · rw [if_pos hc, if_pos ⟨hc.1, by omega, hc.2.2⟩]
    · rw [if_neg hc, if_neg (fun z => hc ⟨z.1, by omega, z.2.2⟩)]
theorem us_s {T H : Nat → Nat} {had j : Nat} {S : Nat → Int32} {X : Nat} (h0 : 0 < X) (h : su_tk T H had j X = true) : upd (us_S T H had j S X) X (S X - 1) = us_S T H had j S (X + 1) := by
  funext Y
  by_cases hY : Y = X
  · subst hY
    rw [pk_us, us_S, if_pos ⟨h0, by omega, h⟩]
  · rw [pk_un hY, us_S, us_S]
    by_cases hc : 0 < Y ∧ Y < X ∧ su_tk T H had j Y = true
    · rw [if_pos hc, if_pos ⟨hc.1, by omega, hc.2.2⟩]
    · rw [if_neg hc, if_neg (fun z => hc ⟨z.1, by omega, z.2.2⟩)]
theorem us_val {T H : Nat → Nat} {had j N : Nat} {S : Nat → Int32} {X : Nat} (h0 : 0 < X) (h1 : X < N) : us_S T H had j S N X = if su_tk T H had j X = true then S X - 1 else S X := by
  rw [us_S]
  by_cases h : su_tk T H had j X = true
  · rw [if_pos ⟨h0, h1, h⟩, if_pos h]
  · rw [if_neg (fun z => h z.2.2), if_neg h]
theorem ow_n14 : ∀ j, j < 14 → ¬ nI j = -1 := by decide +kernel
/-- a branching that has all takes no arc -/
theorem gr_none {n a b k had : Nat} {T H R : Nat → Nat} {u : Nat → Bool} (n7 : n ≤ 7) (hT2 : ∀ e, e < a → T e < n ∧ H e < n) (hf : had = 2 ^ n - 1) : ru_pick n a b T H R k had u = a := by
  rw [ru_pick]
  apply ed_fd_no
  intro j hj
  rw [ru_good, ru_gr, hf, Nat.testBit_two_pow_sub_one n (H j), decide_eq_true (hT2 j hj).2, Bool.not_true, Bool.and_false, Bool.and_false, Bool.false_and]
theorem ms_ge {x y : Nat} (hx : x < 2 ^ 30) (hy : y < 2 ^ 30) : 0 ≤ nI x - nI y ↔ y ≤ x := by
  rw [Int32.le_iff_toInt_le, pk_sub_toInt hx hy]
  have h0 : (0 : Int32).toInt = 0 := by decide
  omega
theorem pa_t {n a b : Nat} {T H R : Nat → Nat} (h : ∀ X, 0 < X → X < 2 ^ n → ed_mis R b X ≤ rho0 T H a X) : paF n a T H b R = true := by
  rw [paF, decide_eq_true_eq, spF, fs_0]
  intro X h0 h1
  have h2 := Nat.two_pow_pos n
  have h3 := h X h0 (by omega)
  rw [stp, decide_eq_false_iff_not]
  omega
theorem pa_f {n a b X : Nat} {T H R : Nat → Nat} (h0 : 0 < X) (h1 : X ≤ 2 ^ n - 1) (h : ¬ ed_mis R b X ≤ rho0 T H a X) : paF n a T H b R = false := by
  rw [paF, decide_eq_false_iff_not, spF, fs_0]
  intro z
  have h3 := z X h0 h1
  rw [stp, decide_eq_false_iff_not] at h3
  omega
theorem pg_no {n a b : Nat} {T H R : Nat → Nat} (h : paF n a T H b R = false) (hb : b ≤ 3) : pg_all n a b T H R = fun _ => -1 := by
  rcases Nat.eq_zero_or_pos b with h0 | h0
  · subst h0
    rw [pa_0] at h
    cases h
  · rw [pg_all, if_neg (by rw [← pa_ok h0, h]; decide)]
theorem pg_yes {n a b : Nat} {T H R : Nat → Nat} (h : paF n a T H b R = true) : pg_all n a b T H R = pg_O n a b T H R b := by
  rcases Nat.eq_zero_or_pos b with h0 | h0
  · subst h0
    rw [pg_all]
    split
    · rfl
    · rfl
  · rw [pg_all, if_pos (by rw [← pa_ok h0, h])]
theorem arr_same (cA : ClassId) {n : Nat} {f g : Nat → Int32} (h : ∀ j, j < n → f j = g j) : vp_cell cA (n, .inl f) = vp_cell cA (n, .inl g) := by
  rw [vp_cell_i, vp_cell_i, arrV, arrV]
  congr 1
  congr 1
  funext j
  rw [h j.val j.isLt]
theorem va_at_same {D : va_G} {cl : List vw_C} {q n : Nat} {cA : ClassId} {f g : Nat → Int32} {H : Heap} (h : ∀ j, j < n → f j = g j) (hq : va_at D cl (q, .inl (cA, n, .inl f)) H) : va_at D cl (q, .inl (cA, n, .inl g)) H := by
  show H[q]? = some (vp_cell cA (n, .inl g))
  rw [← arr_same cA h]
  exact hq
theorem cw_O {D : va_G} {ad : Nat → Nat} {cI : ClassId} {n a : Nat} {T H : Nat → Nat} {b : Nat} {R : Nat → Nat} {st : Int32} {O O' S : Nat → Int32} {Hp : Heap} (h : ∀ j, j < 14 → O j = O' j) (hP : va_P D classes (cw ad cI n a T H b R st O S) Hp) : va_P D classes (cw ad cI n a T H b R st O' S) Hp := by
  intro k q hk
  by_cases h7 : k = 7
  · subst h7
    obtain rfl : (ad 7, Sum.inl (cI, 14, Sum.inl O')) = q := Option.some.inj hk
    exact va_at_same h (hP 7 _ rfl)
  · refine hP k q ?_
    rw [← hk]
    match k, h7 with
    | 0, _ => rfl
    | 1, _ => rfl
    | 2, _ => rfl
    | 3, _ => rfl
    | 4, _ => rfl
    | 5, _ => rfl
    | 6, _ => rfl
    | 7, h => exact absurd rfl h
    | 8, _ => rfl
    | k + 9, _ => rfl
theorem cw_D {A : Nat → Prop} {ad : Nat → Nat} {cI : ClassId} {n a n' a' : Nat} {T H T' H' : Nat → Nat} {b b' : Nat} {R R' : Nat → Nat} {st st' : Int32} {O O' S S' : Nat → Int32} (hD : va_D A (cw ad cI n a T H b R st O S)) : va_D A (cw ad cI n' a' T' H' b' R' st' O' S') := by
  have key : ∀ (k : Nat) (q : Nat × va_E), (cw ad cI n' a' T' H' b' R' st' O' S')[k]? = some q → ∃ e, (cw ad cI n a T H b R st O S)[k]? = some (q.1, e) := by
    intro k q hk
    match k with
    | 0 => obtain rfl := Option.some.inj hk; exact ⟨_, rfl⟩
    | 1 => obtain rfl := Option.some.inj hk; exact ⟨_, rfl⟩
    | 2 => obtain rfl := Option.some.inj hk; exact ⟨_, rfl⟩
    | 3 => obtain rfl := Option.some.inj hk; exact ⟨_, rfl⟩
    | 4 => obtain rfl := Option.some.inj hk; exact ⟨_, rfl⟩
    | 5 => obtain rfl := Option.some.inj hk; exact ⟨_, rfl⟩
    | 6 => obtain rfl := Option.some.inj hk; exact ⟨_, rfl⟩
    | 7 => obtain rfl := Option.some.inj hk; exact ⟨_, rfl⟩
    | 8 => obtain rfl := Option.some.inj hk; exact ⟨_, rfl⟩
    | k + 9 => exact absurd hk (by intro z; cases z)
  refine ⟨fun i j p q hi hj e => ?_, fun k q hk => ?_⟩
  · obtain ⟨x, hx⟩ := key i p hi
    obtain ⟨y, hy⟩ := key j q hj
    exact hD.1 i j _ _ hx hy e
  · obtain ⟨x, hx⟩ := key k q hk
    exact hD.2 k (q.1, x) hx
set_option maxHeartbeats 4000000 in
set_option maxRecDepth 100000 in
theorem c_X2_takesFrom (l : Launch) (dC : Nat → ClassId) (dI : Nat → Nat → Nat) (cI : ClassId) (ad : Nat → Nat) (n a : Nat) (T H : Nat → Nat) (b : Nat) (R : Nat → Nat) (st : Int32) (O S : Nat → Int32) (j had X : Nat) (hj : j < 14) (hX : X < 128) (hT : ∀ i, T i < 7 ∧ H i < 7) : Met l yX2_takesFrom (wq yX2_takesFrom cX2_takesFrom 4 (some .boolean)) ({ frames := 1, cells := 0, slots := 0, locals := 22 }) (ro_P (dC, dI) classes [(cI, .int)] (cw ad cI n a T H b R st O S) [.ref (ad 1), .int (nI j), .int (nI had), .int (nI X)]) (vp_Si (fun r => r = nI (ed_b (su_tk T H had j X)))) 0 0 (fun _ => False) := by
  refine Met.ofW (cc := cX2_takesFrom) (maxL := 4) (ret := (some .boolean)) (by decide) rfl ?_
  intro p e s m args below meth c s₁ B hml hv
  obtain ⟨rfl, hP, hK, hN⟩ := hv
  have hx := B.exec
  have hb := B.bytes
  have hr := B.returns
  have hlocks := B.notSynchronized
  have hts := atoms_spec (ws := (wq yX2_takesFrom cX2_takesFrom 4 (some .boolean))) B.pre
  have hw : ∀ w ∈ bigW, w.before _ s = true := fun w h => hts w (List.mem_cons_of_mem _ h)
  have hown : s.vm.findClass RX2 = some m.cls := findClass_of_methodNamed B.named
  have hl := lv_entry ([.ref (ad 1), .int (nI j), .int (nI had), .int (nI X)]) (n := 4) (Nat.le_of_ble_eq_true rfl)
  rw [lg_entry_eq]
  generalize (lg_sl ([.ref (ad 1), .int (nI j), .int (nI had), .int (nI X)]) ++ List.replicate (4 - (lg_sl ([.ref (ad 1), .int (nI j), .int (nI had), .int (nI X)])).length) Slot.unset).toArray = ls at hl ⊢
  have hl : lv_has ls 4 [(0, .ref (ad 1)), (1, .int (nI j)), (2, .int (nI had)), (3, .int (nI X))] := hl
  refine lv_iload_n hx hb dX2_takesFrom_0 rfl (lv_at hl 3 rfl) ?_
  refine lv_iload_n hx hb dX2_takesFrom_1 rfl (lv_at hl 2 rfl) ?_
  refine lv_iand hx hb dX2_takesFrom_2 ?_
  refine lv_if_eq (tgt := 19) hx hb dX2_takesFrom_3 (by decide) (fun b3 => ?_) (fun b3 => ?_)
  -- ifeq at 3, t
  · have t3 : X &&& had = 0 := (bi_z (by omega)).mp b3
    refine lv_iconst (v := 0) hx hb dX2_takesFrom_19 (by decide) ?_
    exact W.zret (v := 0) hx hb hr rfl (fun t ht hW => ⟨_, rfl, zb_F (by rw [su_tk, t3]; rfl), ht⟩) (fun _ h => by cases h) dX2_takesFrom_20
  -- ifeq at 3, f
  · have t3 : ¬ X &&& had = 0 := fun z => b3 ((bi_z (by omega)).mpr z)
    refine lv_aload_n hx hb dX2_takesFrom_6 rfl (lv_at hl 0 rfl) ?_
    refine lv_iload_n hx hb dX2_takesFrom_7 rfl (lv_at hl 1 rfl) ?_
    refine lv_iload_n hx hb dX2_takesFrom_8 rfl (lv_at hl 3 rfl) ?_
    refine ro_V (As := [.int (nI j), .int (nI X)]) (rest := []) (b := ad 1) ⟨hx, hb, hml, hown, hts⟩ (c_X1_enters l dC dI cI ad n a T H b R st O S j X hj hX hT) (cwV 2 hts (bw_V mq_ml_X2_89 mq_im_X1_enters mq_se_X1_enters mq_in_X1 mq_co_X1_enters) rfl rfl rfl (by decide +kernel) ⟨Nat.le_of_ble_eq_true rfl, Nat.le_of_ble_eq_true rfl⟩) hP hK hN 1 rfl rfl rfl hl.1 rfl (Nat.le_of_ble_eq_true rfl) dX2_takesFrom_9 ⟨Nat.zero_le _, Nat.zero_le _⟩ (fun r9 h9 => ?_)
    obtain rfl : r9 = nI (ed_b (ed_en T H X j)) := h9
    refine lv_if_eq (tgt := 19) hx hb dX2_takesFrom_12 (by decide) (fun b12 => ?_) (fun b12 => ?_)
    -- ifeq at 12, t
    · have t12 := zb_0.mp b12
      refine lv_iconst (v := 0) hx hb dX2_takesFrom_19 (by decide) ?_
      exact W.zret (v := 0) hx hb hr rfl (fun t ht hW => ⟨_, rfl, zb_F (by rw [su_tk, t12, Bool.and_false]), ht⟩) (fun _ h => by cases h) dX2_takesFrom_20
    -- ifeq at 12, f
    · have t12 := zb_n0.mp b12
      refine lv_iconst (v := 1) hx hb dX2_takesFrom_15 (by decide) ?_
      refine lv_goto (tgt := 20) hx hb dX2_takesFrom_16 (by decide) ?_
      exact W.zret (v := 1) hx hb hr rfl (fun t ht hW => ⟨_, rfl, zb_T (by rw [su_tk, beq_false_of_ne t3, t12]; rfl), ht⟩) (fun _ h => by cases h) dX2_takesFrom_20
set_option maxHeartbeats 4000000 in
set_option maxRecDepth 100000 in
theorem c_X2_leadsOut (l : Launch) (dC : Nat → ClassId) (dI : Nat → Nat → Nat) (cI : ClassId) (ad : Nat → Nat) (n a : Nat) (T H : Nat → Nat) (b : Nat) (R : Nat → Nat) (st : Int32) (O S : Nat → Int32) (j had : Nat) (hj : j < 14) (hh : had < 128) (hT : ∀ i, T i < 7 ∧ H i < 7) : Met l yX2_leadsOut (wq yX2_leadsOut cX2_leadsOut 3 (some .boolean)) ({ frames := 0, cells := 0, slots := 0, locals := 0 }) (ro_P (dC, dI) classes [(cI, .int)] (cw ad cI n a T H b R st O S) [.ref (ad 1), .int (nI j), .int (nI had)]) (vp_Si (fun r => r = nI (ed_b (had.testBit (T j) && !had.testBit (H j))))) 0 0 (fun _ => False) := by
  have q7 := hT j
  refine Met.ofW (cc := cX2_leadsOut) (maxL := 3) (ret := (some .boolean)) (by decide) rfl ?_
  intro p e s m args below meth c s₁ B hml hv
  obtain ⟨rfl, hP, hK, hN⟩ := hv
  have hx := B.exec
  have hb := B.bytes
  have hr := B.returns
  have hlocks := B.notSynchronized
  have hts := atoms_spec (ws := (wq yX2_leadsOut cX2_leadsOut 3 (some .boolean))) B.pre
  have hw : ∀ w ∈ bigW, w.before _ s = true := fun w h => hts w (List.mem_cons_of_mem _ h)
  have hown : s.vm.findClass RX2 = some m.cls := findClass_of_methodNamed B.named
  have hl := lv_entry ([.ref (ad 1), .int (nI j), .int (nI had)]) (n := 3) (Nat.le_of_ble_eq_true rfl)
  rw [lg_entry_eq]
  generalize (lg_sl ([.ref (ad 1), .int (nI j), .int (nI had)]) ++ List.replicate (3 - (lg_sl ([.ref (ad 1), .int (nI j), .int (nI had)])).length) Slot.unset).toArray = ls at hl ⊢
  have hl : lv_has ls 3 [(0, .ref (ad 1)), (1, .int (nI j)), (2, .int (nI had))] := hl
  refine lv_iload_n hx hb dX2_leadsOut_0 rfl (lv_at hl 2 rfl) ?_
  refine lv_iconst (v := 1) hx hb dX2_leadsOut_1 (by decide) ?_
  refine lv_aload_n hx hb dX2_leadsOut_2 rfl (lv_at hl 0 rfl) ?_
  refine va_getN (D := (dC, dI)) (ci := 1) (v := .ref (ad 2)) (C := RX1) (T := TX1) (N := 4) hx hb hw in_X1 hown hK hP 1 rfl rfl 0 (by decide) (nf_X2_82 hN) (fun _ h9 => h9) rfl dX2_leadsOut_3 ?_
  refine lv_iload_n hx hb dX2_leadsOut_6 rfl (lv_at hl 1 rfl) ?_
  refine va_iald hx hb hK hP 2 0 rfl rfl (vp_in_nI hj (by decide)) dX2_leadsOut_7 ?_
  refine lv_topi (fun z9 e9 => ?_)
  obtain rfl : z9 = nI (T j) := e9.trans (ar_at T (by omega))
  refine lv_ishl hx hb dX2_leadsOut_8 ?_
  refine lv_iand hx hb dX2_leadsOut_9 ?_
  refine lv_if_eq (tgt := 30) hx hb dX2_leadsOut_10 (by decide) (fun b10 => ?_) (fun b10 => ?_)
  -- ifeq at 10, t
  · have t10 := (bi_tb (by omega) (by omega)).mp b10
    refine lv_iconst (v := 0) hx hb dX2_leadsOut_30 (by decide) ?_
    exact W.zret (v := 0) hx hb hr rfl (fun t ht hW => ⟨_, rfl, zb_F (by rw [t10]; rfl), ht⟩) (fun _ h => by cases h) dX2_leadsOut_31
  -- ifeq at 10, f
  · have t10 := (bi_tn (by omega) (by omega)).mp b10
    refine lv_iload_n hx hb dX2_leadsOut_13 rfl (lv_at hl 2 rfl) ?_
    refine lv_iconst (v := 1) hx hb dX2_leadsOut_14 (by decide) ?_
    refine lv_aload_n hx hb dX2_leadsOut_15 rfl (lv_at hl 0 rfl) ?_
    refine va_getN (D := (dC, dI)) (ci := 1) (v := .ref (ad 3)) (C := RX1) (T := TX1) (N := 4) hx hb hw in_X1 hown hK hP 1 rfl rfl 1 (by decide) (nf_X2_69 hN) (fun _ h9 => h9) rfl dX2_leadsOut_16 ?_
    refine lv_iload_n hx hb dX2_leadsOut_19 rfl (lv_at hl 1 rfl) ?_
    refine va_iald hx hb hK hP 3 0 rfl rfl (vp_in_nI hj (by decide)) dX2_leadsOut_20 ?_
    refine lv_topi (fun z9 e9 => ?_)
    obtain rfl : z9 = nI (H j) := e9.trans (ar_at H (by omega))
    refine lv_ishl hx hb dX2_leadsOut_21 ?_
    refine lv_iand hx hb dX2_leadsOut_22 ?_
    refine lv_if_ne (tgt := 30) hx hb dX2_leadsOut_23 (by decide) (fun b23 => ?_) (fun b23 => ?_)
    -- ifne at 23, t
    · have t23 := (bi_tn (by omega) (by omega)).mp b23
      refine lv_iconst (v := 0) hx hb dX2_leadsOut_30 (by decide) ?_
      exact W.zret (v := 0) hx hb hr rfl (fun t ht hW => ⟨_, rfl, zb_F (by rw [t23, Bool.not_true, Bool.and_false]), ht⟩) (fun _ h => by cases h) dX2_leadsOut_31
    -- ifne at 23, f
    · have t23 := (bi_tb (by omega) (by omega)).mp b23
      refine lv_iconst (v := 1) hx hb dX2_leadsOut_26 (by decide) ?_
      refine lv_goto (tgt := 31) hx hb dX2_leadsOut_27 (by decide) ?_
      exact W.zret (v := 1) hx hb hr rfl (fun t ht hW => ⟨_, rfl, zb_T (by rw [t10, t23]; rfl), ht⟩) (fun _ h => by cases h) dX2_leadsOut_31
set_option maxHeartbeats 4000000 in
set_option maxRecDepth 100000 in
theorem c_X2_isSafe (l : Launch) (dC : Nat → ClassId) (dI : Nat → Nat → Nat) (cI : ClassId) (ad : Nat → Nat) (n a : Nat) (T H : Nat → Nat) (b : Nat) (R : Nat → Nat) (st : Int32) (O S : Nat → Int32) (k had j : Nat) (n7 : n ≤ 7) (a14 : a ≤ 14) (hT : ∀ i, T i < 7 ∧ H i < 7) (hj : j < a) (hh : had < 128) (hok : ed_ok n T H a R b k had (ow_u O)) (hSu : su_ok n a b T H R k had (ow_u O) S) (hu : ow_u O j = false) : Met l yX2_isSafe (wq yX2_isSafe cX2_isSafe 5 (some .boolean)) ({ frames := 2, cells := 0, slots := 0, locals := 45 }) (ro_P (dC, dI) classes [(cI, .int)] (cw ad cI n a T H b R st O S) [.ref (ad 6), .ref (ad 1), .int (nI j), .int (nI had)]) (vp_Si (fun r => r = nI (ed_b (ru_ok n a b T H R k (had ||| 2 ^ H j) (ru_use (ow_u O) j))))) 0 0 (fun _ => False) := by
  have p7 := bi_p7 n7
  have p0 := Nat.two_pow_pos n
  refine Met.ofW (cc := cX2_isSafe) (maxL := 5) (ret := (some .boolean)) (by decide) rfl ?_
  intro p e s m args below meth c s₁ B hml hv
  obtain ⟨rfl, hP, hK, hN⟩ := hv
  have hx := B.exec
  have hb := B.bytes
  have hr := B.returns
  have hlocks := B.notSynchronized
  have hts := atoms_spec (ws := (wq yX2_isSafe cX2_isSafe 5 (some .boolean))) B.pre
  have hw : ∀ w ∈ bigW, w.before _ s = true := fun w h => hts w (List.mem_cons_of_mem _ h)
  have hown : s.vm.findClass RX2 = some m.cls := findClass_of_methodNamed B.named
  have hl := lv_entry ([.ref (ad 6), .ref (ad 1), .int (nI j), .int (nI had)]) (n := 5) (Nat.le_of_ble_eq_true rfl)
  rw [lg_entry_eq]
  generalize (lg_sl ([.ref (ad 6), .ref (ad 1), .int (nI j), .int (nI had)]) ++ List.replicate (5 - (lg_sl ([.ref (ad 6), .ref (ad 1), .int (nI j), .int (nI had)])).length) Slot.unset).toArray = ls at hl ⊢
  have hl : lv_has ls 5 [(0, .ref (ad 6)), (1, .ref (ad 1)), (2, .int (nI j)), (3, .int (nI had))] := hl
  refine lv_iconst (v := nI 1) hx hb dX2_isSafe_0 (by decide) ?_
  refine lv_istore (lv' := [(4, .int (nI 1)), (0, .ref (ad 6)), (1, .ref (ad 1)), (2, .int (nI j)), (3, .int (nI had))]) hx hb dX2_isSafe_1 hl (by decide) rfl (fun ls hl => ?_)
  refine wl_loop (fun k9 ls => ∃ (X : Nat), 2 ^ n - X = k9 ∧ (0 < X ∧ X ≤ 2 ^ n) ∧ (∀ Y, 0 < Y → Y < X → su_tk T H had j Y = true → 0 < ed_rho T H a (ow_u O) Y - ed_p R b k had Y) ∧ lv_has ls 5 [(0, .ref (ad 6)), (1, .ref (ad 1)), (2, .int (nI j)), (3, .int (nI had)), (4, .int (nI X))]) ?_ _ ⟨1, rfl, ⟨by omega, by omega⟩, fun Y y0 y1 => by omega, lv_sub hl [1, 2, 3, 4, 0] rfl⟩
  clear hl
  intro k9 ls ih9 h9
  obtain ⟨X, k9e, hX, hall, hl⟩ := h9
  have ih_3 := ih9
  clear ih9
  subst k9e
  refine lv_iload hx hb dX2_isSafe_3 (lv_at hl 4 rfl) ?_
  refine lv_aload_n hx hb dX2_isSafe_5 rfl (lv_at hl 1 rfl) ?_
  refine ro_V (As := []) (rest := [.int (nI X)]) (b := ad 1) ⟨hx, hb, hml, hown, hts⟩ (c_X1_allVertices l dC dI cI ad n a T H b R st O S n7) (cwV 0 hts (bw_V mq_ml_X2_45 mq_im_X1_allVertices mq_se_X1_allVertices mq_in_X1 mq_co_X1_allVertices) rfl rfl rfl (by decide +kernel) ⟨Nat.le_of_ble_eq_true rfl, Nat.le_of_ble_eq_true rfl⟩) hP hK hN 1 rfl rfl rfl hl.1 rfl (Nat.le_of_ble_eq_true rfl) dX2_isSafe_6 ⟨Nat.zero_le _, Nat.zero_le _⟩ (fun r9 h9 => ?_)
  obtain rfl : r9 = nI (2 ^ n - 1) := h9
  refine lv_icmp_gt (tgt := 42) hx hb dX2_isSafe_9 (by decide) (fun b9 => ?_) (fun b9 => ?_)
  -- if_icmpgt at 9, t
  · have t9 := (nI_ltI (by omega) (by omega)).mp b9
    refine lv_iconst (v := 1) hx hb dX2_isSafe_42 (by decide) ?_
    exact W.zret (v := 1) hx hb hr rfl (fun t ht hW => ⟨_, rfl, zb_T ((su_safe hok hj hu).mpr (fun Y y0 y1 => hall Y y0 (by omega))), ht⟩) (fun _ h => by cases h) dX2_isSafe_43
  -- if_icmpgt at 9, f
  · have t9 : X ≤ 2 ^ n - 1 := Nat.le_of_not_lt (fun z => b9 (nI_lt z (by omega)))
    have z9 : ed_rho T H a (ow_u O) X ≤ a := ed_ct_le _ _
    refine lv_aload_n hx hb dX2_isSafe_12 rfl (lv_at hl 1 rfl) ?_
    refine lv_iload_n hx hb dX2_isSafe_13 rfl (lv_at hl 2 rfl) ?_
    refine lv_iload_n hx hb dX2_isSafe_14 rfl (lv_at hl 3 rfl) ?_
    refine lv_iload hx hb dX2_isSafe_15 (lv_at hl 4 rfl) ?_
    refine ro_S (As := [.ref (ad 1), .int (nI j), .int (nI had), .int (nI X)]) (rest := []) ⟨hx, hb, hml, hown, hts⟩ (c_X2_takesFrom l dC dI cI ad n a T H b R st O S j had X (by omega) (by omega) hT) (cwS 4 hts (bw_S mq_ml_X2_85 mq_st_X2_takesFrom mq_in_X2 mq_co_X2_takesFrom) rfl rfl rfl (by decide +kernel) ⟨Nat.le_of_ble_eq_true rfl, Nat.le_of_ble_eq_true rfl⟩) hP hK hN rfl hl.1 rfl (Nat.le_of_ble_eq_true rfl) dX2_isSafe_17 ⟨Nat.zero_le _, Nat.zero_le _⟩ (fun r9 h9 => ?_)
    obtain rfl : r9 = nI (ed_b (su_tk T H had j X)) := h9
    refine lv_if_eq (tgt := 36) hx hb dX2_isSafe_20 (by decide) (fun b20 => ?_) (fun b20 => ?_)
    -- ifeq at 20, t
    · have t20 := zb_0.mp b20
      refine lv_iinc (k := 4) (v := nI (X + 1)) (lv' := [(4, .int (nI (X + 1))), (0, .ref (ad 6)), (1, .ref (ad 1)), (2, .int (nI j)), (3, .int (nI had))]) hx hb dX2_isSafe_36 hl rfl (ii_1 _) (by decide) rfl (fun ls hl => ?_)
      refine lv_goto (tgt := 3) hx hb dX2_isSafe_39 (by decide) ?_
      have hall2 : ∀ Y, 0 < Y → Y < X + 1 → su_tk T H had j Y = true → 0 < ed_rho T H a (ow_u O) Y - ed_p R b k had Y := by
        intro Y y0 y1 y2
        rcases Nat.lt_or_ge Y X with y3 | y3
        · exact hall Y y0 y3 y2
        · obtain rfl : Y = X := by omega
          rw [t20] at y2; cases y2
      exact ih_3 _ _ (by omega) ⟨X + 1, rfl, by omega, hall2, lv_sub hl [1, 2, 3, 4, 0] rfl⟩
    -- ifeq at 20, f
    · have t20 := zb_n0.mp b20
      refine lv_aload_n hx hb dX2_isSafe_23 rfl (lv_at hl 0 rfl) ?_
      refine va_get (D := (dC, dI)) (ci := 2) (v := .ref (ad 8)) (C := RX2) (T := TX2) (N := 3) hx hb hw in_X2 hown hK hP 6 rfl rfl 1 (by decide) (hw _ mq_fl_X2_15) (fun _ h9 => h9) rfl dX2_isSafe_24 ?_
      refine lv_iload hx hb dX2_isSafe_27 (lv_at hl 4 rfl) ?_
      refine va_iald hx hb hK hP 8 0 rfl rfl (vp_in_nI (by omega) (by decide)) dX2_isSafe_29 ?_
      refine lv_topi (fun z9 e9 => ?_)
      obtain rfl : z9 = nI (ed_rho T H a (ow_u O) X - ed_p R b k had X) := e9.trans (by rw [nI_clamp (by omega)]; exact hSu X hX.1 (by omega))
      refine lv_iconst (v := nI 1) hx hb dX2_isSafe_30 (by decide) ?_
      refine lv_icmp_ge (tgt := 36) hx hb dX2_isSafe_31 (by decide) (fun b31 => ?_) (fun b31 => ?_)
      -- if_icmpge at 31, t
      · have t31 := (nI_leI (by decide) (by omega)).mp b31
        refine lv_iinc (k := 4) (v := nI (X + 1)) (lv' := [(4, .int (nI (X + 1))), (0, .ref (ad 6)), (1, .ref (ad 1)), (2, .int (nI j)), (3, .int (nI had))]) hx hb dX2_isSafe_36 hl rfl (ii_1 _) (by decide) rfl (fun ls hl => ?_)
        refine lv_goto (tgt := 3) hx hb dX2_isSafe_39 (by decide) ?_
        have hall2 : ∀ Y, 0 < Y → Y < X + 1 → su_tk T H had j Y = true → 0 < ed_rho T H a (ow_u O) Y - ed_p R b k had Y := by
          intro Y y0 y1 y2
          rcases Nat.lt_or_ge Y X with y3 | y3
          · exact hall Y y0 y3 y2
          · obtain rfl : Y = X := by omega
            exact t31
        exact ih_3 _ _ (by omega) ⟨X + 1, rfl, by omega, hall2, lv_sub hl [1, 2, 3, 4, 0] rfl⟩
      -- if_icmpge at 31, f
      · have t31 : ¬ 1 ≤ ed_rho T H a (ow_u O) X - ed_p R b k had X := fun z => b31 (nI_le z (by omega))
        refine lv_iconst (v := 0) hx hb dX2_isSafe_34 (by decide) ?_
        exact W.zret (v := 0) hx hb hr rfl (fun t ht hW => ⟨_, rfl, zb_F (Bool.eq_false_iff.mpr (fun hz => absurd ((su_safe hok hj hu).mp hz X hX.1 (by omega) t20) (by omega))), ht⟩) (fun _ h => by cases h) dX2_isSafe_35
set_option maxHeartbeats 4000000 in
set_option maxRecDepth 100000 in
theorem c_X2_leastSafeArc (l : Launch) (dC : Nat → ClassId) (dI : Nat → Nat → Nat) (cI : ClassId) (ad : Nat → Nat) (n a : Nat) (T H : Nat → Nat) (b : Nat) (R : Nat → Nat) (st : Int32) (O S : Nat → Int32) (k had : Nat) (n7 : n ≤ 7) (a14 : a ≤ 14) (hT : ∀ i, T i < 7 ∧ H i < 7) (hh : had < 128) (hok : ed_ok n T H a R b k had (ow_u O)) (hSu : su_ok n a b T H R k had (ow_u O) S) : Met l yX2_leastSafeArc (wq yX2_leastSafeArc cX2_leastSafeArc 4 (some .int)) ({ frames := 3, cells := 0, slots := 0, locals := 69 }) (ro_P (dC, dI) classes [(cI, .int)] (cw ad cI n a T H b R st O S) [.ref (ad 6), .ref (ad 1), .int (nI had)]) (vp_Si (fun r => r = if ru_pick n a b T H R k had (ow_u O) < a then nI (ru_pick n a b T H R k had (ow_u O)) else -1)) 0 0 (fun _ => False) := by
  refine Met.ofW (cc := cX2_leastSafeArc) (maxL := 4) (ret := (some .int)) (by decide) rfl ?_
  intro p e s m args below meth c s₁ B hml hv
  obtain ⟨rfl, hP, hK, hN⟩ := hv
  have hx := B.exec
  have hb := B.bytes
  have hr := B.returns
  have hlocks := B.notSynchronized
  have hts := atoms_spec (ws := (wq yX2_leastSafeArc cX2_leastSafeArc 4 (some .int))) B.pre
  have hw : ∀ w ∈ bigW, w.before _ s = true := fun w h => hts w (List.mem_cons_of_mem _ h)
  have hown : s.vm.findClass RX2 = some m.cls := findClass_of_methodNamed B.named
  have hl := lv_entry ([.ref (ad 6), .ref (ad 1), .int (nI had)]) (n := 4) (Nat.le_of_ble_eq_true rfl)
  rw [lg_entry_eq]
  generalize (lg_sl ([.ref (ad 6), .ref (ad 1), .int (nI had)]) ++ List.replicate (4 - (lg_sl ([.ref (ad 6), .ref (ad 1), .int (nI had)])).length) Slot.unset).toArray = ls at hl ⊢
  have hl : lv_has ls 4 [(0, .ref (ad 6)), (1, .ref (ad 1)), (2, .int (nI had))] := hl
  refine lv_iconst (v := nI 0) hx hb dX2_leastSafeArc_0 (by decide) ?_
  refine lv_istore_n (lv' := [(3, .int (nI 0)), (0, .ref (ad 6)), (1, .ref (ad 1)), (2, .int (nI had))]) hx hb dX2_leastSafeArc_1 rfl hl (by decide) rfl (fun ls hl => ?_)
  refine wl_loop (fun k9 ls => ∃ (i : Nat), a - i = k9 ∧ (i ≤ a) ∧ (∀ j, j < i → ru_good n a b T H R k had (ow_u O) j = false) ∧ lv_has ls 4 [(0, .ref (ad 6)), (1, .ref (ad 1)), (2, .int (nI had)), (3, .int (nI i))]) ?_ _ ⟨0, rfl, by omega, fun j hj => by omega, lv_sub hl [1, 2, 3, 0] rfl⟩
  clear hl
  intro k9 ls ih9 h9
  obtain ⟨i, k9e, hi, hno, hl⟩ := h9
  have ih_2 := ih9
  clear ih9
  subst k9e
  refine lv_iload_n hx hb dX2_leastSafeArc_2 rfl (lv_at hl 3 rfl) ?_
  refine lv_aload_n hx hb dX2_leastSafeArc_3 rfl (lv_at hl 1 rfl) ?_
  refine va_getN (D := (dC, dI)) (ci := 1) (v := .int (nI a)) (C := RX1) (T := TX1) (N := 4) hx hb hw in_X1 hown hK hP 1 rfl rfl 3 (by decide) (nf_X2_72 hN) (fun _ h9 => h9) rfl dX2_leastSafeArc_4 ?_
  refine lv_icmp_ge (tgt := 47) hx hb dX2_leastSafeArc_7 (by decide) (fun b7 => ?_) (fun b7 => ?_)
  -- if_icmpge at 7, t
  · have t7 := (nI_leI (by omega) (by omega)).mp b7
    have e7 : i = a := by omega
    refine lv_iconst (v := -1) hx hb dX2_leastSafeArc_47 (by decide) ?_
    exact W.iret (v := -1) hx hb hr (fun t ht hW => ⟨_, rfl, (by rw [ru_pick, ed_fd_no (a := a) (fun j hj => hno j (by omega)), if_neg (Nat.lt_irrefl _)]), ht⟩) (fun _ h => by cases h) dX2_leastSafeArc_48
  -- if_icmpge at 7, f
  · have t7 : i < a := Nat.lt_of_not_le (fun z => b7 (nI_le z (by omega)))
    refine lv_aload_n hx hb dX2_leastSafeArc_10 rfl (lv_at hl 0 rfl) ?_
    refine va_get (D := (dC, dI)) (ci := 2) (v := .ref (ad 7)) (C := RX2) (T := TX2) (N := 3) hx hb hw in_X2 hown hK hP 6 rfl rfl 0 (by decide) (hw _ mq_fl_X2_9) (fun _ h9 => h9) rfl dX2_leastSafeArc_11 ?_
    refine lv_iload_n hx hb dX2_leastSafeArc_14 rfl (lv_at hl 3 rfl) ?_
    refine va_iald hx hb hK hP 7 0 rfl rfl (vp_in_nI (by omega) (by decide)) dX2_leastSafeArc_15 ?_
    refine lv_topi (fun z9 e9 => ?_)
    obtain rfl : z9 = O i := e9.trans (by rw [nI_clamp (by omega)])
    refine lv_iconst (v := -1) hx hb dX2_leastSafeArc_16 (by decide) ?_
    refine lv_icmp_ne (tgt := 41) hx hb dX2_leastSafeArc_17 (by decide) (fun b17 => ?_) (fun b17 => ?_)
    -- if_icmpne at 17, t
    · refine lv_iinc (k := 3) (v := nI (i + 1)) (lv' := [(3, .int (nI (i + 1))), (0, .ref (ad 6)), (1, .ref (ad 1)), (2, .int (nI had))]) hx hb dX2_leastSafeArc_41 hl rfl (ii_1 _) (by decide) rfl (fun ls hl => ?_)
      refine lv_goto (tgt := 2) hx hb dX2_leastSafeArc_44 (by decide) ?_
      have hno2 : ∀ j, j < i + 1 → ru_good n a b T H R k had (ow_u O) j = false := by
        intro j hj
        rcases Nat.lt_or_ge j i with y3 | y3
        · exact hno j y3
        · have y4 : j = i := by omega
          rw [y4]
          rw [ru_good, ru_gr, show ow_u O i = true from decide_eq_true b17]; rfl
      exact ih_2 _ _ (by omega) ⟨i + 1, rfl, by omega, hno2, lv_sub hl [1, 2, 3, 0] rfl⟩
    -- if_icmpne at 17, f
    · have hu : ow_u O i = false := decide_eq_false (fun z => z b17)
      refine lv_aload_n hx hb dX2_leastSafeArc_20 rfl (lv_at hl 1 rfl) ?_
      refine lv_iload_n hx hb dX2_leastSafeArc_21 rfl (lv_at hl 3 rfl) ?_
      refine lv_iload_n hx hb dX2_leastSafeArc_22 rfl (lv_at hl 2 rfl) ?_
      refine ro_S (As := [.ref (ad 1), .int (nI i), .int (nI had)]) (rest := []) ⟨hx, hb, hml, hown, hts⟩ (c_X2_leadsOut l dC dI cI ad n a T H b R st O S i had (by omega) hh hT) (cwS 3 hts (bw_S mq_ml_X2_75 mq_st_X2_leadsOut mq_in_X2 mq_co_X2_leadsOut) rfl rfl rfl (by decide +kernel) ⟨Nat.le_of_ble_eq_true rfl, Nat.le_of_ble_eq_true rfl⟩) hP hK hN rfl hl.1 rfl (Nat.le_of_ble_eq_true rfl) dX2_leastSafeArc_23 ⟨Nat.zero_le _, Nat.zero_le _⟩ (fun r9 h9 => ?_)
      obtain rfl : r9 = nI (ed_b (had.testBit (T i) && !had.testBit (H i))) := h9
      refine lv_if_eq (tgt := 41) hx hb dX2_leastSafeArc_26 (by decide) (fun b26 => ?_) (fun b26 => ?_)
      -- ifeq at 26, t
      · have t26 := zb_0.mp b26
        refine lv_iinc (k := 3) (v := nI (i + 1)) (lv' := [(3, .int (nI (i + 1))), (0, .ref (ad 6)), (1, .ref (ad 1)), (2, .int (nI had))]) hx hb dX2_leastSafeArc_41 hl rfl (ii_1 _) (by decide) rfl (fun ls hl => ?_)
        refine lv_goto (tgt := 2) hx hb dX2_leastSafeArc_44 (by decide) ?_
        have hno2 : ∀ j, j < i + 1 → ru_good n a b T H R k had (ow_u O) j = false := by
          intro j hj
          rcases Nat.lt_or_ge j i with y3 | y3
          · exact hno j y3
          · have y4 : j = i := by omega
            rw [y4]
            rw [ru_good, ru_gr, t26, Bool.and_false, Bool.false_and]
        exact ih_2 _ _ (by omega) ⟨i + 1, rfl, by omega, hno2, lv_sub hl [1, 2, 3, 0] rfl⟩
      -- ifeq at 26, f
      · have t26 := zb_n0.mp b26
        refine lv_aload_n hx hb dX2_leastSafeArc_29 rfl (lv_at hl 0 rfl) ?_
        refine lv_aload_n hx hb dX2_leastSafeArc_30 rfl (lv_at hl 1 rfl) ?_
        refine lv_iload_n hx hb dX2_leastSafeArc_31 rfl (lv_at hl 3 rfl) ?_
        refine lv_iload_n hx hb dX2_leastSafeArc_32 rfl (lv_at hl 2 rfl) ?_
        refine ro_V (As := [.ref (ad 1), .int (nI i), .int (nI had)]) (rest := []) (b := ad 6) ⟨hx, hb, hml, hown, hts⟩ (c_X2_isSafe l dC dI cI ad n a T H b R st O S k had i n7 a14 hT t7 hh hok hSu hu) (cwV 3 hts (bw_V mq_ml_X2_79 mq_im_X2_isSafe mq_se_X2_isSafe mq_in_X2 mq_co_X2_isSafe) rfl rfl rfl (by decide +kernel) ⟨Nat.le_of_ble_eq_true rfl, Nat.le_of_ble_eq_true rfl⟩) hP hK hN 6 rfl rfl rfl hl.1 rfl (Nat.le_of_ble_eq_true rfl) dX2_leastSafeArc_33 ⟨Nat.zero_le _, Nat.zero_le _⟩ (fun r9 h9 => ?_)
        obtain rfl : r9 = nI (ed_b (ru_ok n a b T H R k (had ||| 2 ^ H i) (ru_use (ow_u O) i))) := h9
        refine lv_if_eq (tgt := 41) hx hb dX2_leastSafeArc_36 (by decide) (fun b36 => ?_) (fun b36 => ?_)
        -- ifeq at 36, t
        · have t36 := zb_0.mp b36
          refine lv_iinc (k := 3) (v := nI (i + 1)) (lv' := [(3, .int (nI (i + 1))), (0, .ref (ad 6)), (1, .ref (ad 1)), (2, .int (nI had))]) hx hb dX2_leastSafeArc_41 hl rfl (ii_1 _) (by decide) rfl (fun ls hl => ?_)
          refine lv_goto (tgt := 2) hx hb dX2_leastSafeArc_44 (by decide) ?_
          have hno2 : ∀ j, j < i + 1 → ru_good n a b T H R k had (ow_u O) j = false := by
            intro j hj
            rcases Nat.lt_or_ge j i with y3 | y3
            · exact hno j y3
            · have y4 : j = i := by omega
              rw [y4]
              rw [ru_good, t36, Bool.and_false]
          exact ih_2 _ _ (by omega) ⟨i + 1, rfl, by omega, hno2, lv_sub hl [1, 2, 3, 0] rfl⟩
        -- ifeq at 36, f
        · have t36 := zb_n0.mp b36
          refine lv_iload_n hx hb dX2_leastSafeArc_39 rfl (lv_at hl 3 rfl) ?_
          exact W.iret (v := nI i) hx hb hr (fun t ht hW => ⟨_, rfl, (by rw [ru_pick, ed_fd_eq (e := i) t7 (by rw [ru_good, ru_gr, hu, t26, t36]; rfl) hno, if_pos t7]), ht⟩) (fun _ h => by cases h) dX2_leastSafeArc_40
set_option maxHeartbeats 4000000 in
set_option maxRecDepth 100000 in
theorem c_X2_use (l : Launch) (dC : Nat → ClassId) (dI : Nat → Nat → Nat) (cI : ClassId) (ad : Nat → Nat) (n a : Nat) (T H : Nat → Nat) (b : Nat) (R : Nat → Nat) (st : Int32) (O S : Nat → Int32) (sz : Nat) (j k had : Nat) (n7 : n ≤ 7) (hj : j < 14) (hT : ∀ i, T i < 7 ∧ H i < 7) : Met l yX2_use (wq yX2_use cX2_use 6 none) ({ frames := 2, cells := 0, slots := 0, locals := 45 }) (mu_P (dC, dI) classes [(cI, .int)] (cw ad cI n a T H b R st O S) sz [.ref (ad 6), .ref (ad 1), .int (nI j), .int (nI k), .int (nI had)]) (va_Qv (fun _ : Unit => True) (mu_B (dC, dI) classes [(cI, .int)] (cw ad cI n a T H b R st O S) sz (fun _ => cw ad cI n a T H b R st (upd O j (nI k)) (us_S T H had j S (2 ^ n)))) (va_A (cw ad cI n a T H b R st O S) sz)) 0 0 (va_A (cw ad cI n a T H b R st O S) sz) := by
  have p7 := bi_p7 n7
  have p0 := Nat.two_pow_pos n
  refine Met.ofW (cc := cX2_use) (maxL := 6) (ret := none) (by decide) rfl ?_
  intro p e s m args below meth c s₁ B hml hv
  obtain ⟨rfl, hsz, hP, hK, hN, hD0⟩ := hv
  have hx := B.exec
  have hb := B.bytes
  have hr := B.returns
  have hlocks := B.notSynchronized
  have hts := atoms_spec (ws := (wq yX2_use cX2_use 6 none)) B.pre
  have hw : ∀ w ∈ bigW, w.before _ s = true := fun w h => hts w (List.mem_cons_of_mem _ h)
  have hown : s.vm.findClass RX2 = some m.cls := findClass_of_methodNamed B.named
  subst hsz
  have hD := hD0.self (sz := s.heap.size)
  generalize hAe : va_A (cw ad cI n a T H b R st O S) s.heap.size = A at hD ⊢
  have hA : ∀ q : Nat, s.heap.size ≤ q → A q := fun q h => by rw [← hAe]; exact Or.inr h
  have hS : va_S A s.heap s.heap [] := va_S.rf
  have hl := lv_entry ([.ref (ad 6), .ref (ad 1), .int (nI j), .int (nI k), .int (nI had)]) (n := 6) (Nat.le_of_ble_eq_true rfl)
  rw [lg_entry_eq]
  generalize (lg_sl ([.ref (ad 6), .ref (ad 1), .int (nI j), .int (nI k), .int (nI had)]) ++ List.replicate (6 - (lg_sl ([.ref (ad 6), .ref (ad 1), .int (nI j), .int (nI k), .int (nI had)])).length) Slot.unset).toArray = ls at hl ⊢
  have hl : lv_has ls 6 [(0, .ref (ad 6)), (1, .ref (ad 1)), (2, .int (nI j)), (3, .int (nI k)), (4, .int (nI had))] := hl
  refine lv_aload_n hx hb dX2_use_0 rfl (lv_at hl 0 rfl) ?_
  refine va_get (D := (dC, dI)) (ci := 2) (v := .ref (ad 7)) (C := RX2) (T := TX2) (N := 3) hx hb hw in_X2 hown hK hP 6 rfl rfl 0 (by decide) (hw _ mq_fl_X2_9) (fun _ h9 => h9) rfl dX2_use_1 ?_
  refine lv_iload_n hx hb dX2_use_4 rfl (lv_at hl 2 rfl) ?_
  refine lv_iload_n hx hb dX2_use_5 rfl (lv_at hl 3 rfl) ?_
  refine va_iast hx hb hK hP hD hS 7 0 rfl rfl (vp_in_nI hj (by decide)) dX2_use_6 (fun Hp locs hP hD hS => ?_)
  rw [nI_clamp (show j < 2 ^ 31 by omega)] at hP hD
  have hP : va_P (dC, dI) classes (cw ad cI n a T H b R st (upd O j (nI k)) S) Hp := hP
  have hD : va_D A (cw ad cI n a T H b R st (upd O j (nI k)) S) := hD
  refine lv_iconst (v := nI 1) hx hb dX2_use_7 (by decide) ?_
  refine lv_istore (lv' := [(5, .int (nI 1)), (0, .ref (ad 6)), (1, .ref (ad 1)), (2, .int (nI j)), (3, .int (nI k)), (4, .int (nI had))]) hx hb dX2_use_8 hl (by decide) rfl (fun ls hl => ?_)
  rw [← us_1 T H had j S] at hP hD
  refine wl_loopH (fun k9 Hp locs ls => ∃ (X : Nat), 2 ^ n - X = k9 ∧ (0 < X ∧ X ≤ 2 ^ n) ∧ lv_has ls 6 [(0, .ref (ad 6)), (1, .ref (ad 1)), (2, .int (nI j)), (3, .int (nI k)), (4, .int (nI had)), (5, .int (nI X))] ∧ va_P (dC, dI) classes (cw ad cI n a T H b R st (upd O j (nI k)) (us_S T H had j S X)) Hp ∧ va_D A (cw ad cI n a T H b R st (upd O j (nI k)) (us_S T H had j S X)) ∧ va_S A s.heap Hp locs) ?_ _ ⟨1, rfl, ⟨by omega, by omega⟩, lv_sub hl [1, 2, 3, 4, 5, 0] rfl, hP, hD, hS⟩
  clear hP hD hS hl
  intro k9 Hp locs ls ih9 h9
  obtain ⟨X, k9e, hX, hl, hP, hD, hS⟩ := h9
  have ih_10 := ih9
  clear ih9
  subst k9e
  refine lv_iload hx hb dX2_use_10 (lv_at hl 5 rfl) ?_
  refine lv_aload_n hx hb dX2_use_12 rfl (lv_at hl 1 rfl) ?_
  refine ro_V (As := []) (rest := [.int (nI X)]) (b := ad 1) ⟨hx, hb, hml, hown, hts⟩ (c_X1_allVertices l dC dI cI ad n a T H b R st (upd O j (nI k)) (us_S T H had j S X) n7) (cwV 0 hts (bw_V mq_ml_X2_45 mq_im_X1_allVertices mq_se_X1_allVertices mq_in_X1 mq_co_X1_allVertices) rfl rfl rfl (by decide +kernel) ⟨Nat.le_of_ble_eq_true rfl, Nat.le_of_ble_eq_true rfl⟩) hP hK hN 1 rfl rfl rfl hl.1 rfl (Nat.le_of_ble_eq_true rfl) dX2_use_13 ⟨Nat.zero_le _, Nat.zero_le _⟩ (fun r9 h9 => ?_)
  obtain rfl : r9 = nI (2 ^ n - 1) := h9
  refine lv_icmp_gt (tgt := 48) hx hb dX2_use_16 (by decide) (fun b16 => ?_) (fun b16 => ?_)
  -- if_icmpgt at 16, t
  · have t16 := (nI_ltI (by omega) (by omega)).mp b16
    have e16 : X = 2 ^ n := by omega
    rw [e16] at hP hD
    exact W.vret hx hb hr (fun t ht hW => ⟨⟨(), rfl, trivial, by rw [ht]; exact hP, va_K.moved hW.alike hK, by rw [hAe]; exact hD⟩, hS.F ht⟩) hS.2.2 dX2_use_48
  -- if_icmpgt at 16, f
  · have t16 : X ≤ 2 ^ n - 1 := Nat.le_of_not_lt (fun z => b16 (nI_lt z (by omega)))
    refine lv_aload_n hx hb dX2_use_19 rfl (lv_at hl 1 rfl) ?_
    refine lv_iload_n hx hb dX2_use_20 rfl (lv_at hl 2 rfl) ?_
    refine lv_iload hx hb dX2_use_21 (lv_at hl 4 rfl) ?_
    refine lv_iload hx hb dX2_use_23 (lv_at hl 5 rfl) ?_
    refine ro_S (As := [.ref (ad 1), .int (nI j), .int (nI had), .int (nI X)]) (rest := []) ⟨hx, hb, hml, hown, hts⟩ (c_X2_takesFrom l dC dI cI ad n a T H b R st (upd O j (nI k)) (us_S T H had j S X) j had X hj (by omega) hT) (cwS 4 hts (bw_S mq_ml_X2_85 mq_st_X2_takesFrom mq_in_X2 mq_co_X2_takesFrom) rfl rfl rfl (by decide +kernel) ⟨Nat.le_of_ble_eq_true rfl, Nat.le_of_ble_eq_true rfl⟩) hP hK hN rfl hl.1 rfl (Nat.le_of_ble_eq_true rfl) dX2_use_25 ⟨Nat.zero_le _, Nat.zero_le _⟩ (fun r9 h9 => ?_)
    obtain rfl : r9 = nI (ed_b (su_tk T H had j X)) := h9
    refine lv_if_eq (tgt := 42) hx hb dX2_use_28 (by decide) (fun b28 => ?_) (fun b28 => ?_)
    -- ifeq at 28, t
    · have t28 := zb_0.mp b28
      refine lv_iinc (k := 5) (v := nI (X + 1)) (lv' := [(5, .int (nI (X + 1))), (0, .ref (ad 6)), (1, .ref (ad 1)), (2, .int (nI j)), (3, .int (nI k)), (4, .int (nI had))]) hx hb dX2_use_42 hl rfl (ii_1 _) (by decide) rfl (fun ls hl => ?_)
      refine lv_goto (tgt := 10) hx hb dX2_use_45 (by decide) ?_
      rw [← us_n t28] at hP hD
      exact ih_10 _ _ _ _ (by omega) ⟨X + 1, rfl, by omega, lv_sub hl [1, 2, 3, 4, 5, 0] rfl, hP, hD, hS⟩
    -- ifeq at 28, f
    · have t28 := zb_n0.mp b28
      refine lv_aload_n hx hb dX2_use_31 rfl (lv_at hl 0 rfl) ?_
      refine va_get (D := (dC, dI)) (ci := 2) (v := .ref (ad 8)) (C := RX2) (T := TX2) (N := 3) hx hb hw in_X2 hown hK hP 6 rfl rfl 1 (by decide) (hw _ mq_fl_X2_15) (fun _ h9 => h9) rfl dX2_use_32 ?_
      refine lv_iload hx hb dX2_use_35 (lv_at hl 5 rfl) ?_
      refine lv_dup2_11 hx hb dX2_use_37 rfl rfl ?_
      refine va_iald hx hb hK hP 8 0 rfl rfl (vp_in_nI (by omega) (by decide)) dX2_use_38 ?_
      refine lv_topi (fun z9 e9 => ?_)
      obtain rfl : z9 = S X := e9.trans (by rw [nI_clamp (by omega), us_at])
      refine lv_iconst (v := 1) hx hb dX2_use_39 (by decide) ?_
      refine lv_isub hx hb dX2_use_40 ?_
      refine va_iast hx hb hK hP hD hS 8 0 rfl rfl (vp_in_nI (by omega) (by decide)) dX2_use_41 (fun Hp locs hP hD hS => ?_)
      rw [nI_clamp (show X < 2 ^ 31 by omega), us_s hX.1 t28] at hP hD
      have hP : va_P (dC, dI) classes (cw ad cI n a T H b R st (upd O j (nI k)) (us_S T H had j S (X + 1))) Hp := hP
      have hD : va_D A (cw ad cI n a T H b R st (upd O j (nI k)) (us_S T H had j S (X + 1))) := hD
      refine lv_iinc (k := 5) (v := nI (X + 1)) (lv' := [(5, .int (nI (X + 1))), (0, .ref (ad 6)), (1, .ref (ad 1)), (2, .int (nI j)), (3, .int (nI k)), (4, .int (nI had))]) hx hb dX2_use_42 hl rfl (ii_1 _) (by decide) rfl (fun ls hl => ?_)
      refine lv_goto (tgt := 10) hx hb dX2_use_45 (by decide) ?_
      exact ih_10 _ _ _ _ (by omega) ⟨X + 1, rfl, by omega, lv_sub hl [1, 2, 3, 4, 5, 0] rfl, hP, hD, hS⟩
set_option maxHeartbeats 4000000 in
set_option maxRecDepth 100000 in
theorem c_X2_growToAll (l : Launch) (dC : Nat → ClassId) (dI : Nat → Nat → Nat) (cI : ClassId) (ad : Nat → Nat) (n a : Nat) (T H : Nat → Nat) (b : Nat) (R : Nat → Nat) (st : Int32) (O S : Nat → Int32) (sz : Nat) (k : Nat) (n7 : n ≤ 7) (a14 : a ≤ 14) (hT : ∀ i, T i < 7 ∧ H i < 7) (n1 : 1 ≤ n) (hT2 : ∀ e, e < a → T e < n ∧ H e < n) (hk : k < b) (hb3 : b ≤ 3) (hR : ∀ k, R k < 128) (hI : ru_I n a b T H R k (R k, O)) (hSu : su_ok n a b T H R k (R k) (ow_u O) S) : Met l yX2_growToAll (wq yX2_growToAll cX2_growToAll 7 none) ({ frames := 4, cells := 0, slots := 0, locals := 92 }) (mu_P (dC, dI) classes [(cI, .int)] (cw ad cI n a T H b R st O S) sz [.ref (ad 6), .ref (ad 1), .int (nI k), .int (nI (R k))]) (va_Qv (fun S2 : Nat → Int32 => su_ok n a b T H R k (2 ^ n - 1) (ow_u (ru_it n a b T H R k (n - 1) (R k, O)).2) S2) (mu_B (dC, dI) classes [(cI, .int)] (cw ad cI n a T H b R st O S) sz (fun S2 => cw ad cI n a T H b R st ((ru_it n a b T H R k (n - 1) (R k, O)).2) S2)) (va_A (cw ad cI n a T H b R st O S) sz)) 0 0 (va_A (cw ad cI n a T H b R st O S) sz) := by
  have p7 := bi_p7 n7
  have p0 := Nat.two_pow_pos n
  refine Met.ofW (cc := cX2_growToAll) (maxL := 7) (ret := none) (by decide) rfl ?_
  intro p e s m args below meth c s₁ B hml hv
  obtain ⟨rfl, hsz, hP, hK, hN, hD0⟩ := hv
  have hx := B.exec
  have hb := B.bytes
  have hr := B.returns
  have hlocks := B.notSynchronized
  have hts := atoms_spec (ws := (wq yX2_growToAll cX2_growToAll 7 none)) B.pre
  have hw : ∀ w ∈ bigW, w.before _ s = true := fun w h => hts w (List.mem_cons_of_mem _ h)
  have hown : s.vm.findClass RX2 = some m.cls := findClass_of_methodNamed B.named
  subst hsz
  have hD := hD0.self (sz := s.heap.size)
  generalize hAe : va_A (cw ad cI n a T H b R st O S) s.heap.size = A at hD ⊢
  have hA : ∀ q : Nat, s.heap.size ≤ q → A q := fun q h => by rw [← hAe]; exact Or.inr h
  have hS : va_S A s.heap s.heap [] := va_S.rf
  have hl := lv_entry ([.ref (ad 6), .ref (ad 1), .int (nI k), .int (nI (R k))]) (n := 7) (Nat.le_of_ble_eq_true rfl)
  rw [lg_entry_eq]
  generalize (lg_sl ([.ref (ad 6), .ref (ad 1), .int (nI k), .int (nI (R k))]) ++ List.replicate (7 - (lg_sl ([.ref (ad 6), .ref (ad 1), .int (nI k), .int (nI (R k))])).length) Slot.unset).toArray = ls at hl ⊢
  have hl : lv_has ls 7 [(0, .ref (ad 6)), (1, .ref (ad 1)), (2, .int (nI k)), (3, .int (nI (R k)))] := hl
  refine lv_iload_n hx hb dX2_growToAll_0 rfl (lv_at hl 3 rfl) ?_
  refine lv_istore (lv' := [(4, .int (nI (R k))), (0, .ref (ad 6)), (1, .ref (ad 1)), (2, .int (nI k)), (3, .int (nI (R k)))]) hx hb dX2_growToAll_1 hl (by decide) rfl (fun ls hl => ?_)
  refine lv_iconst (v := nI (0 + 1)) hx hb dX2_growToAll_3 (by decide) ?_
  refine lv_istore (lv' := [(5, .int (nI (0 + 1))), (4, .int (nI (R k))), (0, .ref (ad 6)), (1, .ref (ad 1)), (2, .int (nI k)), (3, .int (nI (R k)))]) hx hb dX2_growToAll_4 hl (by decide) rfl (fun ls hl => ?_)
  refine wl_loopH (fun k9 Hp locs ls => ∃ (i : Nat) (S1 : Nat → Int32), n - i = k9 ∧ (i ≤ n - 1) ∧ (su_ok n a b T H R k (ru_it n a b T H R k i (R k, O)).1 (ow_u (ru_it n a b T H R k i (R k, O)).2) S1) ∧ lv_has ls 7 [(0, .ref (ad 6)), (1, .ref (ad 1)), (2, .int (nI k)), (4, .int (nI (ru_it n a b T H R k i (R k, O)).1)), (5, .int (nI (i + 1)))] ∧ va_P (dC, dI) classes (cw ad cI n a T H b R st ((ru_it n a b T H R k i (R k, O)).2) S1) Hp ∧ va_D A (cw ad cI n a T H b R st ((ru_it n a b T H R k i (R k, O)).2) S1) ∧ va_S A s.heap Hp locs) ?_ _ ⟨0, S, rfl, by omega, hSu, lv_sub hl [2, 3, 4, 1, 0] rfl, hP, hD, hS⟩
  clear hP hD hS hl
  intro k9 Hp locs ls ih9 h9
  obtain ⟨i, S1, k9e, hi, hS1, hl, hP, hD, hS⟩ := h9
  have ih_6 := ih9
  clear ih9
  subst k9e
  refine lv_iload hx hb dX2_growToAll_6 (lv_at hl 4 rfl) ?_
  refine lv_aload_n hx hb dX2_growToAll_8 rfl (lv_at hl 1 rfl) ?_
  refine va_getN (D := (dC, dI)) (ci := 1) (v := .int (nI n)) (C := RX1) (T := TX1) (N := 4) hx hb hw in_X1 hown hK hP 1 rfl rfl 2 (by decide) (nf_X2_58 hN) (fun _ h9 => h9) rfl dX2_growToAll_9 ?_
  refine lv_icmp_ge (tgt := 61) hx hb dX2_growToAll_12 (by decide) (fun b12 => ?_) (fun b12 => ?_)
  -- if_icmpge at 12, t
  · have t12 := (nI_leI (by omega) (by omega)).mp b12
    obtain rfl : i = n - 1 := by omega
    have e8 := ru_it_all hT2 (by omega : k < 3) hI
    rw [e8] at hS1
    exact W.vret hx hb hr (fun t ht hW => ⟨⟨_, rfl, hS1, by rw [ht]; exact hP, va_K.moved hW.alike hK, by rw [hAe]; exact hD⟩, hS.F ht⟩) hS.2.2 dX2_growToAll_61
  -- if_icmpge at 12, f
  · have t12 : i + 1 < n := Nat.lt_of_not_le (fun z => b12 (nI_le z (by omega)))
    refine lv_aload_n hx hb dX2_growToAll_15 rfl (lv_at hl 0 rfl) ?_
    refine lv_aload_n hx hb dX2_growToAll_16 rfl (lv_at hl 1 rfl) ?_
    refine lv_iload hx hb dX2_growToAll_17 (lv_at hl 3 rfl) ?_
    refine ro_V (As := [.ref (ad 1), .int (nI (ru_it n a b T H R k i (R k, O)).1)]) (rest := []) (b := ad 6) ⟨hx, hb, hml, hown, hts⟩ (c_X2_leastSafeArc l dC dI cI ad n a T H b R st ((ru_it n a b T H R k i (R k, O)).2) S1 k (ru_it n a b T H R k i (R k, O)).1 n7 a14 hT (Nat.lt_of_lt_of_le (ru_I_it hT2 (by omega : k < 3) hI i).2.1 p7) (ru_I_it hT2 (by omega : k < 3) hI i).1 hS1) (cwV 2 hts (bw_V mq_ml_X2_61 mq_im_X2_leastSafeArc mq_se_X2_leastSafeArc mq_in_X2 mq_co_X2_leastSafeArc) rfl rfl rfl (by decide +kernel) ⟨Nat.le_of_ble_eq_true rfl, Nat.le_of_ble_eq_true rfl⟩) hP hK hN 6 rfl rfl rfl hl.1 rfl (Nat.le_of_ble_eq_true rfl) dX2_growToAll_19 ⟨Nat.zero_le _, Nat.zero_le _⟩ (fun r9 h9 => ?_)
    obtain ⟨I1, I2, I3, I4, I5⟩ := ru_I_it hT2 (by omega : k < 3) hI i
    by_cases hf : (ru_it n a b T H R k i (R k, O)).1 = 2 ^ n - 1
    · obtain rfl : r9 = -1 := by
        rw [h9, gr_none n7 hT2 hf, if_neg (Nat.lt_irrefl _)]
      refine lv_istore (lv' := [(6, .int (-1)), (0, .ref (ad 6)), (1, .ref (ad 1)), (2, .int (nI k)), (4, .int (nI (ru_it n a b T H R k i (R k, O)).1)), (5, .int (nI (i + 1)))]) hx hb dX2_growToAll_22 hl (by decide) rfl (fun ls hl => ?_)
      refine lv_iload hx hb dX2_growToAll_24 (lv_at hl 0 rfl) ?_
      refine lv_iconst (v := -1) hx hb dX2_growToAll_26 (by decide) ?_
      refine lv_icmp_ne (tgt := 31) hx hb dX2_growToAll_27 (by decide) (fun b9 => absurd (rfl) b9) (fun _ => ?_)
      have e8 := ru_it_two hf (ru_it_all hT2 (by omega : k < 3) hI)
      rw [hf, e8] at hS1
      rw [e8] at hP hD
      exact W.vret hx hb hr (fun t ht hW => ⟨⟨_, rfl, hS1, by rw [ht]; exact hP, va_K.moved hW.alike hK, by rw [hAe]; exact hD⟩, hS.F ht⟩) hS.2.2 dX2_growToAll_30
    · obtain ⟨p1, p2, p3, p4⟩ := ru_pick_at I1 (fun e he => (hT2 e he).1) I2 hf
      obtain ⟨j, hj⟩ : ∃ j, j = ru_pick n a b T H R k (ru_it n a b T H R k i (R k, O)).1 (ow_u (ru_it n a b T H R k i (R k, O)).2) := ⟨_, rfl⟩
      rw [← hj] at p1 p2 p3 p4
      obtain rfl : r9 = nI j := by
        rw [h9, ← hj, if_pos p1]
      have q7 := hT j
      refine lv_istore (lv' := [(6, .int (nI j)), (0, .ref (ad 6)), (1, .ref (ad 1)), (2, .int (nI k)), (4, .int (nI (ru_it n a b T H R k i (R k, O)).1)), (5, .int (nI (i + 1)))]) hx hb dX2_growToAll_22 hl (by decide) rfl (fun ls hl => ?_)
      refine lv_iload hx hb dX2_growToAll_24 (lv_at hl 0 rfl) ?_
      refine lv_iconst (v := -1) hx hb dX2_growToAll_26 (by decide) ?_
      refine lv_icmp_ne (tgt := 31) hx hb dX2_growToAll_27 (by decide) (fun _ => ?_) (fun b9 => absurd b9 (ow_n14 j (by omega)))
      refine lv_aload_n hx hb dX2_growToAll_31 rfl (lv_at hl 1 rfl) ?_
      refine lv_aload_n hx hb dX2_growToAll_32 rfl (lv_at hl 2 rfl) ?_
      refine lv_iload hx hb dX2_growToAll_33 (lv_at hl 0 rfl) ?_
      refine lv_iload_n hx hb dX2_growToAll_35 rfl (lv_at hl 3 rfl) ?_
      refine lv_iload hx hb dX2_growToAll_36 (lv_at hl 4 rfl) ?_
      refine mu_Vv (As := [.ref (ad 1), .int (nI j), .int (nI k), .int (nI (ru_it n a b T H R k i (R k, O)).1)]) (rest := []) (b := ad 6) ⟨hx, hb, hml, hown, hts⟩ (c_X2_use l dC dI cI ad n a T H b R st ((ru_it n a b T H R k i (R k, O)).2) S1 _ j k (ru_it n a b T H R k i (R k, O)).1 n7 (by omega) hT) (cwV 4 hts (bw_V mq_ml_X2_65 mq_im_X2_use mq_se_X2_use mq_in_X2 mq_co_X2_use) rfl rfl rfl (by decide +kernel) ⟨Nat.le_of_ble_eq_true rfl, Nat.le_of_ble_eq_true rfl⟩) hP hK hN hD hS hA 6 rfl rfl rfl hl.1 rfl (Nat.le_of_ble_eq_true rfl) dX2_growToAll_38 ⟨Nat.zero_le _, Nat.zero_le _⟩ (fun u9 Hp locs h9 hP hD hS => ?_)
      have hP : va_P (dC, dI) classes (cw ad cI n a T H b R st (upd (ru_it n a b T H R k i (R k, O)).2 j (nI k)) (us_S T H (ru_it n a b T H R k i (R k, O)).1 j S1 (2 ^ n))) Hp := hP
      have hD : va_D A (cw ad cI n a T H b R st (upd (ru_it n a b T H R k i (R k, O)).2 j (nI k)) (us_S T H (ru_it n a b T H R k i (R k, O)).1 j S1 (2 ^ n))) := hD
      refine lv_iload hx hb dX2_growToAll_41 (lv_at hl 4 rfl) ?_
      refine lv_iconst (v := 1) hx hb dX2_growToAll_43 (by decide) ?_
      refine lv_aload_n hx hb dX2_growToAll_44 rfl (lv_at hl 2 rfl) ?_
      refine va_getN (D := (dC, dI)) (ci := 1) (v := .ref (ad 3)) (C := RX1) (T := TX1) (N := 4) hx hb hw in_X1 hown hK hP 1 rfl rfl 1 (by decide) (nf_X2_69 hN) (fun _ h9 => h9) rfl dX2_growToAll_45 ?_
      refine lv_iload hx hb dX2_growToAll_48 (lv_at hl 0 rfl) ?_
      refine va_iald hx hb hK hP 3 0 rfl rfl (vp_in_nI (by omega) (by decide)) dX2_growToAll_50 ?_
      refine lv_topi (fun z9 e9 => ?_)
      obtain rfl : z9 = nI (H j) := e9.trans (ar_at H (by omega))
      refine lv_ishl hx hb dX2_growToAll_51 ?_
      refine lv_ior hx hb dX2_growToAll_52 ?_
      refine lv_topi (fun z9 e9 => ?_)
      obtain rfl : z9 = nI ((ru_it n a b T H R k i (R k, O)).1 ||| 2 ^ H j) := e9.trans (by rw [bi_sh _ (by omega), bi_or])
      refine lv_istore (lv' := [(4, .int (nI ((ru_it n a b T H R k i (R k, O)).1 ||| 2 ^ H j))), (6, .int (nI j)), (0, .ref (ad 6)), (1, .ref (ad 1)), (2, .int (nI k)), (5, .int (nI (i + 1)))]) hx hb dX2_growToAll_53 hl (by decide) rfl (fun ls hl => ?_)
      refine lv_iinc (k := 5) (v := nI (i + 1 + 1)) (lv' := [(5, .int (nI (i + 1 + 1))), (4, .int (nI ((ru_it n a b T H R k i (R k, O)).1 ||| 2 ^ H j))), (6, .int (nI j)), (0, .ref (ad 6)), (1, .ref (ad 1)), (2, .int (nI k))]) hx hb dX2_growToAll_55 hl rfl (ii_1 _) (by decide) rfl (fun ls hl => ?_)
      refine lv_goto (tgt := 6) hx hb dX2_growToAll_58 (by decide) ?_
      have e8 : ru_it n a b T H R k (i + 1) (R k, O) = ((ru_it n a b T H R k i (R k, O)).1 ||| 2 ^ H j, upd (ru_it n a b T H R k i (R k, O)).2 j (nI k)) := by rw [ru_it_s, ru_st_go hf, ← hj]
      have e81 : (ru_it n a b T H R k (i + 1) (R k, O)).1 = (ru_it n a b T H R k i (R k, O)).1 ||| 2 ^ H j := by rw [e8]
      have e82 : (ru_it n a b T H R k (i + 1) (R k, O)).2 = upd (ru_it n a b T H R k i (R k, O)).2 j (nI k) := by rw [e8]
      rw [← e81] at hl
      rw [← e82] at hP hD
      have hS2 : su_ok n a b T H R k (ru_it n a b T H R k (i + 1) (R k, O)).1 (ow_u (ru_it n a b T H R k (i + 1) (R k, O)).2) (us_S T H (ru_it n a b T H R k i (R k, O)).1 j S1 (2 ^ n)) := by
        rw [e81, e82, ow_upd _ _ (by omega)]
        exact su_use I1 p1 p2 (ru_ok_iff.mpr p3) hS1 (fun X h0 h1 => us_val h0 h1)
      exact ih_6 _ _ _ _ (by omega) ⟨i + 1, _, rfl, by omega, hS2, lv_sub hl [3, 4, 5, 1, 0] rfl, hP, hD, hS⟩
set_option maxHeartbeats 4000000 in
set_option maxRecDepth 100000 in
theorem c_X2_measureSurplus (l : Launch) (dC : Nat → ClassId) (dI : Nat → Nat → Nat) (cI : ClassId) (ad : Nat → Nat) (n a : Nat) (T H : Nat → Nat) (b : Nat) (R : Nat → Nat) (st : Int32) (O S : Nat → Int32) (sz : Nat) (n7 : n ≤ 7) (a14 : a ≤ 14) (hT : ∀ i, T i < 7 ∧ H i < 7) (hb3 : b ≤ 3) (hR : ∀ k, R k < 128) : Met l yX2_measureSurplus (wq yX2_measureSurplus cX2_measureSurplus 4 (some .boolean)) ({ frames := 2, cells := 0, slots := 0, locals := 45 }) (mu_P (dC, dI) classes [(cI, .int)] (cw ad cI n a T H b R st O S) sz [.ref (ad 6), .ref (ad 1), .ref (ad 4)]) (va_Qi (fun (r : Int32) (S2 : Nat → Int32) => r = nI (ed_b (paF n a T H b R)) ∧ (paF n a T H b R = true → ∀ X, 0 < X → X < 2 ^ n → S2 X = nI (rho0 T H a X - ed_mis R b X))) (mu_B (dC, dI) classes [(cI, .int)] (cw ad cI n a T H b R st O S) sz (fun S2 => cw ad cI n a T H b R st O S2)) (va_A (cw ad cI n a T H b R st O S) sz)) 0 0 (va_A (cw ad cI n a T H b R st O S) sz) := by
  have p7 := bi_p7 n7
  have p0 := Nat.two_pow_pos n
  refine Met.ofW (cc := cX2_measureSurplus) (maxL := 4) (ret := (some .boolean)) (by decide) rfl ?_
  intro p e s m args below meth c s₁ B hml hv
  obtain ⟨rfl, hsz, hP, hK, hN, hD0⟩ := hv
  have hx := B.exec
  have hb := B.bytes
  have hr := B.returns
  have hlocks := B.notSynchronized
  have hts := atoms_spec (ws := (wq yX2_measureSurplus cX2_measureSurplus 4 (some .boolean))) B.pre
  have hw : ∀ w ∈ bigW, w.before _ s = true := fun w h => hts w (List.mem_cons_of_mem _ h)
  have hown : s.vm.findClass RX2 = some m.cls := findClass_of_methodNamed B.named
  subst hsz
  have hD := hD0.self (sz := s.heap.size)
  generalize hAe : va_A (cw ad cI n a T H b R st O S) s.heap.size = A at hD ⊢
  have hA : ∀ q : Nat, s.heap.size ≤ q → A q := fun q h => by rw [← hAe]; exact Or.inr h
  have hS : va_S A s.heap s.heap [] := va_S.rf
  have hl := lv_entry ([.ref (ad 6), .ref (ad 1), .ref (ad 4)]) (n := 4) (Nat.le_of_ble_eq_true rfl)
  rw [lg_entry_eq]
  generalize (lg_sl ([.ref (ad 6), .ref (ad 1), .ref (ad 4)]) ++ List.replicate (4 - (lg_sl ([.ref (ad 6), .ref (ad 1), .ref (ad 4)])).length) Slot.unset).toArray = ls at hl ⊢
  have hl : lv_has ls 4 [(0, .ref (ad 6)), (1, .ref (ad 1)), (2, .ref (ad 4))] := hl
  refine lv_iconst (v := nI 1) hx hb dX2_measureSurplus_0 (by decide) ?_
  refine lv_istore_n (lv' := [(3, .int (nI 1)), (0, .ref (ad 6)), (1, .ref (ad 1)), (2, .ref (ad 4))]) hx hb dX2_measureSurplus_1 rfl hl (by decide) rfl (fun ls hl => ?_)
  refine wl_loopH (fun k9 Hp locs ls => ∃ (X : Nat) (S1 : Nat → Int32), 2 ^ n - X = k9 ∧ (0 < X ∧ X ≤ 2 ^ n) ∧ (∀ Y, 0 < Y → Y < X → ed_mis R b Y ≤ rho0 T H a Y ∧ S1 Y = nI (rho0 T H a Y - ed_mis R b Y)) ∧ lv_has ls 4 [(0, .ref (ad 6)), (1, .ref (ad 1)), (2, .ref (ad 4)), (3, .int (nI X))] ∧ va_P (dC, dI) classes (cw ad cI n a T H b R st O S1) Hp ∧ va_D A (cw ad cI n a T H b R st O S1) ∧ va_S A s.heap Hp locs) ?_ _ ⟨1, S, rfl, ⟨by omega, by omega⟩, fun Y y0 y1 => by omega, lv_sub hl [1, 2, 3, 0] rfl, hP, hD, hS⟩
  clear hP hD hS hl
  intro k9 Hp locs ls ih9 h9
  obtain ⟨X, S1, k9e, hX, hall, hl, hP, hD, hS⟩ := h9
  have ih_2 := ih9
  clear ih9
  subst k9e
  refine lv_iload_n hx hb dX2_measureSurplus_2 rfl (lv_at hl 3 rfl) ?_
  refine lv_aload_n hx hb dX2_measureSurplus_3 rfl (lv_at hl 1 rfl) ?_
  refine ro_V (As := []) (rest := [.int (nI X)]) (b := ad 1) ⟨hx, hb, hml, hown, hts⟩ (c_X1_allVertices l dC dI cI ad n a T H b R st O S1 n7) (cwV 0 hts (bw_V mq_ml_X2_45 mq_im_X1_allVertices mq_se_X1_allVertices mq_in_X1 mq_co_X1_allVertices) rfl rfl rfl (by decide +kernel) ⟨Nat.le_of_ble_eq_true rfl, Nat.le_of_ble_eq_true rfl⟩) hP hK hN 1 rfl rfl rfl hl.1 rfl (Nat.le_of_ble_eq_true rfl) dX2_measureSurplus_4 ⟨Nat.zero_le _, Nat.zero_le _⟩ (fun r9 h9 => ?_)
  obtain rfl : r9 = nI (2 ^ n - 1) := h9
  refine lv_icmp_gt (tgt := 44) hx hb dX2_measureSurplus_7 (by decide) (fun b7 => ?_) (fun b7 => ?_)
  -- if_icmpgt at 7, t
  · have t7 := (nI_ltI (by omega) (by omega)).mp b7
    refine lv_iconst (v := 1) hx hb dX2_measureSurplus_44 (by decide) ?_
    have e8 : paF n a T H b R = true := pa_t (fun Y y0 y1 => (hall Y y0 (by omega)).1)
    exact W.zret (v := 1) hx hb hr rfl (fun t ht hW => ⟨⟨_, _, rfl, ⟨zb_T e8, fun _ Y y0 y1 => (hall Y y0 (by omega)).2⟩, by rw [ht]; exact hP, va_K.moved hW.alike hK, by rw [hAe]; exact hD⟩, hS.F ht⟩) hS.2.2 dX2_measureSurplus_45
  -- if_icmpgt at 7, f
  · have t7 : X ≤ 2 ^ n - 1 := Nat.le_of_not_lt (fun z => b7 (nI_lt z (by omega)))
    have z9 : rho0 T H a X ≤ a := ed_ct_le _ _
    have z8 : ed_mis R b X ≤ b := ed_ct_le _ _
    refine lv_aload_n hx hb dX2_measureSurplus_10 rfl (lv_at hl 0 rfl) ?_
    refine va_get (D := (dC, dI)) (ci := 2) (v := .ref (ad 8)) (C := RX2) (T := TX2) (N := 3) hx hb hw in_X2 hown hK hP 6 rfl rfl 1 (by decide) (hw _ mq_fl_X2_15) (fun _ h9 => h9) rfl dX2_measureSurplus_11 ?_
    refine lv_iload_n hx hb dX2_measureSurplus_14 rfl (lv_at hl 3 rfl) ?_
    refine lv_aload_n hx hb dX2_measureSurplus_15 rfl (lv_at hl 1 rfl) ?_
    refine lv_iload_n hx hb dX2_measureSurplus_16 rfl (lv_at hl 3 rfl) ?_
    refine ro_V (As := [.int (nI X)]) (rest := [.int (nI X), .ref (ad 8)]) (b := ad 1) ⟨hx, hb, hml, hown, hts⟩ (c_X1_entrySize l dC dI cI ad n a T H b R st O S1 X a14 (by omega) hT) (cwV 1 hts (bw_V mq_ml_X2_51 mq_im_X1_entrySize mq_se_X1_entrySize mq_in_X1 mq_co_X1_entrySize) rfl rfl rfl (by decide +kernel) ⟨Nat.le_of_ble_eq_true rfl, Nat.le_of_ble_eq_true rfl⟩) hP hK hN 1 rfl rfl rfl hl.1 rfl (Nat.le_of_ble_eq_true rfl) dX2_measureSurplus_17 ⟨Nat.zero_le _, Nat.zero_le _⟩ (fun r9 h9 => ?_)
    obtain rfl : r9 = nI (rho0 T H a X) := h9
    refine lv_aload_n hx hb dX2_measureSurplus_20 rfl (lv_at hl 2 rfl) ?_
    refine lv_iload_n hx hb dX2_measureSurplus_21 rfl (lv_at hl 3 rfl) ?_
    refine ro_V (As := [.int (nI X)]) (rest := [.int (nI (rho0 T H a X)), .int (nI X), .ref (ad 8)]) (b := ad 4) ⟨hx, hb, hml, hown, hts⟩ (c_X0_missing l dC dI cI ad n a T H b R st O S1 X hb3 hR) (cwV 1 hts (bw_V mq_ml_X2_55 mq_im_X0_missing mq_se_X0_missing mq_in_X0 mq_co_X0_missing) rfl rfl rfl (by decide +kernel) ⟨Nat.le_of_ble_eq_true rfl, Nat.le_of_ble_eq_true rfl⟩) hP hK hN 4 rfl rfl rfl hl.1 rfl (Nat.le_of_ble_eq_true rfl) dX2_measureSurplus_22 ⟨Nat.zero_le _, Nat.zero_le _⟩ (fun r9 h9 => ?_)
    obtain rfl : r9 = nI (ed_mis R b X) := h9
    refine lv_isub hx hb dX2_measureSurplus_25 ?_
    refine va_iast hx hb hK hP hD hS 8 0 rfl rfl (vp_in_nI (by omega) (by decide)) dX2_measureSurplus_26 (fun Hp locs hP hD hS => ?_)
    rw [nI_clamp (show X < 2 ^ 31 by omega)] at hP hD
    have hP : va_P (dC, dI) classes (cw ad cI n a T H b R st O (upd S1 X (nI (rho0 T H a X) - nI (ed_mis R b X)))) Hp := hP
    have hD : va_D A (cw ad cI n a T H b R st O (upd S1 X (nI (rho0 T H a X) - nI (ed_mis R b X)))) := hD
    refine lv_aload_n hx hb dX2_measureSurplus_27 rfl (lv_at hl 0 rfl) ?_
    refine va_get (D := (dC, dI)) (ci := 2) (v := .ref (ad 8)) (C := RX2) (T := TX2) (N := 3) hx hb hw in_X2 hown hK hP 6 rfl rfl 1 (by decide) (hw _ mq_fl_X2_15) (fun _ h9 => h9) rfl dX2_measureSurplus_28 ?_
    refine lv_iload_n hx hb dX2_measureSurplus_31 rfl (lv_at hl 3 rfl) ?_
    refine va_iald hx hb hK hP 8 0 rfl rfl (vp_in_nI (by omega) (by decide)) dX2_measureSurplus_32 ?_
    refine lv_topi (fun z9 e9 => ?_)
    obtain rfl : z9 = nI (rho0 T H a X) - nI (ed_mis R b X) := e9.trans (by rw [nI_clamp (by omega)]; exact pk_us)
    refine lv_if_ge (tgt := 38) hx hb dX2_measureSurplus_33 (by decide) (fun b33 => ?_) (fun b33 => ?_)
    -- ifge at 33, t
    · have t33 := (ms_ge (by omega) (by omega)).mp b33
      refine lv_iinc (k := 3) (v := nI (X + 1)) (lv' := [(3, .int (nI (X + 1))), (0, .ref (ad 6)), (1, .ref (ad 1)), (2, .ref (ad 4))]) hx hb dX2_measureSurplus_38 hl rfl (ii_1 _) (by decide) rfl (fun ls hl => ?_)
      refine lv_goto (tgt := 2) hx hb dX2_measureSurplus_41 (by decide) ?_
      have hall2 : ∀ Y, 0 < Y → Y < X + 1 → ed_mis R b Y ≤ rho0 T H a Y ∧ upd S1 X (nI (rho0 T H a X) - nI (ed_mis R b X)) Y = nI (rho0 T H a Y - ed_mis R b Y) := by
        intro Y y0 y1
        by_cases y3 : Y = X
        · subst y3
          rw [pk_us]
          exact ⟨t33, pk_sub t33⟩
        · rw [pk_un y3]
          exact hall Y y0 (by omega)
      exact ih_2 _ _ _ _ (by omega) ⟨X + 1, _, rfl, by omega, hall2, lv_sub hl [1, 2, 3, 0] rfl, hP, hD, hS⟩
    -- ifge at 33, f
    · have t33 : ¬ ed_mis R b X ≤ rho0 T H a X := fun z => b33 ((ms_ge (by omega) (by omega)).mpr z)
      refine lv_iconst (v := 0) hx hb dX2_measureSurplus_36 (by decide) ?_
      have e8 : paF n a T H b R = false := pa_f hX.1 (by omega) t33
      exact W.zret (v := 0) hx hb hr rfl (fun t ht hW => ⟨⟨_, _, rfl, ⟨zb_F e8, fun z => by rw [e8] at z; cases z⟩, by rw [ht]; exact hP, va_K.moved hW.alike hK, by rw [hAe]; exact hD⟩, hS.F ht⟩) hS.2.2 dX2_measureSurplus_37
set_option maxHeartbeats 4000000 in
set_option maxRecDepth 100000 in
theorem c_J7_fill (l : Launch) (dC : Nat → ClassId) (dI : Nat → Nat → Nat) (cI : ClassId) (ad : Nat → Nat) (n a : Nat) (T H : Nat → Nat) (b : Nat) (R : Nat → Nat) (st : Int32) (O S : Nat → Int32) (sz : Nat)  : Met l yJ7_fill (wq yJ7_fill cJ7_fill 4 none) ({ frames := 0, cells := 0, slots := 0, locals := 0 }) (mu_P (dC, dI) classes [(cI, .int)] (cw ad cI n a T H b R st O S) sz [.ref (ad 7), .int (-1)]) (va_Qv (fun _ : Unit => True) (mu_B (dC, dI) classes [(cI, .int)] (cw ad cI n a T H b R st O S) sz (fun _ => cw ad cI n a T H b R st (fun _ => -1) S)) (va_A (cw ad cI n a T H b R st O S) sz)) 0 0 (va_A (cw ad cI n a T H b R st O S) sz) := by
  refine Met.ofW (cc := cJ7_fill) (maxL := 4) (ret := none) (by decide) rfl ?_
  intro p e s m args below meth c s₁ B hml hv
  obtain ⟨rfl, hsz, hP, hK, hN, hD0⟩ := hv
  have hx := B.exec
  have hb := B.bytes
  have hr := B.returns
  have hlocks := B.notSynchronized
  have hts := atoms_spec (ws := (wq yJ7_fill cJ7_fill 4 none)) B.pre
  have hw : ∀ w ∈ bigW, w.before _ s = true := fun w h => hts w (List.mem_cons_of_mem _ h)
  have hown : s.vm.findClass RJ7 = some m.cls := findClass_of_methodNamed B.named
  subst hsz
  have hD := hD0.self (sz := s.heap.size)
  generalize hAe : va_A (cw ad cI n a T H b R st O S) s.heap.size = A at hD ⊢
  have hA : ∀ q : Nat, s.heap.size ≤ q → A q := fun q h => by rw [← hAe]; exact Or.inr h
  have hS : va_S A s.heap s.heap [] := va_S.rf
  have hl := lv_entry ([.ref (ad 7), .int (-1)]) (n := 4) (Nat.le_of_ble_eq_true rfl)
  rw [lg_entry_eq]
  generalize (lg_sl ([.ref (ad 7), .int (-1)]) ++ List.replicate (4 - (lg_sl ([.ref (ad 7), .int (-1)])).length) Slot.unset).toArray = ls at hl ⊢
  have hl : lv_has ls 4 [(0, .ref (ad 7)), (1, .int (-1))] := hl
  refine lv_iconst (v := nI 0) hx hb dJ7_fill_0 (by decide) ?_
  refine lv_istore_n (lv' := [(2, .int (nI 0)), (0, .ref (ad 7)), (1, .int (-1))]) hx hb dJ7_fill_1 rfl hl (by decide) rfl (fun ls hl => ?_)
  refine lv_aload_n hx hb dJ7_fill_2 rfl (lv_at hl 1 rfl) ?_
  refine va_alen (v := nI 14) hx hb hK hP 7 0 rfl rfl rfl dJ7_fill_3 ?_
  refine lv_istore_n (lv' := [(3, .int (nI 14)), (2, .int (nI 0)), (0, .ref (ad 7)), (1, .int (-1))]) hx hb dJ7_fill_4 rfl hl (by decide) rfl (fun ls hl => ?_)
  refine wl_loopH (fun k9 Hp locs ls => ∃ (i : Nat) (O1 : Nat → Int32), 14 - i = k9 ∧ (i ≤ 14) ∧ (∀ j, j < i → O1 j = -1) ∧ lv_has ls 4 [(0, .ref (ad 7)), (1, .int (-1)), (2, .int (nI i)), (3, .int (nI 14))] ∧ va_P (dC, dI) classes (cw ad cI n a T H b R st O1 S) Hp ∧ va_D A (cw ad cI n a T H b R st O1 S) ∧ va_S A s.heap Hp locs) ?_ _ ⟨0, O, rfl, by omega, fun j hj => by omega, lv_sub hl [2, 3, 1, 0] rfl, hP, hD, hS⟩
  clear hP hD hS hl
  intro k9 Hp locs ls ih9 h9
  obtain ⟨i, O1, k9e, hi, hO, hl, hP, hD, hS⟩ := h9
  have ih_5 := ih9
  clear ih9
  subst k9e
  refine lv_iload_n hx hb dJ7_fill_5 rfl (lv_at hl 2 rfl) ?_
  refine lv_iload_n hx hb dJ7_fill_6 rfl (lv_at hl 3 rfl) ?_
  refine lv_icmp_ge (tgt := 20) hx hb dJ7_fill_7 (by decide) (fun b7 => ?_) (fun b7 => ?_)
  -- if_icmpge at 7, t
  · have t7 := (nI_leI (by omega) (by omega)).mp b7
    have hP : va_P (dC, dI) classes (cw ad cI n a T H b R st (fun _ => -1) S) Hp := cw_O (fun j hj => hO j (by omega)) hP
    have hD : va_D A (cw ad cI n a T H b R st (fun _ => -1) S) := cw_D hD
    exact W.vret hx hb hr (fun t ht hW => ⟨⟨(), rfl, trivial, by rw [ht]; exact hP, va_K.moved hW.alike hK, by rw [hAe]; exact hD⟩, hS.F ht⟩) hS.2.2 dJ7_fill_20
  -- if_icmpge at 7, f
  · have t7 : i < 14 := Nat.lt_of_not_le (fun z => b7 (nI_le z (by omega)))
    refine lv_aload_n hx hb dJ7_fill_10 rfl (lv_at hl 0 rfl) ?_
    refine lv_iload_n hx hb dJ7_fill_11 rfl (lv_at hl 2 rfl) ?_
    refine lv_iload_n hx hb dJ7_fill_12 rfl (lv_at hl 1 rfl) ?_
    refine va_iast hx hb hK hP hD hS 7 0 rfl rfl (vp_in_nI (by omega) (by decide)) dJ7_fill_13 (fun Hp locs hP hD hS => ?_)
    rw [nI_clamp (show i < 2 ^ 31 by omega)] at hP hD
    have hP : va_P (dC, dI) classes (cw ad cI n a T H b R st (upd O1 i (-1)) S) Hp := hP
    have hD : va_D A (cw ad cI n a T H b R st (upd O1 i (-1)) S) := hD
    refine lv_iinc (k := 2) (v := nI (i + 1)) (lv' := [(2, .int (nI (i + 1))), (0, .ref (ad 7)), (1, .int (-1)), (3, .int (nI 14))]) hx hb dJ7_fill_14 hl rfl (ii_1 _) (by decide) rfl (fun ls hl => ?_)
    refine lv_goto (tgt := 5) hx hb dJ7_fill_17 (by decide) ?_
    have hO2 : ∀ j, j < i + 1 → upd O1 i (-1) j = -1 := by
      intro j hj
      by_cases h : j = i
      · rw [h, pk_us]
      · rw [pk_un h]
        exact hO j (by omega)
    exact ih_5 _ _ _ _ (by omega) ⟨i + 1, _, rfl, by omega, hO2, lv_sub hl [1, 2, 0, 3] rfl, hP, hD, hS⟩
set_option maxHeartbeats 4000000 in
set_option maxRecDepth 100000 in
theorem c_X2_refresh (l : Launch) (dC : Nat → ClassId) (dI : Nat → Nat → Nat) (cI : ClassId) (ad : Nat → Nat) (n a : Nat) (T H : Nat → Nat) (b : Nat) (R : Nat → Nat) (st : Int32) (O S : Nat → Int32) (sz : Nat) (n7 : n ≤ 7) (a14 : a ≤ 14) (hT : ∀ i, T i < 7 ∧ H i < 7) (n1 : 1 ≤ n) (hT2 : ∀ e, e < a → T e < n ∧ H e < n) (hb3 : b ≤ 3) (hR : ∀ k, R k < 128) (hR3 : ∀ k, k < b → R k ≠ 0 ∧ R k < 2 ^ n) (hst : st = 1 ∨ (st = 0 ∧ O = pg_all n a b T H R)) : Met l yX2_refresh (wq yX2_refresh cX2_refresh 4 none) ({ frames := 5, cells := 0, slots := 0, locals := 118 }) (mu_P (dC, dI) classes [(cI, .int)] (cw ad cI n a T H b R st O S) sz [.ref (ad 6), .ref (ad 1), .ref (ad 4)]) (va_Qv (fun S2 : Nat → Int32 => True) (mu_B (dC, dI) classes [(cI, .int)] (cw ad cI n a T H b R st O S) sz (fun S2 => cw ad cI n a T H b R 0 (pg_all n a b T H R) S2)) (va_A (cw ad cI n a T H b R st O S) sz)) 0 0 (va_A (cw ad cI n a T H b R st O S) sz) := by
  refine Met.ofW (cc := cX2_refresh) (maxL := 4) (ret := none) (by decide) rfl ?_
  intro p e s m args below meth c s₁ B hml hv
  obtain ⟨rfl, hsz, hP, hK, hN, hD0⟩ := hv
  have hx := B.exec
  have hb := B.bytes
  have hr := B.returns
  have hlocks := B.notSynchronized
  have hts := atoms_spec (ws := (wq yX2_refresh cX2_refresh 4 none)) B.pre
  have hw : ∀ w ∈ bigW, w.before _ s = true := fun w h => hts w (List.mem_cons_of_mem _ h)
  have hown : s.vm.findClass RX2 = some m.cls := findClass_of_methodNamed B.named
  subst hsz
  have hD := hD0.self (sz := s.heap.size)
  generalize hAe : va_A (cw ad cI n a T H b R st O S) s.heap.size = A at hD ⊢
  have hA : ∀ q : Nat, s.heap.size ≤ q → A q := fun q h => by rw [← hAe]; exact Or.inr h
  have hS : va_S A s.heap s.heap [] := va_S.rf
  have hl := lv_entry ([.ref (ad 6), .ref (ad 1), .ref (ad 4)]) (n := 4) (Nat.le_of_ble_eq_true rfl)
  rw [lg_entry_eq]
  generalize (lg_sl ([.ref (ad 6), .ref (ad 1), .ref (ad 4)]) ++ List.replicate (4 - (lg_sl ([.ref (ad 6), .ref (ad 1), .ref (ad 4)])).length) Slot.unset).toArray = ls at hl ⊢
  have hl : lv_has ls 4 [(0, .ref (ad 6)), (1, .ref (ad 1)), (2, .ref (ad 4))] := hl
  refine lv_aload_n hx hb dX2_refresh_0 rfl (lv_at hl 0 rfl) ?_
  refine va_get (D := (dC, dI)) (ci := 2) (v := .int st) (C := RX2) (T := TX2) (N := 3) hx hb hw in_X2 hown hK hP 6 rfl rfl 2 (by decide) (hw _ mq_fl_X2_18) (fun _ h9 => h9) rfl dX2_refresh_1 ?_
  refine lv_if_ne (tgt := 8) hx hb dX2_refresh_4 (by decide) (fun b4 => ?_) (fun b4 => ?_)
  -- ifne at 4, t
  · refine lv_aload_n hx hb dX2_refresh_8 rfl (lv_at hl 0 rfl) ?_
    refine lv_iconst (v := 0) hx hb dX2_refresh_9 (by decide) ?_
    refine va_put (D := (dC, dI)) (ci := 2) (v := .int 0) (ty := .boolean) (C := RX2) (T := TX2) (N := 3) hx hb hw in_X2 tyX2 tyX2_ok nmX2 hown hK hP hD hS 6 rfl rfl 2 (by decide) (hw _ mq_fl_X2_18) (fun _ h9 => h9) rfl (by decide +kernel) rfl rfl (Nat.le_of_ble_eq_true rfl) dX2_refresh_10 (fun Hp locs hP hD hS => ?_)
    have hP : va_P (dC, dI) classes (cw ad cI n a T H b R 0 O S) Hp := hP
    have hD : va_D A (cw ad cI n a T H b R 0 O S) := hD
    refine lv_aload_n hx hb dX2_refresh_13 rfl (lv_at hl 0 rfl) ?_
    refine va_get (D := (dC, dI)) (ci := 2) (v := .ref (ad 7)) (C := RX2) (T := TX2) (N := 3) hx hb hw in_X2 hown hK hP 6 rfl rfl 0 (by decide) (hw _ mq_fl_X2_9) (fun _ h9 => h9) rfl dX2_refresh_14 ?_
    refine lv_iconst (v := -1) hx hb dX2_refresh_17 (by decide) ?_
    refine mu_Sv (As := [.ref (ad 7), .int (-1)]) (rest := []) ⟨hx, hb, hml, hown, hts⟩ (c_J7_fill l dC dI cI ad n a T H b R 0 O S _ ) ⟨callB_of 2 hts (bw_c mq_co_J7_fill) rfl rfl rfl (hw _ mq_in_J7) (hw _ mq_ml_X2_22) (by decide +kernel) ⟨Nat.le_of_ble_eq_true rfl, Nat.le_of_ble_eq_true rfl⟩, hw _ mq_st_J7_fill⟩ hP hK hN hD hS hA rfl hl.1 rfl (Nat.le_of_ble_eq_true rfl) dX2_refresh_18 ⟨Nat.zero_le _, Nat.zero_le _⟩ (fun u9 Hp locs h9 hP hD hS => ?_)
    have hP : va_P (dC, dI) classes (cw ad cI n a T H b R 0 (fun _ => -1) S) Hp := hP
    have hD : va_D A (cw ad cI n a T H b R 0 (fun _ => -1) S) := hD
    refine lv_aload_n hx hb dX2_refresh_21 rfl (lv_at hl 0 rfl) ?_
    refine lv_aload_n hx hb dX2_refresh_22 rfl (lv_at hl 1 rfl) ?_
    refine lv_aload_n hx hb dX2_refresh_23 rfl (lv_at hl 2 rfl) ?_
    refine mu_Vi (As := [.ref (ad 1), .ref (ad 4)]) (rest := []) (b := ad 6) ⟨hx, hb, hml, hown, hts⟩ (c_X2_measureSurplus l dC dI cI ad n a T H b R 0 (fun _ => -1) S _ n7 a14 hT hb3 hR) (cwV 2 hts (bw_V mq_ml_X2_28 mq_im_X2_measureSurplus mq_se_X2_measureSurplus mq_in_X2 mq_co_X2_measureSurplus) rfl rfl rfl (by decide +kernel) ⟨Nat.le_of_ble_eq_true rfl, Nat.le_of_ble_eq_true rfl⟩) hP hK hN hD hS hA 6 rfl rfl rfl hl.1 rfl (Nat.le_of_ble_eq_true rfl) dX2_refresh_24 ⟨Nat.zero_le _, Nat.zero_le _⟩ (fun r9 u9 Hp locs h9 hP hD hS => ?_)
    obtain ⟨S2, rfl⟩ : ∃ z, z = u9 := ⟨_, rfl⟩
    obtain rfl : r9 = nI (ed_b (paF n a T H b R)) := h9.1
    have hP : va_P (dC, dI) classes (cw ad cI n a T H b R 0 (fun _ => -1) S2) Hp := hP
    have hD : va_D A (cw ad cI n a T H b R 0 (fun _ => -1) S2) := hD
    refine lv_if_ne (tgt := 31) hx hb dX2_refresh_27 (by decide) (fun b27 => ?_) (fun b27 => ?_)
    -- ifne at 27, t
    · have t27 := zb_n0.mp b27
      refine lv_iconst (v := nI 0) hx hb dX2_refresh_31 (by decide) ?_
      refine lv_istore_n (lv' := [(3, .int (nI 0)), (0, .ref (ad 6)), (1, .ref (ad 1)), (2, .ref (ad 4))]) hx hb dX2_refresh_32 rfl hl (by decide) rfl (fun ls hl => ?_)
      have hI0 : pg_I n a b T H R 0 (pg_O n a b T H R 0) := ⟨fun z => by rw [show ow_u (pg_O n a b T H R 0) = fun _ => false from ow_m1]; exact ru_ok_iff.mp ((pa_ok z).symm.trans t27), fun e => Or.inl rfl⟩
      have hS0 : 0 < b → su_ok n a b T H R 0 (R 0) (ow_u (pg_O n a b T H R 0)) S2 := fun z => by rw [show ow_u (pg_O n a b T H R 0) = fun _ => false from ow_m1]; exact su_start z (h9.2 t27)
      refine wl_loopH (fun k9 Hp locs ls => ∃ (i : Nat) (S1 : Nat → Int32), b - i = k9 ∧ (i ≤ b) ∧ (pg_I n a b T H R i (pg_O n a b T H R i)) ∧ (i < b → su_ok n a b T H R i (R i) (ow_u (pg_O n a b T H R i)) S1) ∧ lv_has ls 4 [(0, .ref (ad 6)), (1, .ref (ad 1)), (2, .ref (ad 4)), (3, .int (nI i))] ∧ va_P (dC, dI) classes (cw ad cI n a T H b R 0 (pg_O n a b T H R i) S1) Hp ∧ va_D A (cw ad cI n a T H b R 0 (pg_O n a b T H R i) S1) ∧ va_S A s.heap Hp locs) ?_ _ ⟨0, S2, rfl, by omega, hI0, hS0, lv_sub hl [1, 2, 3, 0] rfl, hP, hD, hS⟩
      clear hP hD hS hl
      intro k9 Hp locs ls ih9 h9
      obtain ⟨i, S1, k9e, hi, hI, hS1, hl, hP, hD, hS⟩ := h9
      have ih_33 := ih9
      clear ih9
      subst k9e
      refine lv_iload_n hx hb dX2_refresh_33 rfl (lv_at hl 3 rfl) ?_
      refine lv_aload_n hx hb dX2_refresh_34 rfl (lv_at hl 2 rfl) ?_
      refine va_getN (D := (dC, dI)) (ci := 0) (v := .int (nI b)) (C := RX0) (T := TX0) (N := 2) hx hb hw in_X0 hown hK hP 4 rfl rfl 1 (by decide) (nf_X2_32 hN) (fun _ h9 => h9) rfl dX2_refresh_35 ?_
      refine lv_icmp_ge (tgt := 59) hx hb dX2_refresh_38 (by decide) (fun b38 => ?_) (fun b38 => ?_)
      -- if_icmpge at 38, t
      · have t38 := (nI_leI (by omega) (by omega)).mp b38
        obtain rfl : i = b := by omega
        rw [← pg_yes t27] at hP hD
        exact W.vret hx hb hr (fun t ht hW => ⟨⟨_, rfl, trivial, by rw [ht]; exact hP, va_K.moved hW.alike hK, by rw [hAe]; exact hD⟩, hS.F ht⟩) hS.2.2 dX2_refresh_59
      -- if_icmpge at 38, f
      · have t38 : i < b := Nat.lt_of_not_le (fun z => b38 (nI_le z (by omega)))
        refine lv_aload_n hx hb dX2_refresh_41 rfl (lv_at hl 0 rfl) ?_
        refine lv_aload_n hx hb dX2_refresh_42 rfl (lv_at hl 1 rfl) ?_
        refine lv_iload_n hx hb dX2_refresh_43 rfl (lv_at hl 3 rfl) ?_
        refine lv_aload_n hx hb dX2_refresh_44 rfl (lv_at hl 2 rfl) ?_
        refine va_getN (D := (dC, dI)) (ci := 0) (v := .ref (ad 5)) (C := RX0) (T := TX0) (N := 2) hx hb hw in_X0 hown hK hP 4 rfl rfl 0 (by decide) (nf_X2_38 hN) (fun _ h9 => h9) rfl dX2_refresh_45 ?_
        refine lv_iload_n hx hb dX2_refresh_48 rfl (lv_at hl 3 rfl) ?_
        refine va_iald hx hb hK hP 5 0 rfl rfl (vp_in_nI (by omega) (by decide)) dX2_refresh_49 ?_
        refine lv_topi (fun z9 e9 => ?_)
        obtain rfl : z9 = nI (R i) := e9.trans (ar_at R (by omega))
        refine mu_Vv (As := [.ref (ad 1), .int (nI i), .int (nI (R i))]) (rest := []) (b := ad 6) ⟨hx, hb, hml, hown, hts⟩ (c_X2_growToAll l dC dI cI ad n a T H b R 0 (pg_O n a b T H R i) S1 _ i n7 a14 hT n1 hT2 t38 hb3 hR (pg_start hR3 hb3 t38 hI) (hS1 t38)) (cwV 3 hts (bw_V mq_ml_X2_41 mq_im_X2_growToAll mq_se_X2_growToAll mq_in_X2 mq_co_X2_growToAll) rfl rfl rfl (by decide +kernel) ⟨Nat.le_of_ble_eq_true rfl, Nat.le_of_ble_eq_true rfl⟩) hP hK hN hD hS hA 6 rfl rfl rfl hl.1 rfl (Nat.le_of_ble_eq_true rfl) dX2_refresh_50 ⟨Nat.zero_le _, Nat.zero_le _⟩ (fun u9 Hp locs h9 hP hD hS => ?_)
        obtain ⟨S2, rfl⟩ : ∃ z, z = u9 := ⟨_, rfl⟩
        have hP : va_P (dC, dI) classes (cw ad cI n a T H b R 0 (pg_O n a b T H R (i + 1)) S2) Hp := hP
        have hD : va_D A (cw ad cI n a T H b R 0 (pg_O n a b T H R (i + 1)) S2) := hD
        refine lv_iinc (k := 3) (v := nI (i + 1)) (lv' := [(3, .int (nI (i + 1))), (0, .ref (ad 6)), (1, .ref (ad 1)), (2, .ref (ad 4))]) hx hb dX2_refresh_53 hl rfl (ii_1 _) (by decide) rfl (fun ls hl => ?_)
        refine lv_goto (tgt := 33) hx hb dX2_refresh_56 (by decide) ?_
        have hI2 := pg_step hT2 hR3 hb3 t38 hI
        have hS2 : i + 1 < b → su_ok n a b T H R (i + 1) (R (i + 1)) (ow_u (pg_O n a b T H R (i + 1))) S2 := fun z => su_next z h9
        exact ih_33 _ _ _ _ (by omega) ⟨i + 1, S2, rfl, by omega, hI2, hS2, lv_sub hl [1, 2, 3, 0] rfl, hP, hD, hS⟩
    -- ifne at 27, f
    · have t27 := zb_0.mp b27
      rw [← pg_no t27 hb3] at hP hD
      exact W.vret hx hb hr (fun t ht hW => ⟨⟨_, rfl, trivial, by rw [ht]; exact hP, va_K.moved hW.alike hK, by rw [hAe]; exact hD⟩, hS.F ht⟩) hS.2.2 dX2_refresh_30
  -- ifne at 4, f
  · obtain ⟨rfl, rfl⟩ : st = 0 ∧ O = pg_all n a b T H R := by
      rcases hst with z | z
      · exact absurd (z.symm.trans b4) (by decide)
      · exact z
    exact W.vret hx hb hr (fun t ht hW => ⟨⟨_, rfl, trivial, by rw [ht]; exact hP, va_K.moved hW.alike hK, by rw [hAe]; exact hD⟩, hS.F ht⟩) hS.2.2 dX2_refresh_7

/-! the reference: its world, its leaves -/
abbrev mw (ad : Nat → Nat) (cI : ClassId) (n a b : Nat) (T H R : Nat → Nat) (O Wy tr hd us nx : Nat → Int32) : va_W := [(ad 0, .inr (4, [.int (nI n), .int (nI a), .int (nI b), .ref (ad 1), .ref (ad 2), .ref (ad 3), .ref (ad 4), .ref (ad 5), .ref (ad 6), .ref (ad 7), .ref (ad 8), .ref (ad 9)])), (ad 1, .inl (cI, 14, .inl (ar T))), (ad 2, .inl (cI, 14, .inl (ar H))), (ad 3, .inl (cI, 3, .inl (ar R))), (ad 4, .inl (cI, 14, .inl O)), (ad 5, .inl (cI, 21, .inl Wy)), (ad 6, .inl (cI, 16, .inl tr)), (ad 7, .inl (cI, 16, .inl hd)), (ad 8, .inl (cI, 16, .inl us)), (ad 9, .inl (cI, 16, .inl nx))]
theorem zb_eq {x y : Bool} : nI (ed_b x) = nI (ed_b y) ↔ x = y := by cases x <;> cases y <;> decide
theorem tb_0 : Nat.testBit 0 = fun _ => false := by
  funext i
  exact Nat.zero_testBit i
theorem ed_rho_s (T H : Nat → Nat) (i : Nat) (u : Nat → Bool) (X : Nat) : ed_rho T H (i + 1) u X = ed_rho T H i u X + ed_b (!u i && ed_en T H X i) := rfl
theorem et_in {n a X : Nat} {T H : Nat → Nat} (n7 : n ≤ 7) (hX : X ≤ 2 ^ n - 1) : etF n a T H (nI X) = nI (rho0 T H a X) := by
  have p7 := bi_p7 n7
  have p0 := Nat.two_pow_pos n
  rw [etF, if_pos ⟨nI_pos' (by omega), nI_le hX (by omega)⟩, nI_clamp (by omega)]
theorem mi_in {n b X : Nat} {R : Nat → Nat} (n7 : n ≤ 7) (hX : X ≤ 2 ^ n - 1) : miF n b R (nI X) = nI (ed_mis R b X) := by
  have p7 := bi_p7 n7
  have p0 := Nat.two_pow_pos n
  rw [miF, if_pos ⟨nI_pos' (by omega), nI_le hX (by omega)⟩, nI_clamp (by omega)]
def is_p (R : Nat → Nat) (k had X j : Nat) : Nat := ed_b (had &&& X == 0) + ed_ct (fun i => decide (k < i) && (R i &&& X == 0)) j
theorem is_p_s {R : Nat → Nat} {k had X j : Nat} (h : k < j) : is_p R k had X (j + 1) = is_p R k had X j + ed_b (R j &&& X == 0) := by
  rw [is_p, is_p, ed_ct_s, decide_eq_true h, Bool.true_and, Nat.add_assoc]
theorem is_p_b (R : Nat → Nat) (k had X : Nat) : is_p R k had X (k + 1) = ed_b (had &&& X == 0) := by
  rw [is_p, ed_ct_congr (g := fun _ => false), ed_ct_0, Nat.add_zero]
  intro i hi
  rw [decide_eq_false (by omega), Bool.false_and]
theorem is_p_0 {R : Nat → Nat} {k had X : Nat} (h : ¬ had &&& X = 0) : is_p R k had X (k + 1) = 0 := by rw [is_p_b, beq_false_of_ne h, ed_bf]
theorem is_p_1 {R : Nat → Nat} {k had X : Nat} (h : had &&& X = 0) : is_p R k had X (k + 1) = 1 := by
  rw [is_p_b, h]
  rfl
theorem is_p_le (R : Nat → Nat) (k had X j : Nat) : is_p R k had X j ≤ 1 + j := by
  have h1 := ed_b_le (had &&& X == 0)
  have h2 := ed_ct_le (fun i => decide (k < i) && (R i &&& X == 0)) j
  rw [is_p]
  omega
set_option maxHeartbeats 4000000 in
set_option maxRecDepth 100000 in
theorem c_X4_has (l : Launch) (dC : Nat → ClassId) (dI : Nat → Nat → Nat) (cI : ClassId) (ad : Nat → Nat) (n a b : Nat) (T H R : Nat → Nat) (O Wy tr hd us nx : Nat → Int32) (X k : Nat) (hX : X < 2 ^ 31) (hk : k < 31) : Met l yX4_has (wq yX4_has cX4_has 2 (some .boolean)) ({ frames := 0, cells := 0, slots := 0, locals := 0 }) (ro_P (dC, dI) classes [(cI, .int)] (mw ad cI n a b T H R O Wy tr hd us nx) [.int (nI X), .int (nI k)]) (vp_Si (fun r => r = nI (ed_b (Nat.testBit X k)))) 0 0 (fun _ => False) := by
  refine Met.ofW (cc := cX4_has) (maxL := 2) (ret := (some .boolean)) (by decide) rfl ?_
  intro p e s m args below meth c s₁ B hml hv
  obtain ⟨rfl, hP, hK, hN⟩ := hv
  have hx := B.exec
  have hb := B.bytes
  have hr := B.returns
  have hlocks := B.notSynchronized
  have hts := atoms_spec (ws := (wq yX4_has cX4_has 2 (some .boolean))) B.pre
  have hw : ∀ w ∈ bigW, w.before _ s = true := fun w h => hts w (List.mem_cons_of_mem _ h)
  have hown : s.vm.findClass RX4 = some m.cls := findClass_of_methodNamed B.named
  have hl := lv_entry ([.int (nI X), .int (nI k)]) (n := 2) (Nat.le_of_ble_eq_true rfl)
  rw [lg_entry_eq]
  generalize (lg_sl ([.int (nI X), .int (nI k)]) ++ List.replicate (2 - (lg_sl ([.int (nI X), .int (nI k)])).length) Slot.unset).toArray = ls at hl ⊢
  have hl : lv_has ls 2 [(0, .int (nI X)), (1, .int (nI k))] := hl
  refine lv_iload_n hx hb dX4_has_0 rfl (lv_at hl 0 rfl) ?_
  refine lv_iload_n hx hb dX4_has_1 rfl (lv_at hl 1 rfl) ?_
  refine lv_ishr hx hb dX4_has_2 ?_
  refine lv_iconst (v := 1) hx hb dX4_has_3 (by decide) ?_
  refine lv_iand hx hb dX4_has_4 ?_
  refine lv_iconst (v := 1) hx hb dX4_has_5 (by decide) ?_
  refine lv_icmp_ne (tgt := 13) hx hb dX4_has_6 (by decide) (fun b6 => ?_) (fun b6 => ?_)
  -- if_icmpne at 6, t
  · refine lv_iconst (v := 0) hx hb dX4_has_13 (by decide) ?_
    exact W.zret (v := 0) hx hb hr rfl (fun t ht hW => ⟨_, rfl, zb_F (Bool.eq_false_iff.mpr (fun z => b6 ((bi_sr1 hX (by omega)).mpr z))), ht⟩) (fun _ h => by cases h) dX4_has_14
  -- if_icmpne at 6, f
  · refine lv_iconst (v := 1) hx hb dX4_has_9 (by decide) ?_
    refine lv_goto (tgt := 14) hx hb dX4_has_10 (by decide) ?_
    exact W.zret (v := 1) hx hb hr rfl (fun t ht hW => ⟨_, rfl, zb_T ((bi_sr1 hX (by omega)).mp b6), ht⟩) (fun _ h => by cases h) dX4_has_14
set_option maxHeartbeats 4000000 in
set_option maxRecDepth 100000 in
theorem c_X4_all (l : Launch) (dC : Nat → ClassId) (dI : Nat → Nat → Nat) (cI : ClassId) (ad : Nat → Nat) (n a b : Nat) (T H R : Nat → Nat) (O Wy tr hd us nx : Nat → Int32) (hn : n ≤ 7) : Met l yX4_all (wq yX4_all cX4_all 1 (some .int)) ({ frames := 0, cells := 0, slots := 0, locals := 0 }) (ro_P (dC, dI) classes [(cI, .int)] (mw ad cI n a b T H R O Wy tr hd us nx) [.ref (ad 0)]) (vp_Si (fun r => r = nI (2 ^ n - 1))) 0 0 (fun _ => False) := by
  refine Met.ofW (cc := cX4_all) (maxL := 1) (ret := (some .int)) (by decide) rfl ?_
  intro p e s m args below meth c s₁ B hml hv
  obtain ⟨rfl, hP, hK, hN⟩ := hv
  have hx := B.exec
  have hb := B.bytes
  have hr := B.returns
  have hlocks := B.notSynchronized
  have hts := atoms_spec (ws := (wq yX4_all cX4_all 1 (some .int))) B.pre
  have hw : ∀ w ∈ bigW, w.before _ s = true := fun w h => hts w (List.mem_cons_of_mem _ h)
  have hown : s.vm.findClass RX4 = some m.cls := findClass_of_methodNamed B.named
  have hl := lv_entry ([.ref (ad 0)]) (n := 1) (Nat.le_of_ble_eq_true rfl)
  rw [lg_entry_eq]
  generalize (lg_sl ([.ref (ad 0)]) ++ List.replicate (1 - (lg_sl ([.ref (ad 0)])).length) Slot.unset).toArray = ls at hl ⊢
  have hl : lv_has ls 1 [(0, .ref (ad 0))] := hl
  refine lv_iconst (v := 1) hx hb dX4_all_0 (by decide) ?_
  refine lv_aload_n hx hb dX4_all_1 rfl (lv_at hl 0 rfl) ?_
  refine va_get (D := (dC, dI)) (ci := 4) (v := .int (nI n)) (C := RX4) (T := TX4) (N := 12) hx hb hw in_X4 hown hK hP 0 rfl rfl 0 (by decide) (hw _ mq_fl_X4_7) (fun _ h9 => h9) rfl dX4_all_2 ?_
  refine lv_ishl hx hb dX4_all_5 ?_
  refine lv_iconst (v := 1) hx hb dX4_all_6 (by decide) ?_
  refine lv_isub hx hb dX4_all_7 ?_
  refine lv_topi (fun z9 e9 => ?_)
  obtain rfl : z9 = nI (2 ^ n - 1) := e9.trans (bi_all hn)
  exact W.iret (v := nI (2 ^ n - 1)) hx hb hr (fun t ht hW => ⟨_, rfl, rfl, ht⟩) (fun _ h => by cases h) dX4_all_8
set_option maxHeartbeats 4000000 in
set_option maxRecDepth 100000 in
theorem c_X4_isSet (l : Launch) (dC : Nat → ClassId) (dI : Nat → Nat → Nat) (cI : ClassId) (ad : Nat → Nat) (n a b : Nat) (T H R : Nat → Nat) (O Wy tr hd us nx : Nat → Int32) (n7 : n ≤ 7) (x : Int32) : Met l yX4_isSet (wq yX4_isSet cX4_isSet 2 (some .boolean)) ({ frames := 1, cells := 0, slots := 0, locals := 20 }) (ro_P (dC, dI) classes [(cI, .int)] (mw ad cI n a b T H R O Wy tr hd us nx) [.ref (ad 0), .int x]) (vp_Si (fun r => r = nI (ed_b (decide (0 ≤ x ∧ x ≤ nI (2 ^ n - 1)))))) 0 0 (fun _ => False) := by
  refine Met.ofW (cc := cX4_isSet) (maxL := 2) (ret := (some .boolean)) (by decide) rfl ?_
  intro p e s m args below meth c s₁ B hml hv
  obtain ⟨rfl, hP, hK, hN⟩ := hv
  have hx := B.exec
  have hb := B.bytes
  have hr := B.returns
  have hlocks := B.notSynchronized
  have hts := atoms_spec (ws := (wq yX4_isSet cX4_isSet 2 (some .boolean))) B.pre
  have hw : ∀ w ∈ bigW, w.before _ s = true := fun w h => hts w (List.mem_cons_of_mem _ h)
  have hown : s.vm.findClass RX4 = some m.cls := findClass_of_methodNamed B.named
  have hl := lv_entry ([.ref (ad 0), .int x]) (n := 2) (Nat.le_of_ble_eq_true rfl)
  rw [lg_entry_eq]
  generalize (lg_sl ([.ref (ad 0), .int x]) ++ List.replicate (2 - (lg_sl ([.ref (ad 0), .int x])).length) Slot.unset).toArray = ls at hl ⊢
  have hl : lv_has ls 2 [(0, .ref (ad 0)), (1, .int x)] := hl
  refine lv_iload_n hx hb dX4_isSet_0 rfl (lv_at hl 1 rfl) ?_
  refine lv_if_lt (tgt := 16) hx hb dX4_isSet_1 (by decide) (fun b1 => ?_) (fun b1 => ?_)
  -- iflt at 1, t
  · refine lv_iconst (v := 0) hx hb dX4_isSet_16 (by decide) ?_
    exact W.zret (v := 0) hx hb hr rfl (fun t ht hW => ⟨_, rfl, zb_f (fun h => absurd h.1 (i_le_lt.mpr b1)), ht⟩) (fun _ h => by cases h) dX4_isSet_17
  -- iflt at 1, f
  · refine lv_iload_n hx hb dX4_isSet_4 rfl (lv_at hl 1 rfl) ?_
    refine lv_aload_n hx hb dX4_isSet_5 rfl (lv_at hl 0 rfl) ?_
    refine ro_V (As := []) (rest := [.int x]) (b := ad 0) ⟨hx, hb, hml, hown, hts⟩ (c_X4_all l dC dI cI ad n a b T H R O Wy tr hd us nx n7) (cwV 0 hts (bw_V mq_ml_X4_41 mq_im_X4_all mq_se_X4_all mq_in_X4 mq_co_X4_all) rfl rfl rfl (by decide +kernel) ⟨Nat.le_of_ble_eq_true rfl, Nat.le_of_ble_eq_true rfl⟩) hP hK hN 0 rfl rfl rfl hl.1 rfl (Nat.le_of_ble_eq_true rfl) dX4_isSet_6 ⟨Nat.zero_le _, Nat.zero_le _⟩ (fun r9 h9 => ?_)
    obtain rfl : r9 = nI (2 ^ n - 1) := h9
    refine lv_icmp_gt (tgt := 16) hx hb dX4_isSet_9 (by decide) (fun b9 => ?_) (fun b9 => ?_)
    -- if_icmpgt at 9, t
    · refine lv_iconst (v := 0) hx hb dX4_isSet_16 (by decide) ?_
      exact W.zret (v := 0) hx hb hr rfl (fun t ht hW => ⟨_, rfl, zb_f (fun h => absurd h.2 (i_le_lt.mpr b9)), ht⟩) (fun _ h => by cases h) dX4_isSet_17
    -- if_icmpgt at 9, f
    · refine lv_iconst (v := 1) hx hb dX4_isSet_12 (by decide) ?_
      refine lv_goto (tgt := 17) hx hb dX4_isSet_13 (by decide) ?_
      exact W.zret (v := 1) hx hb hr rfl (fun t ht hW => ⟨_, rfl, zb_t ⟨i_lt_le.mp b1, i_lt_le.mp b9⟩, ht⟩) (fun _ h => by cases h) dX4_isSet_17
set_option maxHeartbeats 4000000 in
set_option maxRecDepth 100000 in
theorem c_X4_isArc (l : Launch) (dC : Nat → ClassId) (dI : Nat → Nat → Nat) (cI : ClassId) (ad : Nat → Nat) (n a b : Nat) (T H R : Nat → Nat) (O Wy tr hd us nx : Nat → Int32) (x : Int32) : Met l yX4_isArc (wq yX4_isArc cX4_isArc 2 (some .boolean)) ({ frames := 0, cells := 0, slots := 0, locals := 0 }) (ro_P (dC, dI) classes [(cI, .int)] (mw ad cI n a b T H R O Wy tr hd us nx) [.ref (ad 0), .int x]) (vp_Si (fun r => r = nI (ed_b (decide (0 ≤ x ∧ x < nI a))))) 0 0 (fun _ => False) := by
  refine Met.ofW (cc := cX4_isArc) (maxL := 2) (ret := (some .boolean)) (by decide) rfl ?_
  intro p e s m args below meth c s₁ B hml hv
  obtain ⟨rfl, hP, hK, hN⟩ := hv
  have hx := B.exec
  have hb := B.bytes
  have hr := B.returns
  have hlocks := B.notSynchronized
  have hts := atoms_spec (ws := (wq yX4_isArc cX4_isArc 2 (some .boolean))) B.pre
  have hw : ∀ w ∈ bigW, w.before _ s = true := fun w h => hts w (List.mem_cons_of_mem _ h)
  have hown : s.vm.findClass RX4 = some m.cls := findClass_of_methodNamed B.named
  have hl := lv_entry ([.ref (ad 0), .int x]) (n := 2) (Nat.le_of_ble_eq_true rfl)
  rw [lg_entry_eq]
  generalize (lg_sl ([.ref (ad 0), .int x]) ++ List.replicate (2 - (lg_sl ([.ref (ad 0), .int x])).length) Slot.unset).toArray = ls at hl ⊢
  have hl : lv_has ls 2 [(0, .ref (ad 0)), (1, .int x)] := hl
  refine lv_iload_n hx hb dX4_isArc_0 rfl (lv_at hl 1 rfl) ?_
  refine lv_if_lt (tgt := 16) hx hb dX4_isArc_1 (by decide) (fun b1 => ?_) (fun b1 => ?_)
  -- iflt at 1, t
  · refine lv_iconst (v := 0) hx hb dX4_isArc_16 (by decide) ?_
    exact W.zret (v := 0) hx hb hr rfl (fun t ht hW => ⟨_, rfl, zb_f (fun h => absurd h.1 (i_le_lt.mpr b1)), ht⟩) (fun _ h => by cases h) dX4_isArc_17
  -- iflt at 1, f
  · refine lv_iload_n hx hb dX4_isArc_4 rfl (lv_at hl 1 rfl) ?_
    refine lv_aload_n hx hb dX4_isArc_5 rfl (lv_at hl 0 rfl) ?_
    refine va_get (D := (dC, dI)) (ci := 4) (v := .int (nI a)) (C := RX4) (T := TX4) (N := 12) hx hb hw in_X4 hown hK hP 0 rfl rfl 1 (by decide) (hw _ mq_fl_X4_45) (fun _ h9 => h9) rfl dX4_isArc_6 ?_
    refine lv_icmp_ge (tgt := 16) hx hb dX4_isArc_9 (by decide) (fun b9 => ?_) (fun b9 => ?_)
    -- if_icmpge at 9, t
    · refine lv_iconst (v := 0) hx hb dX4_isArc_16 (by decide) ?_
      exact W.zret (v := 0) hx hb hr rfl (fun t ht hW => ⟨_, rfl, zb_f (fun h => absurd h.2 (i_lt_le.mpr b9)), ht⟩) (fun _ h => by cases h) dX4_isArc_17
    -- if_icmpge at 9, f
    · refine lv_iconst (v := 1) hx hb dX4_isArc_12 (by decide) ?_
      refine lv_goto (tgt := 17) hx hb dX4_isArc_13 (by decide) ?_
      exact W.zret (v := 1) hx hb hr rfl (fun t ht hW => ⟨_, rfl, zb_t ⟨i_lt_le.mp b1, i_le_lt.mp b9⟩, ht⟩) (fun _ h => by cases h) dX4_isArc_17
set_option maxHeartbeats 4000000 in
set_option maxRecDepth 100000 in
theorem c_X4_size (l : Launch) (dC : Nat → ClassId) (dI : Nat → Nat → Nat) (cI : ClassId) (ad : Nat → Nat) (n a b : Nat) (T H R : Nat → Nat) (O Wy tr hd us nx : Nat → Int32) (X : Nat) (hX : X < 128) : Met l yX4_size (wq yX4_size cX4_size 3 (some .int)) ({ frames := 1, cells := 0, slots := 0, locals := 21 }) (ro_P (dC, dI) classes [(cI, .int)] (mw ad cI n a b T H R O Wy tr hd us nx) [.int (nI X)]) (vp_Si (fun r => r = nI (or_pop X))) 0 0 (fun _ => False) := by
  refine Met.ofW (cc := cX4_size) (maxL := 3) (ret := (some .int)) (by decide) rfl ?_
  intro p e s m args below meth c s₁ B hml hv
  obtain ⟨rfl, hP, hK, hN⟩ := hv
  have hx := B.exec
  have hb := B.bytes
  have hr := B.returns
  have hlocks := B.notSynchronized
  have hts := atoms_spec (ws := (wq yX4_size cX4_size 3 (some .int))) B.pre
  have hw : ∀ w ∈ bigW, w.before _ s = true := fun w h => hts w (List.mem_cons_of_mem _ h)
  have hown : s.vm.findClass RX4 = some m.cls := findClass_of_methodNamed B.named
  have hl := lv_entry ([.int (nI X)]) (n := 3) (Nat.le_of_ble_eq_true rfl)
  rw [lg_entry_eq]
  generalize (lg_sl ([.int (nI X)]) ++ List.replicate (3 - (lg_sl ([.int (nI X)])).length) Slot.unset).toArray = ls at hl ⊢
  have hl : lv_has ls 3 [(0, .int (nI X))] := hl
  refine lv_iconst (v := nI (ed_ct (Nat.testBit X) 0)) hx hb dX4_size_0 rfl ?_
  refine lv_istore_n (lv' := [(1, .int (nI (ed_ct (Nat.testBit X) 0))), (0, .int (nI X))]) hx hb dX4_size_1 rfl hl (by decide) rfl (fun ls hl => ?_)
  refine lv_iconst (v := nI 0) hx hb dX4_size_2 (by decide) ?_
  refine lv_istore_n (lv' := [(2, .int (nI 0)), (1, .int (nI (ed_ct (Nat.testBit X) 0))), (0, .int (nI X))]) hx hb dX4_size_3 rfl hl (by decide) rfl (fun ls hl => ?_)
  refine wl_loop (fun k9 ls => ∃ (i : Nat), 7 - i = k9 ∧ (i ≤ 7) ∧ lv_has ls 3 [(0, .int (nI X)), (1, .int (nI (ed_ct (Nat.testBit X) i))), (2, .int (nI i))]) ?_ _ ⟨0, rfl, by omega, lv_sub hl [2, 1, 0] rfl⟩
  clear hl
  intro k9 ls ih9 h9
  obtain ⟨i, k9e, hi, hl⟩ := h9
  have ih_4 := ih9
  clear ih9
  subst k9e
  refine lv_iload_n hx hb dX4_size_4 rfl (lv_at hl 2 rfl) ?_
  refine lv_bipush (v := nI 7) hx hb dX4_size_5 (by decide) ?_
  refine lv_icmp_ge (tgt := 32) hx hb dX4_size_7 (by decide) (fun b7 => ?_) (fun b7 => ?_)
  -- if_icmpge at 7, t
  · have t7 := (nI_leI (by omega) (by omega)).mp b7
    have e7 : i = 7 := by omega
    refine lv_iload_n hx hb dX4_size_32 rfl (lv_at hl 1 rfl) ?_
    exact W.iret (v := nI (ed_ct (Nat.testBit X) i)) hx hb hr (fun t ht hW => ⟨_, rfl, (by rw [e7]; rfl), ht⟩) (fun _ h => by cases h) dX4_size_33
  -- if_icmpge at 7, f
  · have t7 : i < 7 := Nat.lt_of_not_le (fun z => b7 (nI_le z (by omega)))
    refine lv_iload_n hx hb dX4_size_10 rfl (lv_at hl 0 rfl) ?_
    refine lv_iload_n hx hb dX4_size_11 rfl (lv_at hl 2 rfl) ?_
    refine ro_S (As := [.int (nI X), .int (nI i)]) (rest := []) ⟨hx, hb, hml, hown, hts⟩ (c_X4_has l dC dI cI ad n a b T H R O Wy tr hd us nx X i (by omega) (by omega)) (cwS 2 hts (bw_S mq_ml_X4_48 mq_st_X4_has mq_in_X4 mq_co_X4_has) rfl rfl rfl (by decide +kernel) ⟨Nat.le_of_ble_eq_true rfl, Nat.le_of_ble_eq_true rfl⟩) hP hK hN rfl hl.1 rfl (Nat.le_of_ble_eq_true rfl) dX4_size_12 ⟨Nat.zero_le _, Nat.zero_le _⟩ (fun r9 h9 => ?_)
    obtain rfl : r9 = nI (ed_b (Nat.testBit X i)) := h9
    refine lv_if_eq (tgt := 24) hx hb dX4_size_15 (by decide) (fun b15 => ?_) (fun b15 => ?_)
    -- ifeq at 15, t
    · have t15 := zb_0.mp b15
      refine lv_iload_n hx hb dX4_size_24 rfl (lv_at hl 1 rfl) ?_
      refine lv_istore_n (lv' := [(1, .int (nI (ed_ct (Nat.testBit X) i))), (0, .int (nI X)), (2, .int (nI i))]) hx hb dX4_size_25 rfl hl (by decide) rfl (fun ls hl => ?_)
      refine lv_iinc (k := 2) (v := nI (i + 1)) (lv' := [(2, .int (nI (i + 1))), (1, .int (nI (ed_ct (Nat.testBit X) i))), (0, .int (nI X))]) hx hb dX4_size_26 hl rfl (ii_1 _) (by decide) rfl (fun ls hl => ?_)
      refine lv_goto (tgt := 4) hx hb dX4_size_29 (by decide) ?_
      have e8 : ed_ct (Nat.testBit X) (i + 1) = ed_ct (Nat.testBit X) i := by rw [ed_ct_s, t15]; rfl
      rw [← e8] at hl
      exact ih_4 _ _ (by omega) ⟨i + 1, rfl, by omega, lv_sub hl [2, 1, 0] rfl⟩
    -- ifeq at 15, f
    · have t15 := zb_n0.mp b15
      refine lv_iload_n hx hb dX4_size_18 rfl (lv_at hl 1 rfl) ?_
      refine lv_iconst (v := 1) hx hb dX4_size_19 (by decide) ?_
      refine lv_iadd hx hb dX4_size_20 ?_
      refine lv_topi (fun z9 e9 => ?_)
      obtain rfl : z9 = nI (ed_ct (Nat.testBit X) i + 1) := e9.trans (nI_1 _)
      refine lv_goto (tgt := 25) hx hb dX4_size_21 (by decide) ?_
      refine lv_istore_n (lv' := [(1, .int (nI (ed_ct (Nat.testBit X) i + 1))), (0, .int (nI X)), (2, .int (nI i))]) hx hb dX4_size_25 rfl hl (by decide) rfl (fun ls hl => ?_)
      refine lv_iinc (k := 2) (v := nI (i + 1)) (lv' := [(2, .int (nI (i + 1))), (1, .int (nI (ed_ct (Nat.testBit X) i + 1))), (0, .int (nI X))]) hx hb dX4_size_26 hl rfl (ii_1 _) (by decide) rfl (fun ls hl => ?_)
      refine lv_goto (tgt := 4) hx hb dX4_size_29 (by decide) ?_
      have e8 : ed_ct (Nat.testBit X) (i + 1) = ed_ct (Nat.testBit X) i + 1 := by rw [ed_ct_s, t15]; rfl
      rw [← e8] at hl
      exact ih_4 _ _ (by omega) ⟨i + 1, rfl, by omega, lv_sub hl [2, 1, 0] rfl⟩
set_option maxHeartbeats 4000000 in
set_option maxRecDepth 100000 in
theorem c_X4_isBefore (l : Launch) (dC : Nat → ClassId) (dI : Nat → Nat → Nat) (cI : ClassId) (ad : Nat → Nat) (n a b : Nat) (T H R : Nat → Nat) (O Wy tr hd us nx : Nat → Int32) (X Y : Nat) (hX : X < 128) (hY : Y < 128) : Met l yX4_isBefore (wq yX4_isBefore cX4_isBefore 3 (some .boolean)) ({ frames := 2, cells := 0, slots := 0, locals := 43 }) (ro_P (dC, dI) classes [(cI, .int)] (mw ad cI n a b T H R O Wy tr hd us nx) [.int (nI X), .int (nI Y)]) (vp_Si (fun r => r = nI (ed_b (or_bf X Y)))) 0 0 (fun _ => False) := by
  have zX : or_pop X ≤ 7 := ed_ct_le _ _
  have zY : or_pop Y ≤ 7 := ed_ct_le _ _
  refine Met.ofW (cc := cX4_isBefore) (maxL := 3) (ret := (some .boolean)) (by decide) rfl ?_
  intro p e s m args below meth c s₁ B hml hv
  obtain ⟨rfl, hP, hK, hN⟩ := hv
  have hx := B.exec
  have hb := B.bytes
  have hr := B.returns
  have hlocks := B.notSynchronized
  have hts := atoms_spec (ws := (wq yX4_isBefore cX4_isBefore 3 (some .boolean))) B.pre
  have hw : ∀ w ∈ bigW, w.before _ s = true := fun w h => hts w (List.mem_cons_of_mem _ h)
  have hown : s.vm.findClass RX4 = some m.cls := findClass_of_methodNamed B.named
  have hl := lv_entry ([.int (nI X), .int (nI Y)]) (n := 3) (Nat.le_of_ble_eq_true rfl)
  rw [lg_entry_eq]
  generalize (lg_sl ([.int (nI X), .int (nI Y)]) ++ List.replicate (3 - (lg_sl ([.int (nI X), .int (nI Y)])).length) Slot.unset).toArray = ls at hl ⊢
  have hl : lv_has ls 3 [(0, .int (nI X)), (1, .int (nI Y))] := hl
  refine lv_iload_n hx hb dX4_isBefore_0 rfl (lv_at hl 0 rfl) ?_
  refine ro_S (As := [.int (nI X)]) (rest := []) ⟨hx, hb, hml, hown, hts⟩ (c_X4_size l dC dI cI ad n a b T H R O Wy tr hd us nx X hX) (cwS 1 hts (bw_S mq_ml_X4_52 mq_st_X4_size mq_in_X4 mq_co_X4_size) rfl rfl rfl (by decide +kernel) ⟨Nat.le_of_ble_eq_true rfl, Nat.le_of_ble_eq_true rfl⟩) hP hK hN rfl hl.1 rfl (Nat.le_of_ble_eq_true rfl) dX4_isBefore_1 ⟨Nat.zero_le _, Nat.zero_le _⟩ (fun r9 h9 => ?_)
  obtain rfl : r9 = nI (or_pop X) := h9
  refine lv_iload_n hx hb dX4_isBefore_4 rfl (lv_at hl 1 rfl) ?_
  refine ro_S (As := [.int (nI Y)]) (rest := [.int (nI (or_pop X))]) ⟨hx, hb, hml, hown, hts⟩ (c_X4_size l dC dI cI ad n a b T H R O Wy tr hd us nx Y hY) (cwS 1 hts (bw_S mq_ml_X4_52 mq_st_X4_size mq_in_X4 mq_co_X4_size) rfl rfl rfl (by decide +kernel) ⟨Nat.le_of_ble_eq_true rfl, Nat.le_of_ble_eq_true rfl⟩) hP hK hN rfl hl.1 rfl (Nat.le_of_ble_eq_true rfl) dX4_isBefore_5 ⟨Nat.zero_le _, Nat.zero_le _⟩ (fun r9 h9 => ?_)
  obtain rfl : r9 = nI (or_pop Y) := h9
  refine lv_icmp_eq (tgt := 28) hx hb dX4_isBefore_8 (by decide) (fun b8 => ?_) (fun b8 => ?_)
  -- if_icmpeq at 8, t
  · have t8 := (nI_eq (by omega) (by omega)).mp b8
    refine lv_iconst (v := nI 0) hx hb dX4_isBefore_28 (by decide) ?_
    refine lv_istore_n (lv' := [(2, .int (nI 0)), (0, .int (nI X)), (1, .int (nI Y))]) hx hb dX4_isBefore_29 rfl hl (by decide) rfl (fun ls hl => ?_)
    refine wl_loop (fun k9 ls => ∃ (i : Nat), 7 - i = k9 ∧ (i ≤ 7) ∧ (∀ j, j < i → (X.testBit j != Y.testBit j) = false) ∧ lv_has ls 3 [(0, .int (nI X)), (1, .int (nI Y)), (2, .int (nI i))]) ?_ _ ⟨0, rfl, by omega, fun j hj => by omega, lv_sub hl [1, 2, 0] rfl⟩
    clear hl
    intro k9 ls ih9 h9
    obtain ⟨i, k9e, hi, hs, hl⟩ := h9
    have ih_30 := ih9
    clear ih9
    subst k9e
    refine lv_iload_n hx hb dX4_isBefore_30 rfl (lv_at hl 2 rfl) ?_
    refine lv_bipush (v := nI 7) hx hb dX4_isBefore_31 (by decide) ?_
    refine lv_icmp_ge (tgt := 55) hx hb dX4_isBefore_33 (by decide) (fun b33 => ?_) (fun b33 => ?_)
    -- if_icmpge at 33, t
    · have t33 := (nI_leI (by omega) (by omega)).mp b33
      have e55 : or_dif X Y = 7 := ed_fd_no (fun j hj => hs j (by omega))
      refine lv_iload_n hx hb dX4_isBefore_55 rfl (lv_at hl 2 rfl) ?_
      refine lv_bipush (v := nI 7) hx hb dX4_isBefore_56 (by decide) ?_
      refine lv_icmp_ge (tgt := 73) hx hb dX4_isBefore_58 (by decide) (fun _ => ?_) (fun b9 => absurd (nI_le (by omega) (by omega)) b9)
      refine lv_iconst (v := 0) hx hb dX4_isBefore_73 (by decide) ?_
      exact W.zret (v := 0) hx hb hr rfl (fun t ht hW => ⟨_, rfl, zb_F (by rw [or_bf, if_pos t8, e55, decide_eq_false (by omega), Bool.false_and]), ht⟩) (fun _ h => by cases h) dX4_isBefore_74
    -- if_icmpge at 33, f
    · have t33 : i < 7 := Nat.lt_of_not_le (fun z => b33 (nI_le z (by omega)))
      refine lv_iload_n hx hb dX4_isBefore_36 rfl (lv_at hl 0 rfl) ?_
      refine lv_iload_n hx hb dX4_isBefore_37 rfl (lv_at hl 2 rfl) ?_
      refine ro_S (As := [.int (nI X), .int (nI i)]) (rest := []) ⟨hx, hb, hml, hown, hts⟩ (c_X4_has l dC dI cI ad n a b T H R O Wy tr hd us nx X i (by omega) (by omega)) (cwS 2 hts (bw_S mq_ml_X4_48 mq_st_X4_has mq_in_X4 mq_co_X4_has) rfl rfl rfl (by decide +kernel) ⟨Nat.le_of_ble_eq_true rfl, Nat.le_of_ble_eq_true rfl⟩) hP hK hN rfl hl.1 rfl (Nat.le_of_ble_eq_true rfl) dX4_isBefore_38 ⟨Nat.zero_le _, Nat.zero_le _⟩ (fun r9 h9 => ?_)
      obtain rfl : r9 = nI (ed_b (Nat.testBit X i)) := h9
      refine lv_iload_n hx hb dX4_isBefore_41 rfl (lv_at hl 1 rfl) ?_
      refine lv_iload_n hx hb dX4_isBefore_42 rfl (lv_at hl 2 rfl) ?_
      refine ro_S (As := [.int (nI Y), .int (nI i)]) (rest := [.int (nI (ed_b (Nat.testBit X i)))]) ⟨hx, hb, hml, hown, hts⟩ (c_X4_has l dC dI cI ad n a b T H R O Wy tr hd us nx Y i (by omega) (by omega)) (cwS 2 hts (bw_S mq_ml_X4_48 mq_st_X4_has mq_in_X4 mq_co_X4_has) rfl rfl rfl (by decide +kernel) ⟨Nat.le_of_ble_eq_true rfl, Nat.le_of_ble_eq_true rfl⟩) hP hK hN rfl hl.1 rfl (Nat.le_of_ble_eq_true rfl) dX4_isBefore_43 ⟨Nat.zero_le _, Nat.zero_le _⟩ (fun r9 h9 => ?_)
      obtain rfl : r9 = nI (ed_b (Nat.testBit Y i)) := h9
      refine lv_icmp_ne (tgt := 55) hx hb dX4_isBefore_46 (by decide) (fun b46 => ?_) (fun b46 => ?_)
      -- if_icmpne at 46, t
      · have e55 : or_dif X Y = i := ed_fd_eq t33 (bne_iff_ne.mpr (fun z => b46 (by rw [z]))) hs
        refine lv_iload_n hx hb dX4_isBefore_55 rfl (lv_at hl 2 rfl) ?_
        refine lv_bipush (v := nI 7) hx hb dX4_isBefore_56 (by decide) ?_
        refine lv_icmp_ge (tgt := 73) hx hb dX4_isBefore_58 (by decide) (fun b9 => absurd b9 (fun z => absurd ((nI_leI (by omega) (by omega)).mp z) (by omega))) (fun _ => ?_)
        refine lv_iload_n hx hb dX4_isBefore_61 rfl (lv_at hl 0 rfl) ?_
        refine lv_iload_n hx hb dX4_isBefore_62 rfl (lv_at hl 2 rfl) ?_
        refine ro_S (As := [.int (nI X), .int (nI i)]) (rest := []) ⟨hx, hb, hml, hown, hts⟩ (c_X4_has l dC dI cI ad n a b T H R O Wy tr hd us nx X i (by omega) (by omega)) (cwS 2 hts (bw_S mq_ml_X4_48 mq_st_X4_has mq_in_X4 mq_co_X4_has) rfl rfl rfl (by decide +kernel) ⟨Nat.le_of_ble_eq_true rfl, Nat.le_of_ble_eq_true rfl⟩) hP hK hN rfl hl.1 rfl (Nat.le_of_ble_eq_true rfl) dX4_isBefore_63 ⟨Nat.zero_le _, Nat.zero_le _⟩ (fun r9 h9 => ?_)
        obtain rfl : r9 = nI (ed_b (Nat.testBit X i)) := h9
        refine lv_if_eq (tgt := 73) hx hb dX4_isBefore_66 (by decide) (fun b66 => ?_) (fun b66 => ?_)
        -- ifeq at 66, t
        · have t66 := zb_0.mp b66
          refine lv_iconst (v := 0) hx hb dX4_isBefore_73 (by decide) ?_
          exact W.zret (v := 0) hx hb hr rfl (fun t ht hW => ⟨_, rfl, zb_F (by rw [or_bf, if_pos t8, e55, t66, Bool.and_false]), ht⟩) (fun _ h => by cases h) dX4_isBefore_74
        -- ifeq at 66, f
        · have t66 := zb_n0.mp b66
          refine lv_iconst (v := 1) hx hb dX4_isBefore_69 (by decide) ?_
          refine lv_goto (tgt := 74) hx hb dX4_isBefore_70 (by decide) ?_
          exact W.zret (v := 1) hx hb hr rfl (fun t ht hW => ⟨_, rfl, zb_T (by rw [or_bf, if_pos t8, e55, decide_eq_true t33, t66]; rfl), ht⟩) (fun _ h => by cases h) dX4_isBefore_74
      -- if_icmpne at 46, f
      · refine lv_iinc (k := 2) (v := nI (i + 1)) (lv' := [(2, .int (nI (i + 1))), (0, .int (nI X)), (1, .int (nI Y))]) hx hb dX4_isBefore_49 hl rfl (ii_1 _) (by decide) rfl (fun ls hl => ?_)
        refine lv_goto (tgt := 30) hx hb dX4_isBefore_52 (by decide) ?_
        have hs2 : ∀ j, j < i + 1 → (X.testBit j != Y.testBit j) = false := by
          intro j hj
          rcases Nat.lt_or_ge j i with y3 | y3
          · exact hs j y3
          · have y4 : j = i := by omega
            rw [y4, zb_eq.mp b46]
            cases Y.testBit i <;> rfl
        exact ih_30 _ _ (by omega) ⟨i + 1, rfl, by omega, hs2, lv_sub hl [1, 2, 0] rfl⟩
  -- if_icmpeq at 8, f
  · have t8 : ¬ or_pop X = or_pop Y := fun z => b8 (by rw [z])
    refine lv_iload_n hx hb dX4_isBefore_11 rfl (lv_at hl 0 rfl) ?_
    refine ro_S (As := [.int (nI X)]) (rest := []) ⟨hx, hb, hml, hown, hts⟩ (c_X4_size l dC dI cI ad n a b T H R O Wy tr hd us nx X hX) (cwS 1 hts (bw_S mq_ml_X4_52 mq_st_X4_size mq_in_X4 mq_co_X4_size) rfl rfl rfl (by decide +kernel) ⟨Nat.le_of_ble_eq_true rfl, Nat.le_of_ble_eq_true rfl⟩) hP hK hN rfl hl.1 rfl (Nat.le_of_ble_eq_true rfl) dX4_isBefore_12 ⟨Nat.zero_le _, Nat.zero_le _⟩ (fun r9 h9 => ?_)
    obtain rfl : r9 = nI (or_pop X) := h9
    refine lv_iload_n hx hb dX4_isBefore_15 rfl (lv_at hl 1 rfl) ?_
    refine ro_S (As := [.int (nI Y)]) (rest := [.int (nI (or_pop X))]) ⟨hx, hb, hml, hown, hts⟩ (c_X4_size l dC dI cI ad n a b T H R O Wy tr hd us nx Y hY) (cwS 1 hts (bw_S mq_ml_X4_52 mq_st_X4_size mq_in_X4 mq_co_X4_size) rfl rfl rfl (by decide +kernel) ⟨Nat.le_of_ble_eq_true rfl, Nat.le_of_ble_eq_true rfl⟩) hP hK hN rfl hl.1 rfl (Nat.le_of_ble_eq_true rfl) dX4_isBefore_16 ⟨Nat.zero_le _, Nat.zero_le _⟩ (fun r9 h9 => ?_)
    obtain rfl : r9 = nI (or_pop Y) := h9
    refine lv_icmp_ge (tgt := 26) hx hb dX4_isBefore_19 (by decide) (fun b19 => ?_) (fun b19 => ?_)
    -- if_icmpge at 19, t
    · have t19 := (nI_leI (by omega) (by omega)).mp b19
      refine lv_iconst (v := 0) hx hb dX4_isBefore_26 (by decide) ?_
      exact W.zret (v := 0) hx hb hr rfl (fun t ht hW => ⟨_, rfl, zb_F (by rw [or_bf, if_neg t8, decide_eq_false (by omega)]), ht⟩) (fun _ h => by cases h) dX4_isBefore_27
    -- if_icmpge at 19, f
    · have t19 := Nat.lt_of_not_le (fun z => b19 (nI_le z (by omega)))
      refine lv_iconst (v := 1) hx hb dX4_isBefore_22 (by decide) ?_
      refine lv_goto (tgt := 27) hx hb dX4_isBefore_23 (by decide) ?_
      exact W.zret (v := 1) hx hb hr rfl (fun t ht hW => ⟨_, rfl, zb_T (by rw [or_bf, if_neg t8, decide_eq_true t19]), ht⟩) (fun _ h => by cases h) dX4_isBefore_27
set_option maxHeartbeats 4000000 in
set_option maxRecDepth 100000 in
theorem c_X4_begin (l : Launch) (dC : Nat → ClassId) (dI : Nat → Nat → Nat) (cI : ClassId) (ad : Nat → Nat) (n a b : Nat) (T H R : Nat → Nat) (O Wy tr hd us nx : Nat → Int32) (sz : Nat) (x : Int32) : Met l yX4_begin (wq yX4_begin cX4_begin 2 (some .boolean)) ({ frames := 0, cells := 0, slots := 0, locals := 0 }) (mu_P (dC, dI) classes [(cI, .int)] (mw ad cI n a b T H R O Wy tr hd us nx) sz [.ref (ad 0), .int x]) (va_Qi (fun (r : Int32) (_ : Unit) => r = (bgF x n a b).1) (mu_B (dC, dI) classes [(cI, .int)] (mw ad cI n a b T H R O Wy tr hd us nx) sz (fun _ => mw ad cI (bgF x n a b).2.1 (bgF x n a b).2.2.1 (bgF x n a b).2.2.2 T H R O Wy tr hd us nx)) (va_A (mw ad cI n a b T H R O Wy tr hd us nx) sz)) 0 0 (va_A (mw ad cI n a b T H R O Wy tr hd us nx) sz) := by
  refine Met.ofW (cc := cX4_begin) (maxL := 2) (ret := (some .boolean)) (by decide) rfl ?_
  intro p e s m args below meth c s₁ B hml hv
  obtain ⟨rfl, hsz, hP, hK, hN, hD0⟩ := hv
  have hx := B.exec
  have hb := B.bytes
  have hr := B.returns
  have hlocks := B.notSynchronized
  have hts := atoms_spec (ws := (wq yX4_begin cX4_begin 2 (some .boolean))) B.pre
  have hw : ∀ w ∈ bigW, w.before _ s = true := fun w h => hts w (List.mem_cons_of_mem _ h)
  have hown : s.vm.findClass RX4 = some m.cls := findClass_of_methodNamed B.named
  subst hsz
  have hD := hD0.self (sz := s.heap.size)
  generalize hAe : va_A (mw ad cI n a b T H R O Wy tr hd us nx) s.heap.size = A at hD ⊢
  have hA : ∀ q : Nat, s.heap.size ≤ q → A q := fun q h => by rw [← hAe]; exact Or.inr h
  have hS : va_S A s.heap s.heap [] := va_S.rf
  have hl := lv_entry ([.ref (ad 0), .int x]) (n := 2) (Nat.le_of_ble_eq_true rfl)
  rw [lg_entry_eq]
  generalize (lg_sl ([.ref (ad 0), .int x]) ++ List.replicate (2 - (lg_sl ([.ref (ad 0), .int x])).length) Slot.unset).toArray = ls at hl ⊢
  have hl : lv_has ls 2 [(0, .ref (ad 0)), (1, .int x)] := hl
  refine lv_iload_n hx hb dX4_begin_0 rfl (lv_at hl 1 rfl) ?_
  refine lv_iconst (v := 1) hx hb dX4_begin_1 (by decide) ?_
  refine lv_icmp_lt (tgt := 11) hx hb dX4_begin_2 (by decide) (fun b2 => ?_) (fun b2 => ?_)
  -- if_icmplt at 2, t
  · refine lv_iconst (v := 0) hx hb dX4_begin_11 (by decide) ?_
    have e8 : bgF x n a b = (0, n, a, b) := if_neg (fun h => absurd h.1 (i_le_lt.mpr b2))
    have hP : va_P (dC, dI) classes (mw ad cI (bgF x n a b).2.1 (bgF x n a b).2.2.1 (bgF x n a b).2.2.2 T H R O Wy tr hd us nx) s.heap := by rw [e8]; exact hP
    have hD : va_D A (mw ad cI (bgF x n a b).2.1 (bgF x n a b).2.2.1 (bgF x n a b).2.2.2 T H R O Wy tr hd us nx) := by rw [e8]; exact hD
    exact W.zret (v := 0) hx hb hr rfl (fun t ht hW => ⟨⟨_, (), rfl, by rw [e8], by rw [ht]; exact hP, va_K.moved hW.alike hK, by rw [hAe]; exact hD⟩, hS.F ht⟩) hS.2.2 dX4_begin_12
  -- if_icmplt at 2, f
  · refine lv_iload_n hx hb dX4_begin_5 rfl (lv_at hl 1 rfl) ?_
    refine lv_bipush (v := 7) hx hb dX4_begin_6 (by decide) ?_
    refine lv_icmp_le (tgt := 13) hx hb dX4_begin_8 (by decide) (fun b8 => ?_) (fun b8 => ?_)
    -- if_icmple at 8, t
    · have hv1 := i_lt_le.mp b2
      obtain ⟨v, hv, rfl⟩ := nI_of2 (x := x) (M := 7) (n := 7) (by decide) (i_lt_le.mpr (Int32.le_trans (by decide) hv1)) b8
      replace hv1 : 1 ≤ v := (nI_leI (a := 1) (by omega) (by omega)).mp hv1
      refine lv_aload_n hx hb dX4_begin_13 rfl (lv_at hl 0 rfl) ?_
      refine lv_iload_n hx hb dX4_begin_14 rfl (lv_at hl 1 rfl) ?_
      refine va_put (D := (dC, dI)) (ci := 4) (v := .int (nI v)) (ty := .int) (C := RX4) (T := TX4) (N := 12) hx hb hw in_X4 tyX4 tyX4_ok nmX4 hown hK hP hD hS 0 rfl rfl 0 (by decide) (hw _ mq_fl_X4_7) (fun _ h9 => h9) rfl (by decide +kernel) rfl rfl (Nat.le_of_ble_eq_true rfl) dX4_begin_15 (fun Hp locs hP hD hS => ?_)
      have hP : va_P (dC, dI) classes (mw ad cI v a b T H R O Wy tr hd us nx) Hp := hP
      have hD : va_D A (mw ad cI v a b T H R O Wy tr hd us nx) := hD
      refine lv_aload_n hx hb dX4_begin_18 rfl (lv_at hl 0 rfl) ?_
      refine lv_iconst (v := nI 0) hx hb dX4_begin_19 (by decide) ?_
      refine va_put (D := (dC, dI)) (ci := 4) (v := .int (nI 0)) (ty := .int) (C := RX4) (T := TX4) (N := 12) hx hb hw in_X4 tyX4 tyX4_ok nmX4 hown hK hP hD hS 0 rfl rfl 1 (by decide) (hw _ mq_fl_X4_45) (fun _ h9 => h9) rfl (by decide +kernel) rfl rfl (Nat.le_of_ble_eq_true rfl) dX4_begin_20 (fun Hp locs hP hD hS => ?_)
      have hP : va_P (dC, dI) classes (mw ad cI v 0 b T H R O Wy tr hd us nx) Hp := hP
      have hD : va_D A (mw ad cI v 0 b T H R O Wy tr hd us nx) := hD
      refine lv_aload_n hx hb dX4_begin_23 rfl (lv_at hl 0 rfl) ?_
      refine lv_iconst (v := nI 0) hx hb dX4_begin_24 (by decide) ?_
      refine va_put (D := (dC, dI)) (ci := 4) (v := .int (nI 0)) (ty := .int) (C := RX4) (T := TX4) (N := 12) hx hb hw in_X4 tyX4 tyX4_ok nmX4 hown hK hP hD hS 0 rfl rfl 2 (by decide) (hw _ mq_fl_X4_56) (fun _ h9 => h9) rfl (by decide +kernel) rfl rfl (Nat.le_of_ble_eq_true rfl) dX4_begin_25 (fun Hp locs hP hD hS => ?_)
      have hP : va_P (dC, dI) classes (mw ad cI v 0 0 T H R O Wy tr hd us nx) Hp := hP
      have hD : va_D A (mw ad cI v 0 0 T H R O Wy tr hd us nx) := hD
      refine lv_iconst (v := 1) hx hb dX4_begin_28 (by decide) ?_
      have e8 : bgF (nI v) n a b = (1, v, 0, 0) := by rw [bgF, if_pos ⟨nI_le (a := 1) hv1 (by omega), nI_le (b := 7) hv (by omega)⟩, nI_clamp (by omega)]
      have hP : va_P (dC, dI) classes (mw ad cI (bgF (nI v) n a b).2.1 (bgF (nI v) n a b).2.2.1 (bgF (nI v) n a b).2.2.2 T H R O Wy tr hd us nx) Hp := by rw [e8]; exact hP
      have hD : va_D A (mw ad cI (bgF (nI v) n a b).2.1 (bgF (nI v) n a b).2.2.1 (bgF (nI v) n a b).2.2.2 T H R O Wy tr hd us nx) := by rw [e8]; exact hD
      exact W.zret (v := 1) hx hb hr rfl (fun t ht hW => ⟨⟨_, (), rfl, by rw [e8], by rw [ht]; exact hP, va_K.moved hW.alike hK, by rw [hAe]; exact hD⟩, hS.F ht⟩) hS.2.2 dX4_begin_29
    -- if_icmple at 8, f
    · refine lv_iconst (v := 0) hx hb dX4_begin_11 (by decide) ?_
      have e8 : bgF x n a b = (0, n, a, b) := if_neg (fun h => absurd h.2 b8)
      have hP : va_P (dC, dI) classes (mw ad cI (bgF x n a b).2.1 (bgF x n a b).2.2.1 (bgF x n a b).2.2.2 T H R O Wy tr hd us nx) s.heap := by rw [e8]; exact hP
      have hD : va_D A (mw ad cI (bgF x n a b).2.1 (bgF x n a b).2.2.1 (bgF x n a b).2.2.2 T H R O Wy tr hd us nx) := by rw [e8]; exact hD
      exact W.zret (v := 0) hx hb hr rfl (fun t ht hW => ⟨⟨_, (), rfl, by rw [e8], by rw [ht]; exact hP, va_K.moved hW.alike hK, by rw [hAe]; exact hD⟩, hS.F ht⟩) hS.2.2 dX4_begin_12
set_option maxHeartbeats 4000000 in
set_option maxRecDepth 100000 in
theorem c_X4_arc (l : Launch) (dC : Nat → ClassId) (dI : Nat → Nat → Nat) (cI : ClassId) (ad : Nat → Nat) (n a b : Nat) (T H R : Nat → Nat) (O Wy tr hd us nx : Nat → Int32) (sz : Nat) (x y : Int32) (n7 : n ≤ 7) (a14 : a ≤ 14) : Met l yX4_arc (wq yX4_arc cX4_arc 3 (some .int)) ({ frames := 0, cells := 0, slots := 0, locals := 0 }) (mu_P (dC, dI) classes [(cI, .int)] (mw ad cI n a b T H R O Wy tr hd us nx) sz [.ref (ad 0), .int x, .int y]) (va_Qi (fun (r : Int32) (_ : Unit) => r = (arF n a T H x y).1) (mu_B (dC, dI) classes [(cI, .int)] (mw ad cI n a b T H R O Wy tr hd us nx) sz (fun _ => mw ad cI n (arF n a T H x y).2.1 b (arF n a T H x y).2.2.1 (arF n a T H x y).2.2.2 R O Wy tr hd us nx)) (va_A (mw ad cI n a b T H R O Wy tr hd us nx) sz)) 0 0 (va_A (mw ad cI n a b T H R O Wy tr hd us nx) sz) := by
  refine Met.ofW (cc := cX4_arc) (maxL := 3) (ret := (some .int)) (by decide) rfl ?_
  intro p e s m args below meth c s₁ B hml hv
  obtain ⟨rfl, hsz, hP, hK, hN, hD0⟩ := hv
  have hx := B.exec
  have hb := B.bytes
  have hr := B.returns
  have hlocks := B.notSynchronized
  have hts := atoms_spec (ws := (wq yX4_arc cX4_arc 3 (some .int))) B.pre
  have hw : ∀ w ∈ bigW, w.before _ s = true := fun w h => hts w (List.mem_cons_of_mem _ h)
  have hown : s.vm.findClass RX4 = some m.cls := findClass_of_methodNamed B.named
  subst hsz
  have hD := hD0.self (sz := s.heap.size)
  generalize hAe : va_A (mw ad cI n a b T H R O Wy tr hd us nx) s.heap.size = A at hD ⊢
  have hA : ∀ q : Nat, s.heap.size ≤ q → A q := fun q h => by rw [← hAe]; exact Or.inr h
  have hS : va_S A s.heap s.heap [] := va_S.rf
  have hl := lv_entry ([.ref (ad 0), .int x, .int y]) (n := 3) (Nat.le_of_ble_eq_true rfl)
  rw [lg_entry_eq]
  generalize (lg_sl ([.ref (ad 0), .int x, .int y]) ++ List.replicate (3 - (lg_sl ([.ref (ad 0), .int x, .int y])).length) Slot.unset).toArray = ls at hl ⊢
  have hl : lv_has ls 3 [(0, .ref (ad 0)), (1, .int x), (2, .int y)] := hl
  refine lv_aload_n hx hb dX4_arc_0 rfl (lv_at hl 0 rfl) ?_
  refine va_get (D := (dC, dI)) (ci := 4) (v := .int (nI a)) (C := RX4) (T := TX4) (N := 12) hx hb hw in_X4 hown hK hP 0 rfl rfl 1 (by decide) (hw _ mq_fl_X4_45) (fun _ h9 => h9) rfl dX4_arc_1 ?_
  refine lv_bipush (v := nI 14) hx hb dX4_arc_4 (by decide) ?_
  refine lv_icmp_eq (tgt := 38) hx hb dX4_arc_6 (by decide) (fun b6 => ?_) (fun b6 => ?_)
  -- if_icmpeq at 6, t
  · have t6 := (nI_eq (by omega) (by omega)).mp b6
    refine lv_iconst (v := -1) hx hb dX4_arc_38 (by decide) ?_
    have e8 : arF n a T H x y = (-1, a, T, H) := if_neg (fun h => absurd h.1 (by omega))
    have hP : va_P (dC, dI) classes (mw ad cI n (arF n a T H x y).2.1 b (arF n a T H x y).2.2.1 (arF n a T H x y).2.2.2 R O Wy tr hd us nx) s.heap := by rw [e8]; exact hP
    have hD : va_D A (mw ad cI n (arF n a T H x y).2.1 b (arF n a T H x y).2.2.1 (arF n a T H x y).2.2.2 R O Wy tr hd us nx) := by rw [e8]; exact hD
    exact W.iret (v := -1) hx hb hr (fun t ht hW => ⟨⟨_, (), rfl, by rw [e8], by rw [ht]; exact hP, va_K.moved hW.alike hK, by rw [hAe]; exact hD⟩, hS.F ht⟩) hS.2.2 dX4_arc_39
  -- if_icmpeq at 6, f
  · have z6 : ¬ a = 14 := fun z => b6 (by rw [z])
    have t6 : a < 14 := by omega
    refine lv_iload_n hx hb dX4_arc_9 rfl (lv_at hl 1 rfl) ?_
    refine lv_if_lt (tgt := 38) hx hb dX4_arc_10 (by decide) (fun b10 => ?_) (fun b10 => ?_)
    -- iflt at 10, t
    · refine lv_iconst (v := -1) hx hb dX4_arc_38 (by decide) ?_
      have e8 : arF n a T H x y = (-1, a, T, H) := if_neg (fun h => absurd h.2.1.1 (i_le_lt.mpr b10))
      have hP : va_P (dC, dI) classes (mw ad cI n (arF n a T H x y).2.1 b (arF n a T H x y).2.2.1 (arF n a T H x y).2.2.2 R O Wy tr hd us nx) s.heap := by rw [e8]; exact hP
      have hD : va_D A (mw ad cI n (arF n a T H x y).2.1 b (arF n a T H x y).2.2.1 (arF n a T H x y).2.2.2 R O Wy tr hd us nx) := by rw [e8]; exact hD
      exact W.iret (v := -1) hx hb hr (fun t ht hW => ⟨⟨_, (), rfl, by rw [e8], by rw [ht]; exact hP, va_K.moved hW.alike hK, by rw [hAe]; exact hD⟩, hS.F ht⟩) hS.2.2 dX4_arc_39
    -- iflt at 10, f
    · refine lv_iload_n hx hb dX4_arc_13 rfl (lv_at hl 2 rfl) ?_
      refine lv_if_lt (tgt := 38) hx hb dX4_arc_14 (by decide) (fun b14 => ?_) (fun b14 => ?_)
      -- iflt at 14, t
      · refine lv_iconst (v := -1) hx hb dX4_arc_38 (by decide) ?_
        have e8 : arF n a T H x y = (-1, a, T, H) := if_neg (fun h => absurd h.2.2.1.1 (i_le_lt.mpr b14))
        have hP : va_P (dC, dI) classes (mw ad cI n (arF n a T H x y).2.1 b (arF n a T H x y).2.2.1 (arF n a T H x y).2.2.2 R O Wy tr hd us nx) s.heap := by rw [e8]; exact hP
        have hD : va_D A (mw ad cI n (arF n a T H x y).2.1 b (arF n a T H x y).2.2.1 (arF n a T H x y).2.2.2 R O Wy tr hd us nx) := by rw [e8]; exact hD
        exact W.iret (v := -1) hx hb hr (fun t ht hW => ⟨⟨_, (), rfl, by rw [e8], by rw [ht]; exact hP, va_K.moved hW.alike hK, by rw [hAe]; exact hD⟩, hS.F ht⟩) hS.2.2 dX4_arc_39
      -- iflt at 14, f
      · refine lv_iload_n hx hb dX4_arc_17 rfl (lv_at hl 1 rfl) ?_
        refine lv_aload_n hx hb dX4_arc_18 rfl (lv_at hl 0 rfl) ?_
        refine va_get (D := (dC, dI)) (ci := 4) (v := .int (nI n)) (C := RX4) (T := TX4) (N := 12) hx hb hw in_X4 hown hK hP 0 rfl rfl 0 (by decide) (hw _ mq_fl_X4_7) (fun _ h9 => h9) rfl dX4_arc_19 ?_
        refine lv_icmp_ge (tgt := 38) hx hb dX4_arc_22 (by decide) (fun b22 => ?_) (fun b22 => ?_)
        -- if_icmpge at 22, t
        · refine lv_iconst (v := -1) hx hb dX4_arc_38 (by decide) ?_
          have e8 : arF n a T H x y = (-1, a, T, H) := if_neg (fun h => absurd h.2.1.2 (i_lt_le.mpr b22))
          have hP : va_P (dC, dI) classes (mw ad cI n (arF n a T H x y).2.1 b (arF n a T H x y).2.2.1 (arF n a T H x y).2.2.2 R O Wy tr hd us nx) s.heap := by rw [e8]; exact hP
          have hD : va_D A (mw ad cI n (arF n a T H x y).2.1 b (arF n a T H x y).2.2.1 (arF n a T H x y).2.2.2 R O Wy tr hd us nx) := by rw [e8]; exact hD
          exact W.iret (v := -1) hx hb hr (fun t ht hW => ⟨⟨_, (), rfl, by rw [e8], by rw [ht]; exact hP, va_K.moved hW.alike hK, by rw [hAe]; exact hD⟩, hS.F ht⟩) hS.2.2 dX4_arc_39
        -- if_icmpge at 22, f
        · refine lv_iload_n hx hb dX4_arc_25 rfl (lv_at hl 2 rfl) ?_
          refine lv_aload_n hx hb dX4_arc_26 rfl (lv_at hl 0 rfl) ?_
          refine va_get (D := (dC, dI)) (ci := 4) (v := .int (nI n)) (C := RX4) (T := TX4) (N := 12) hx hb hw in_X4 hown hK hP 0 rfl rfl 0 (by decide) (hw _ mq_fl_X4_7) (fun _ h9 => h9) rfl dX4_arc_27 ?_
          refine lv_icmp_ge (tgt := 38) hx hb dX4_arc_30 (by decide) (fun b30 => ?_) (fun b30 => ?_)
          -- if_icmpge at 30, t
          · refine lv_iconst (v := -1) hx hb dX4_arc_38 (by decide) ?_
            have e8 : arF n a T H x y = (-1, a, T, H) := if_neg (fun h => absurd h.2.2.1.2 (i_lt_le.mpr b30))
            have hP : va_P (dC, dI) classes (mw ad cI n (arF n a T H x y).2.1 b (arF n a T H x y).2.2.1 (arF n a T H x y).2.2.2 R O Wy tr hd us nx) s.heap := by rw [e8]; exact hP
            have hD : va_D A (mw ad cI n (arF n a T H x y).2.1 b (arF n a T H x y).2.2.1 (arF n a T H x y).2.2.2 R O Wy tr hd us nx) := by rw [e8]; exact hD
            exact W.iret (v := -1) hx hb hr (fun t ht hW => ⟨⟨_, (), rfl, by rw [e8], by rw [ht]; exact hP, va_K.moved hW.alike hK, by rw [hAe]; exact hD⟩, hS.F ht⟩) hS.2.2 dX4_arc_39
          -- if_icmpge at 30, f
          · refine lv_iload_n hx hb dX4_arc_33 rfl (lv_at hl 1 rfl) ?_
            refine lv_iload_n hx hb dX4_arc_34 rfl (lv_at hl 2 rfl) ?_
            refine lv_icmp_ne (tgt := 40) hx hb dX4_arc_35 (by decide) (fun b35 => ?_) (fun b35 => ?_)
            -- if_icmpne at 35, t
            · have t20 : 0 ≤ x ∧ x < nI n := ⟨i_lt_le.mp b10, i_le_lt.mp b22⟩
              have t31 : 0 ≤ y ∧ y < nI n := ⟨i_lt_le.mp b14, i_le_lt.mp b30⟩
              obtain ⟨j, hj, rfl⟩ := is_in_of t20 (by omega)
              obtain ⟨k, hk, rfl⟩ := is_in_of t31 (by omega)
              refine lv_aload_n hx hb dX4_arc_40 rfl (lv_at hl 0 rfl) ?_
              refine va_get (D := (dC, dI)) (ci := 4) (v := .ref (ad 1)) (C := RX4) (T := TX4) (N := 12) hx hb hw in_X4 hown hK hP 0 rfl rfl 3 (by decide) (hw _ mq_fl_X4_13) (fun _ h9 => h9) rfl dX4_arc_41 ?_
              refine lv_aload_n hx hb dX4_arc_44 rfl (lv_at hl 0 rfl) ?_
              refine va_get (D := (dC, dI)) (ci := 4) (v := .int (nI a)) (C := RX4) (T := TX4) (N := 12) hx hb hw in_X4 hown hK hP 0 rfl rfl 1 (by decide) (hw _ mq_fl_X4_45) (fun _ h9 => h9) rfl dX4_arc_45 ?_
              refine lv_iload_n hx hb dX4_arc_48 rfl (lv_at hl 1 rfl) ?_
              refine va_iast hx hb hK hP hD hS 1 0 rfl rfl (vp_in_nI t6 (by decide)) dX4_arc_49 (fun Hp locs hP hD hS => ?_)
              rw [nI_clamp (show a < 2 ^ 31 by omega), ar_up] at hP hD
              have hP : va_P (dC, dI) classes (mw ad cI n a b (up T a j) H R O Wy tr hd us nx) Hp := hP
              have hD : va_D A (mw ad cI n a b (up T a j) H R O Wy tr hd us nx) := hD
              refine lv_aload_n hx hb dX4_arc_50 rfl (lv_at hl 0 rfl) ?_
              refine va_get (D := (dC, dI)) (ci := 4) (v := .ref (ad 2)) (C := RX4) (T := TX4) (N := 12) hx hb hw in_X4 hown hK hP 0 rfl rfl 4 (by decide) (hw _ mq_fl_X4_17) (fun _ h9 => h9) rfl dX4_arc_51 ?_
              refine lv_aload_n hx hb dX4_arc_54 rfl (lv_at hl 0 rfl) ?_
              refine va_get (D := (dC, dI)) (ci := 4) (v := .int (nI a)) (C := RX4) (T := TX4) (N := 12) hx hb hw in_X4 hown hK hP 0 rfl rfl 1 (by decide) (hw _ mq_fl_X4_45) (fun _ h9 => h9) rfl dX4_arc_55 ?_
              refine lv_iload_n hx hb dX4_arc_58 rfl (lv_at hl 2 rfl) ?_
              refine va_iast hx hb hK hP hD hS 2 0 rfl rfl (vp_in_nI t6 (by decide)) dX4_arc_59 (fun Hp locs hP hD hS => ?_)
              rw [nI_clamp (show a < 2 ^ 31 by omega), ar_up] at hP hD
              have hP : va_P (dC, dI) classes (mw ad cI n a b (up T a j) (up H a k) R O Wy tr hd us nx) Hp := hP
              have hD : va_D A (mw ad cI n a b (up T a j) (up H a k) R O Wy tr hd us nx) := hD
              refine lv_aload_n hx hb dX4_arc_60 rfl (lv_at hl 0 rfl) ?_
              refine lv_dup hx hb dX4_arc_61 rfl ?_
              refine va_get (D := (dC, dI)) (ci := 4) (v := .int (nI a)) (C := RX4) (T := TX4) (N := 12) hx hb hw in_X4 hown hK hP 0 rfl rfl 1 (by decide) (hw _ mq_fl_X4_45) (fun _ h9 => h9) rfl dX4_arc_62 ?_
              refine lv_iconst (v := 1) hx hb dX4_arc_65 (by decide) ?_
              refine lv_iadd hx hb dX4_arc_66 ?_
              refine lv_topi (fun z9 e9 => ?_)
              obtain rfl : z9 = nI (a + 1) := e9.trans (nI_1 a)
              refine va_put (D := (dC, dI)) (ci := 4) (v := .int (nI (a + 1))) (ty := .int) (C := RX4) (T := TX4) (N := 12) hx hb hw in_X4 tyX4 tyX4_ok nmX4 hown hK hP hD hS 0 rfl rfl 1 (by decide) (hw _ mq_fl_X4_45) (fun _ h9 => h9) rfl (by decide +kernel) rfl rfl (Nat.le_of_ble_eq_true rfl) dX4_arc_67 (fun Hp locs hP hD hS => ?_)
              have hP : va_P (dC, dI) classes (mw ad cI n (a + 1) b (up T a j) (up H a k) R O Wy tr hd us nx) Hp := hP
              have hD : va_D A (mw ad cI n (a + 1) b (up T a j) (up H a k) R O Wy tr hd us nx) := hD
              refine lv_aload_n hx hb dX4_arc_70 rfl (lv_at hl 0 rfl) ?_
              refine va_get (D := (dC, dI)) (ci := 4) (v := .int (nI (a + 1))) (C := RX4) (T := TX4) (N := 12) hx hb hw in_X4 hown hK hP 0 rfl rfl 1 (by decide) (hw _ mq_fl_X4_45) (fun _ h9 => h9) rfl dX4_arc_71 ?_
              refine lv_iconst (v := 1) hx hb dX4_arc_74 (by decide) ?_
              refine lv_isub hx hb dX4_arc_75 ?_
              refine lv_topi (fun z9 e9 => ?_)
              obtain rfl : z9 = nI a := e9.trans (nI_pred a)
              have e8 : arF n a T H (nI j) (nI k) = (nI a, a + 1, up T a j, up H a k) := by rw [arF, if_pos ⟨t6, t20, t31, b35⟩, nI_clamp (by omega), nI_clamp (by omega)]
              have hP : va_P (dC, dI) classes (mw ad cI n (arF n a T H (nI j) (nI k)).2.1 b (arF n a T H (nI j) (nI k)).2.2.1 (arF n a T H (nI j) (nI k)).2.2.2 R O Wy tr hd us nx) Hp := by rw [e8]; exact hP
              have hD : va_D A (mw ad cI n (arF n a T H (nI j) (nI k)).2.1 b (arF n a T H (nI j) (nI k)).2.2.1 (arF n a T H (nI j) (nI k)).2.2.2 R O Wy tr hd us nx) := by rw [e8]; exact hD
              exact W.iret (v := nI a) hx hb hr (fun t ht hW => ⟨⟨_, (), rfl, by rw [e8], by rw [ht]; exact hP, va_K.moved hW.alike hK, by rw [hAe]; exact hD⟩, hS.F ht⟩) hS.2.2 dX4_arc_76
            -- if_icmpne at 35, f
            · refine lv_iconst (v := -1) hx hb dX4_arc_38 (by decide) ?_
              have e8 : arF n a T H x y = (-1, a, T, H) := if_neg (fun h => h.2.2.2 b35)
              have hP : va_P (dC, dI) classes (mw ad cI n (arF n a T H x y).2.1 b (arF n a T H x y).2.2.1 (arF n a T H x y).2.2.2 R O Wy tr hd us nx) s.heap := by rw [e8]; exact hP
              have hD : va_D A (mw ad cI n (arF n a T H x y).2.1 b (arF n a T H x y).2.2.1 (arF n a T H x y).2.2.2 R O Wy tr hd us nx) := by rw [e8]; exact hD
              exact W.iret (v := -1) hx hb hr (fun t ht hW => ⟨⟨_, (), rfl, by rw [e8], by rw [ht]; exact hP, va_K.moved hW.alike hK, by rw [hAe]; exact hD⟩, hS.F ht⟩) hS.2.2 dX4_arc_39
set_option maxHeartbeats 4000000 in
set_option maxRecDepth 100000 in
theorem c_X4_remove (l : Launch) (dC : Nat → ClassId) (dI : Nat → Nat → Nat) (cI : ClassId) (ad : Nat → Nat) (n a b : Nat) (T H R : Nat → Nat) (O Wy tr hd us nx : Nat → Int32) (sz : Nat) (j : Nat) (hj : j < a) (ha : a ≤ 14) : Met l yX4_remove (wq yX4_remove cX4_remove 3 none) ({ frames := 0, cells := 0, slots := 0, locals := 0 }) (mu_P (dC, dI) classes [(cI, .int)] (mw ad cI n a b T H R O Wy tr hd us nx) sz [.ref (ad 0), .int (nI j)]) (va_Qv (fun _ : Unit => True) (mu_B (dC, dI) classes [(cI, .int)] (mw ad cI n a b T H R O Wy tr hd us nx) sz (fun _ => mw ad cI n (a - 1) b (rm_f T j (a - 1)) (rm_f H j (a - 1)) R O Wy tr hd us nx)) (va_A (mw ad cI n a b T H R O Wy tr hd us nx) sz)) 0 0 (va_A (mw ad cI n a b T H R O Wy tr hd us nx) sz) := by
  refine Met.ofW (cc := cX4_remove) (maxL := 3) (ret := none) (by decide) rfl ?_
  intro p e s m args below meth c s₁ B hml hv
  obtain ⟨rfl, hsz, hP, hK, hN, hD0⟩ := hv
  have hx := B.exec
  have hb := B.bytes
  have hr := B.returns
  have hlocks := B.notSynchronized
  have hts := atoms_spec (ws := (wq yX4_remove cX4_remove 3 none)) B.pre
  have hw : ∀ w ∈ bigW, w.before _ s = true := fun w h => hts w (List.mem_cons_of_mem _ h)
  have hown : s.vm.findClass RX4 = some m.cls := findClass_of_methodNamed B.named
  subst hsz
  have hD := hD0.self (sz := s.heap.size)
  generalize hAe : va_A (mw ad cI n a b T H R O Wy tr hd us nx) s.heap.size = A at hD ⊢
  have hA : ∀ q : Nat, s.heap.size ≤ q → A q := fun q h => by rw [← hAe]; exact Or.inr h
  have hS : va_S A s.heap s.heap [] := va_S.rf
  have hl := lv_entry ([.ref (ad 0), .int (nI j)]) (n := 3) (Nat.le_of_ble_eq_true rfl)
  rw [lg_entry_eq]
  generalize (lg_sl ([.ref (ad 0), .int (nI j)]) ++ List.replicate (3 - (lg_sl ([.ref (ad 0), .int (nI j)])).length) Slot.unset).toArray = ls at hl ⊢
  have hl : lv_has ls 3 [(0, .ref (ad 0)), (1, .int (nI j))] := hl
  refine lv_aload_n hx hb dX4_remove_0 rfl (lv_at hl 0 rfl) ?_
  refine lv_dup hx hb dX4_remove_1 rfl ?_
  refine va_get (D := (dC, dI)) (ci := 4) (v := .int (nI a)) (C := RX4) (T := TX4) (N := 12) hx hb hw in_X4 hown hK hP 0 rfl rfl 1 (by decide) (hw _ mq_fl_X4_45) (fun _ h9 => h9) rfl dX4_remove_2 ?_
  refine lv_iconst (v := 1) hx hb dX4_remove_5 (by decide) ?_
  refine lv_isub hx hb dX4_remove_6 ?_
  refine lv_topi (fun z9 e9 => ?_)
  obtain rfl : z9 = nI (a - 1) := e9.trans (pk_sub (b := 1) (by omega))
  refine va_put (D := (dC, dI)) (ci := 4) (v := .int (nI (a - 1))) (ty := .int) (C := RX4) (T := TX4) (N := 12) hx hb hw in_X4 tyX4 tyX4_ok nmX4 hown hK hP hD hS 0 rfl rfl 1 (by decide) (hw _ mq_fl_X4_45) (fun _ h9 => h9) rfl (by decide +kernel) rfl rfl (Nat.le_of_ble_eq_true rfl) dX4_remove_7 (fun Hp locs hP hD hS => ?_)
  have hP : va_P (dC, dI) classes (mw ad cI n (a - 1) b T H R O Wy tr hd us nx) Hp := hP
  have hD : va_D A (mw ad cI n (a - 1) b T H R O Wy tr hd us nx) := hD
  refine lv_iload_n hx hb dX4_remove_10 rfl (lv_at hl 1 rfl) ?_
  refine lv_istore_n (lv' := [(2, .int (nI j)), (0, .ref (ad 0)), (1, .int (nI j))]) hx hb dX4_remove_11 rfl hl (by decide) rfl (fun ls hl => ?_)
  rw [← rm_0 T j, ← rm_0 H j] at hP hD
  refine wl_loopH (fun k9 Hp locs ls => ∃ (i : Nat), a - i = k9 ∧ (j ≤ i ∧ i ≤ a - 1) ∧ lv_has ls 3 [(0, .ref (ad 0)), (1, .int (nI j)), (2, .int (nI i))] ∧ va_P (dC, dI) classes (mw ad cI n (a - 1) b (rm_f T j i) (rm_f H j i) R O Wy tr hd us nx) Hp ∧ va_D A (mw ad cI n (a - 1) b (rm_f T j i) (rm_f H j i) R O Wy tr hd us nx) ∧ va_S A s.heap Hp locs) ?_ _ ⟨j, rfl, by omega, lv_sub hl [1, 2, 0] rfl, hP, hD, hS⟩
  clear hP hD hS hl
  intro k9 Hp locs ls ih9 h9
  obtain ⟨i, k9e, hi, hl, hP, hD, hS⟩ := h9
  have ih_12 := ih9
  clear ih9
  subst k9e
  refine lv_iload_n hx hb dX4_remove_12 rfl (lv_at hl 2 rfl) ?_
  refine lv_aload_n hx hb dX4_remove_13 rfl (lv_at hl 0 rfl) ?_
  refine va_get (D := (dC, dI)) (ci := 4) (v := .int (nI (a - 1))) (C := RX4) (T := TX4) (N := 12) hx hb hw in_X4 hown hK hP 0 rfl rfl 1 (by decide) (hw _ mq_fl_X4_45) (fun _ h9 => h9) rfl dX4_remove_14 ?_
  refine lv_icmp_ge (tgt := 54) hx hb dX4_remove_17 (by decide) (fun b17 => ?_) (fun b17 => ?_)
  -- if_icmpge at 17, t
  · have t17 := (nI_leI (by omega) (by omega)).mp b17
    obtain rfl : i = a - 1 := by omega
    exact W.vret hx hb hr (fun t ht hW => ⟨⟨(), rfl, trivial, by rw [ht]; exact hP, va_K.moved hW.alike hK, by rw [hAe]; exact hD⟩, hS.F ht⟩) hS.2.2 dX4_remove_54
  -- if_icmpge at 17, f
  · have t17 : i < a - 1 := Nat.lt_of_not_le (fun z => b17 (nI_le z (by omega)))
    refine lv_aload_n hx hb dX4_remove_20 rfl (lv_at hl 0 rfl) ?_
    refine va_get (D := (dC, dI)) (ci := 4) (v := .ref (ad 1)) (C := RX4) (T := TX4) (N := 12) hx hb hw in_X4 hown hK hP 0 rfl rfl 3 (by decide) (hw _ mq_fl_X4_13) (fun _ h9 => h9) rfl dX4_remove_21 ?_
    refine lv_iload_n hx hb dX4_remove_24 rfl (lv_at hl 2 rfl) ?_
    refine lv_aload_n hx hb dX4_remove_25 rfl (lv_at hl 0 rfl) ?_
    refine va_get (D := (dC, dI)) (ci := 4) (v := .ref (ad 1)) (C := RX4) (T := TX4) (N := 12) hx hb hw in_X4 hown hK hP 0 rfl rfl 3 (by decide) (hw _ mq_fl_X4_13) (fun _ h9 => h9) rfl dX4_remove_26 ?_
    refine lv_iload_n hx hb dX4_remove_29 rfl (lv_at hl 2 rfl) ?_
    refine lv_iconst (v := 1) hx hb dX4_remove_30 (by decide) ?_
    refine lv_iadd hx hb dX4_remove_31 ?_
    refine lv_topi (fun z9 e9 => ?_)
    obtain rfl : z9 = nI (i + 1) := e9.trans (nI_1 i)
    refine va_iald hx hb hK hP 1 0 rfl rfl (vp_in_nI (by omega) (by decide)) dX4_remove_32 ?_
    refine lv_topi (fun z9 e9 => ?_)
    obtain rfl : z9 = nI (rm_f T j i (i + 1)) := e9.trans (ar_at _ (by omega))
    refine va_iast hx hb hK hP hD hS 1 0 rfl rfl (vp_in_nI (by omega) (by decide)) dX4_remove_33 (fun Hp locs hP hD hS => ?_)
    rw [nI_clamp (show i < 2 ^ 31 by omega), ar_up, rm_s hi.1] at hP hD
    have hP : va_P (dC, dI) classes (mw ad cI n (a - 1) b (rm_f T j (i + 1)) (rm_f H j i) R O Wy tr hd us nx) Hp := hP
    have hD : va_D A (mw ad cI n (a - 1) b (rm_f T j (i + 1)) (rm_f H j i) R O Wy tr hd us nx) := hD
    refine lv_aload_n hx hb dX4_remove_34 rfl (lv_at hl 0 rfl) ?_
    refine va_get (D := (dC, dI)) (ci := 4) (v := .ref (ad 2)) (C := RX4) (T := TX4) (N := 12) hx hb hw in_X4 hown hK hP 0 rfl rfl 4 (by decide) (hw _ mq_fl_X4_17) (fun _ h9 => h9) rfl dX4_remove_35 ?_
    refine lv_iload_n hx hb dX4_remove_38 rfl (lv_at hl 2 rfl) ?_
    refine lv_aload_n hx hb dX4_remove_39 rfl (lv_at hl 0 rfl) ?_
    refine va_get (D := (dC, dI)) (ci := 4) (v := .ref (ad 2)) (C := RX4) (T := TX4) (N := 12) hx hb hw in_X4 hown hK hP 0 rfl rfl 4 (by decide) (hw _ mq_fl_X4_17) (fun _ h9 => h9) rfl dX4_remove_40 ?_
    refine lv_iload_n hx hb dX4_remove_43 rfl (lv_at hl 2 rfl) ?_
    refine lv_iconst (v := 1) hx hb dX4_remove_44 (by decide) ?_
    refine lv_iadd hx hb dX4_remove_45 ?_
    refine lv_topi (fun z9 e9 => ?_)
    obtain rfl : z9 = nI (i + 1) := e9.trans (nI_1 i)
    refine va_iald hx hb hK hP 2 0 rfl rfl (vp_in_nI (by omega) (by decide)) dX4_remove_46 ?_
    refine lv_topi (fun z9 e9 => ?_)
    obtain rfl : z9 = nI (rm_f H j i (i + 1)) := e9.trans (ar_at _ (by omega))
    refine va_iast hx hb hK hP hD hS 2 0 rfl rfl (vp_in_nI (by omega) (by decide)) dX4_remove_47 (fun Hp locs hP hD hS => ?_)
    rw [nI_clamp (show i < 2 ^ 31 by omega), ar_up, rm_s hi.1] at hP hD
    have hP : va_P (dC, dI) classes (mw ad cI n (a - 1) b (rm_f T j (i + 1)) (rm_f H j (i + 1)) R O Wy tr hd us nx) Hp := hP
    have hD : va_D A (mw ad cI n (a - 1) b (rm_f T j (i + 1)) (rm_f H j (i + 1)) R O Wy tr hd us nx) := hD
    refine lv_iinc (k := 2) (v := nI (i + 1)) (lv' := [(2, .int (nI (i + 1))), (0, .ref (ad 0)), (1, .int (nI j))]) hx hb dX4_remove_48 hl rfl (ii_1 _) (by decide) rfl (fun ls hl => ?_)
    refine lv_goto (tgt := 12) hx hb dX4_remove_51 (by decide) ?_
    exact ih_12 _ _ _ _ (by omega) ⟨i + 1, rfl, by omega, lv_sub hl [1, 2, 0] rfl, hP, hD, hS⟩
set_option maxHeartbeats 4000000 in
set_option maxRecDepth 100000 in
theorem c_X4_drop (l : Launch) (dC : Nat → ClassId) (dI : Nat → Nat → Nat) (cI : ClassId) (ad : Nat → Nat) (n a b : Nat) (T H R : Nat → Nat) (O Wy tr hd us nx : Nat → Int32) (sz : Nat) (x : Int32) (a14 : a ≤ 14) : Met l yX4_drop (wq yX4_drop cX4_drop 2 (some .boolean)) ({ frames := 1, cells := 0, slots := 0, locals := 22 }) (mu_P (dC, dI) classes [(cI, .int)] (mw ad cI n a b T H R O Wy tr hd us nx) sz [.ref (ad 0), .int x]) (va_Qi (fun (r : Int32) (_ : Unit) => r = (drF a T H x).1) (mu_B (dC, dI) classes [(cI, .int)] (mw ad cI n a b T H R O Wy tr hd us nx) sz (fun _ => mw ad cI n (drF a T H x).2.1 b (drF a T H x).2.2.1 (drF a T H x).2.2.2 R O Wy tr hd us nx)) (va_A (mw ad cI n a b T H R O Wy tr hd us nx) sz)) 0 0 (va_A (mw ad cI n a b T H R O Wy tr hd us nx) sz) := by
  refine Met.ofW (cc := cX4_drop) (maxL := 2) (ret := (some .boolean)) (by decide) rfl ?_
  intro p e s m args below meth c s₁ B hml hv
  obtain ⟨rfl, hsz, hP, hK, hN, hD0⟩ := hv
  have hx := B.exec
  have hb := B.bytes
  have hr := B.returns
  have hlocks := B.notSynchronized
  have hts := atoms_spec (ws := (wq yX4_drop cX4_drop 2 (some .boolean))) B.pre
  have hw : ∀ w ∈ bigW, w.before _ s = true := fun w h => hts w (List.mem_cons_of_mem _ h)
  have hown : s.vm.findClass RX4 = some m.cls := findClass_of_methodNamed B.named
  subst hsz
  have hD := hD0.self (sz := s.heap.size)
  generalize hAe : va_A (mw ad cI n a b T H R O Wy tr hd us nx) s.heap.size = A at hD ⊢
  have hA : ∀ q : Nat, s.heap.size ≤ q → A q := fun q h => by rw [← hAe]; exact Or.inr h
  have hS : va_S A s.heap s.heap [] := va_S.rf
  have hl := lv_entry ([.ref (ad 0), .int x]) (n := 2) (Nat.le_of_ble_eq_true rfl)
  rw [lg_entry_eq]
  generalize (lg_sl ([.ref (ad 0), .int x]) ++ List.replicate (2 - (lg_sl ([.ref (ad 0), .int x])).length) Slot.unset).toArray = ls at hl ⊢
  have hl : lv_has ls 2 [(0, .ref (ad 0)), (1, .int x)] := hl
  refine lv_aload_n hx hb dX4_drop_0 rfl (lv_at hl 0 rfl) ?_
  refine lv_iload_n hx hb dX4_drop_1 rfl (lv_at hl 1 rfl) ?_
  refine ro_V (As := [.int x]) (rest := []) (b := ad 0) ⟨hx, hb, hml, hown, hts⟩ (c_X4_isArc l dC dI cI ad n a b T H R O Wy tr hd us nx x) (cwV 1 hts (bw_V mq_ml_X4_59 mq_im_X4_isArc mq_se_X4_isArc mq_in_X4 mq_co_X4_isArc) rfl rfl rfl (by decide +kernel) ⟨Nat.le_of_ble_eq_true rfl, Nat.le_of_ble_eq_true rfl⟩) hP hK hN 0 rfl rfl rfl hl.1 rfl (Nat.le_of_ble_eq_true rfl) dX4_drop_2 ⟨Nat.zero_le _, Nat.zero_le _⟩ (fun r9 h9 => ?_)
  obtain rfl : r9 = nI (ed_b (decide (0 ≤ x ∧ x < nI a))) := h9
  refine lv_if_ne (tgt := 10) hx hb dX4_drop_5 (by decide) (fun b5 => ?_) (fun b5 => ?_)
  -- ifne at 5, t
  · have t5 := decide_eq_true_eq.mp (zb_n0.mp b5)
    obtain ⟨j, hj, rfl⟩ := is_in_of t5 (by omega)
    refine lv_aload_n hx hb dX4_drop_10 rfl (lv_at hl 0 rfl) ?_
    refine lv_iload_n hx hb dX4_drop_11 rfl (lv_at hl 1 rfl) ?_
    refine mu_Vv (As := [.int (nI j)]) (rest := []) (b := ad 0) ⟨hx, hb, hml, hown, hts⟩ (c_X4_remove l dC dI cI ad n a b T H R O Wy tr hd us nx _ j hj a14) (cwV 1 hts (bw_V mq_ml_X4_63 mq_im_X4_remove mq_se_X4_remove mq_in_X4 mq_co_X4_remove) rfl rfl rfl (by decide +kernel) ⟨Nat.le_of_ble_eq_true rfl, Nat.le_of_ble_eq_true rfl⟩) hP hK hN hD hS hA 0 rfl rfl rfl hl.1 rfl (Nat.le_of_ble_eq_true rfl) dX4_drop_12 ⟨Nat.zero_le _, Nat.zero_le _⟩ (fun u9 Hp locs h9 hP hD hS => ?_)
    have hP : va_P (dC, dI) classes (mw ad cI n (a - 1) b (rm_f T j (a - 1)) (rm_f H j (a - 1)) R O Wy tr hd us nx) Hp := hP
    have hD : va_D A (mw ad cI n (a - 1) b (rm_f T j (a - 1)) (rm_f H j (a - 1)) R O Wy tr hd us nx) := hD
    refine lv_iconst (v := 1) hx hb dX4_drop_15 (by decide) ?_
    have e8 : drF a T H (nI j) = (1, a - 1, rm_f T j (a - 1), rm_f H j (a - 1)) := by rw [drF, if_pos t5, nI_clamp (by omega)]
    have hP : va_P (dC, dI) classes (mw ad cI n (drF a T H (nI j)).2.1 b (drF a T H (nI j)).2.2.1 (drF a T H (nI j)).2.2.2 R O Wy tr hd us nx) Hp := by rw [e8]; exact hP
    have hD : va_D A (mw ad cI n (drF a T H (nI j)).2.1 b (drF a T H (nI j)).2.2.1 (drF a T H (nI j)).2.2.2 R O Wy tr hd us nx) := by rw [e8]; exact hD
    exact W.zret (v := 1) hx hb hr rfl (fun t ht hW => ⟨⟨_, (), rfl, by rw [e8], by rw [ht]; exact hP, va_K.moved hW.alike hK, by rw [hAe]; exact hD⟩, hS.F ht⟩) hS.2.2 dX4_drop_16
  -- ifne at 5, f
  · have t5 := decide_eq_false_iff_not.mp (zb_0.mp b5)
    refine lv_iconst (v := 0) hx hb dX4_drop_8 (by decide) ?_
    have e8 : drF a T H x = (0, a, T, H) := if_neg t5
    have hP : va_P (dC, dI) classes (mw ad cI n (drF a T H x).2.1 b (drF a T H x).2.2.1 (drF a T H x).2.2.2 R O Wy tr hd us nx) s.heap := by rw [e8]; exact hP
    have hD : va_D A (mw ad cI n (drF a T H x).2.1 b (drF a T H x).2.2.1 (drF a T H x).2.2.2 R O Wy tr hd us nx) := by rw [e8]; exact hD
    exact W.zret (v := 0) hx hb hr rfl (fun t ht hW => ⟨⟨_, (), rfl, by rw [e8], by rw [ht]; exact hP, va_K.moved hW.alike hK, by rw [hAe]; exact hD⟩, hS.F ht⟩) hS.2.2 dX4_drop_9
set_option maxHeartbeats 4000000 in
set_option maxRecDepth 100000 in
theorem c_X4_plant (l : Launch) (dC : Nat → ClassId) (dI : Nat → Nat → Nat) (cI : ClassId) (ad : Nat → Nat) (n a b : Nat) (T H R : Nat → Nat) (O Wy tr hd us nx : Nat → Int32) (sz : Nat) (x : Int32) (n7 : n ≤ 7) (hb3 : b ≤ 3) : Met l yX4_plant (wq yX4_plant cX4_plant 2 (some .int)) ({ frames := 2, cells := 0, slots := 0, locals := 41 }) (mu_P (dC, dI) classes [(cI, .int)] (mw ad cI n a b T H R O Wy tr hd us nx) sz [.ref (ad 0), .int x]) (va_Qi (fun (r : Int32) (_ : Unit) => r = (plF n b R x).1) (mu_B (dC, dI) classes [(cI, .int)] (mw ad cI n a b T H R O Wy tr hd us nx) sz (fun _ => mw ad cI n a (plF n b R x).2.1 T H (plF n b R x).2.2 O Wy tr hd us nx)) (va_A (mw ad cI n a b T H R O Wy tr hd us nx) sz)) 0 0 (va_A (mw ad cI n a b T H R O Wy tr hd us nx) sz) := by
  have p7 := bi_p7 n7
  have p0 := Nat.two_pow_pos n
  refine Met.ofW (cc := cX4_plant) (maxL := 2) (ret := (some .int)) (by decide) rfl ?_
  intro p e s m args below meth c s₁ B hml hv
  obtain ⟨rfl, hsz, hP, hK, hN, hD0⟩ := hv
  have hx := B.exec
  have hb := B.bytes
  have hr := B.returns
  have hlocks := B.notSynchronized
  have hts := atoms_spec (ws := (wq yX4_plant cX4_plant 2 (some .int))) B.pre
  have hw : ∀ w ∈ bigW, w.before _ s = true := fun w h => hts w (List.mem_cons_of_mem _ h)
  have hown : s.vm.findClass RX4 = some m.cls := findClass_of_methodNamed B.named
  subst hsz
  have hD := hD0.self (sz := s.heap.size)
  generalize hAe : va_A (mw ad cI n a b T H R O Wy tr hd us nx) s.heap.size = A at hD ⊢
  have hA : ∀ q : Nat, s.heap.size ≤ q → A q := fun q h => by rw [← hAe]; exact Or.inr h
  have hS : va_S A s.heap s.heap [] := va_S.rf
  have hl := lv_entry ([.ref (ad 0), .int x]) (n := 2) (Nat.le_of_ble_eq_true rfl)
  rw [lg_entry_eq]
  generalize (lg_sl ([.ref (ad 0), .int x]) ++ List.replicate (2 - (lg_sl ([.ref (ad 0), .int x])).length) Slot.unset).toArray = ls at hl ⊢
  have hl : lv_has ls 2 [(0, .ref (ad 0)), (1, .int x)] := hl
  refine lv_aload_n hx hb dX4_plant_0 rfl (lv_at hl 0 rfl) ?_
  refine va_get (D := (dC, dI)) (ci := 4) (v := .int (nI b)) (C := RX4) (T := TX4) (N := 12) hx hb hw in_X4 hown hK hP 0 rfl rfl 2 (by decide) (hw _ mq_fl_X4_56) (fun _ h9 => h9) rfl dX4_plant_1 ?_
  refine lv_iconst (v := nI 3) hx hb dX4_plant_4 (by decide) ?_
  refine lv_icmp_eq (tgt := 20) hx hb dX4_plant_5 (by decide) (fun b5 => ?_) (fun b5 => ?_)
  -- if_icmpeq at 5, t
  · have t5 := (nI_eq (by omega) (by omega)).mp b5
    refine lv_iconst (v := -1) hx hb dX4_plant_20 (by decide) ?_
    have e8 : plF n b R x = (-1, b, R) := if_neg (fun h => absurd h.1 (by omega))
    have hP : va_P (dC, dI) classes (mw ad cI n a (plF n b R x).2.1 T H (plF n b R x).2.2 O Wy tr hd us nx) s.heap := by rw [e8]; exact hP
    have hD : va_D A (mw ad cI n a (plF n b R x).2.1 T H (plF n b R x).2.2 O Wy tr hd us nx) := by rw [e8]; exact hD
    exact W.iret (v := -1) hx hb hr (fun t ht hW => ⟨⟨_, (), rfl, by rw [e8], by rw [ht]; exact hP, va_K.moved hW.alike hK, by rw [hAe]; exact hD⟩, hS.F ht⟩) hS.2.2 dX4_plant_21
  -- if_icmpeq at 5, f
  · have z5 : ¬ b = 3 := fun z => b5 (by rw [z])
    have t5 : b < 3 := by omega
    refine lv_iload_n hx hb dX4_plant_8 rfl (lv_at hl 1 rfl) ?_
    refine lv_if_eq (tgt := 20) hx hb dX4_plant_9 (by decide) (fun b9 => ?_) (fun b9 => ?_)
    -- ifeq at 9, t
    · refine lv_iconst (v := -1) hx hb dX4_plant_20 (by decide) ?_
      have e8 : plF n b R x = (-1, b, R) := if_neg (fun h => h.2.1 b9)
      have hP : va_P (dC, dI) classes (mw ad cI n a (plF n b R x).2.1 T H (plF n b R x).2.2 O Wy tr hd us nx) s.heap := by rw [e8]; exact hP
      have hD : va_D A (mw ad cI n a (plF n b R x).2.1 T H (plF n b R x).2.2 O Wy tr hd us nx) := by rw [e8]; exact hD
      exact W.iret (v := -1) hx hb hr (fun t ht hW => ⟨⟨_, (), rfl, by rw [e8], by rw [ht]; exact hP, va_K.moved hW.alike hK, by rw [hAe]; exact hD⟩, hS.F ht⟩) hS.2.2 dX4_plant_21
    -- ifeq at 9, f
    · refine lv_aload_n hx hb dX4_plant_12 rfl (lv_at hl 0 rfl) ?_
      refine lv_iload_n hx hb dX4_plant_13 rfl (lv_at hl 1 rfl) ?_
      refine ro_V (As := [.int x]) (rest := []) (b := ad 0) ⟨hx, hb, hml, hown, hts⟩ (c_X4_isSet l dC dI cI ad n a b T H R O Wy tr hd us nx n7 x) (cwV 1 hts (bw_V mq_ml_X4_67 mq_im_X4_isSet mq_se_X4_isSet mq_in_X4 mq_co_X4_isSet) rfl rfl rfl (by decide +kernel) ⟨Nat.le_of_ble_eq_true rfl, Nat.le_of_ble_eq_true rfl⟩) hP hK hN 0 rfl rfl rfl hl.1 rfl (Nat.le_of_ble_eq_true rfl) dX4_plant_14 ⟨Nat.zero_le _, Nat.zero_le _⟩ (fun r9 h9 => ?_)
      obtain rfl : r9 = nI (ed_b (decide (0 ≤ x ∧ x ≤ nI (2 ^ n - 1)))) := h9
      refine lv_if_ne (tgt := 22) hx hb dX4_plant_17 (by decide) (fun b17 => ?_) (fun b17 => ?_)
      -- ifne at 17, t
      · have t17 := decide_eq_true_eq.mp (zb_n0.mp b17)
        obtain ⟨X, hX, rfl⟩ := is_in_of ((is_set_in n7).mp t17) (by omega)
        refine lv_aload_n hx hb dX4_plant_22 rfl (lv_at hl 0 rfl) ?_
        refine va_get (D := (dC, dI)) (ci := 4) (v := .ref (ad 3)) (C := RX4) (T := TX4) (N := 12) hx hb hw in_X4 hown hK hP 0 rfl rfl 5 (by decide) (hw _ mq_fl_X4_20) (fun _ h9 => h9) rfl dX4_plant_23 ?_
        refine lv_aload_n hx hb dX4_plant_26 rfl (lv_at hl 0 rfl) ?_
        refine va_get (D := (dC, dI)) (ci := 4) (v := .int (nI b)) (C := RX4) (T := TX4) (N := 12) hx hb hw in_X4 hown hK hP 0 rfl rfl 2 (by decide) (hw _ mq_fl_X4_56) (fun _ h9 => h9) rfl dX4_plant_27 ?_
        refine lv_iload_n hx hb dX4_plant_30 rfl (lv_at hl 1 rfl) ?_
        refine va_iast hx hb hK hP hD hS 3 0 rfl rfl (vp_in_nI t5 (by decide)) dX4_plant_31 (fun Hp locs hP hD hS => ?_)
        rw [nI_clamp (show b < 2 ^ 31 by omega), ar_up] at hP hD
        have hP : va_P (dC, dI) classes (mw ad cI n a b T H (up R b X) O Wy tr hd us nx) Hp := hP
        have hD : va_D A (mw ad cI n a b T H (up R b X) O Wy tr hd us nx) := hD
        refine lv_aload_n hx hb dX4_plant_32 rfl (lv_at hl 0 rfl) ?_
        refine lv_dup hx hb dX4_plant_33 rfl ?_
        refine va_get (D := (dC, dI)) (ci := 4) (v := .int (nI b)) (C := RX4) (T := TX4) (N := 12) hx hb hw in_X4 hown hK hP 0 rfl rfl 2 (by decide) (hw _ mq_fl_X4_56) (fun _ h9 => h9) rfl dX4_plant_34 ?_
        refine lv_iconst (v := 1) hx hb dX4_plant_37 (by decide) ?_
        refine lv_iadd hx hb dX4_plant_38 ?_
        refine lv_topi (fun z9 e9 => ?_)
        obtain rfl : z9 = nI (b + 1) := e9.trans (nI_1 b)
        refine va_put (D := (dC, dI)) (ci := 4) (v := .int (nI (b + 1))) (ty := .int) (C := RX4) (T := TX4) (N := 12) hx hb hw in_X4 tyX4 tyX4_ok nmX4 hown hK hP hD hS 0 rfl rfl 2 (by decide) (hw _ mq_fl_X4_56) (fun _ h9 => h9) rfl (by decide +kernel) rfl rfl (Nat.le_of_ble_eq_true rfl) dX4_plant_39 (fun Hp locs hP hD hS => ?_)
        have hP : va_P (dC, dI) classes (mw ad cI n a (b + 1) T H (up R b X) O Wy tr hd us nx) Hp := hP
        have hD : va_D A (mw ad cI n a (b + 1) T H (up R b X) O Wy tr hd us nx) := hD
        refine lv_aload_n hx hb dX4_plant_42 rfl (lv_at hl 0 rfl) ?_
        refine va_get (D := (dC, dI)) (ci := 4) (v := .int (nI (b + 1))) (C := RX4) (T := TX4) (N := 12) hx hb hw in_X4 hown hK hP 0 rfl rfl 2 (by decide) (hw _ mq_fl_X4_56) (fun _ h9 => h9) rfl dX4_plant_43 ?_
        refine lv_iconst (v := 1) hx hb dX4_plant_46 (by decide) ?_
        refine lv_isub hx hb dX4_plant_47 ?_
        refine lv_topi (fun z9 e9 => ?_)
        obtain rfl : z9 = nI b := e9.trans (nI_pred b)
        have e8 : plF n b R (nI X) = (nI b, b + 1, up R b X) := by rw [plF, if_pos ⟨t5, b9, t17⟩, nI_clamp (by omega)]
        have hP : va_P (dC, dI) classes (mw ad cI n a (plF n b R (nI X)).2.1 T H (plF n b R (nI X)).2.2 O Wy tr hd us nx) Hp := by rw [e8]; exact hP
        have hD : va_D A (mw ad cI n a (plF n b R (nI X)).2.1 T H (plF n b R (nI X)).2.2 O Wy tr hd us nx) := by rw [e8]; exact hD
        exact W.iret (v := nI b) hx hb hr (fun t ht hW => ⟨⟨_, (), rfl, by rw [e8], by rw [ht]; exact hP, va_K.moved hW.alike hK, by rw [hAe]; exact hD⟩, hS.F ht⟩) hS.2.2 dX4_plant_48
      -- ifne at 17, f
      · have t17 := decide_eq_false_iff_not.mp (zb_0.mp b17)
        refine lv_iconst (v := -1) hx hb dX4_plant_20 (by decide) ?_
        have e8 : plF n b R x = (-1, b, R) := if_neg (fun h => t17 h.2.2)
        have hP : va_P (dC, dI) classes (mw ad cI n a (plF n b R x).2.1 T H (plF n b R x).2.2 O Wy tr hd us nx) s.heap := by rw [e8]; exact hP
        have hD : va_D A (mw ad cI n a (plF n b R x).2.1 T H (plF n b R x).2.2 O Wy tr hd us nx) := by rw [e8]; exact hD
        exact W.iret (v := -1) hx hb hr (fun t ht hW => ⟨⟨_, (), rfl, by rw [e8], by rw [ht]; exact hP, va_K.moved hW.alike hK, by rw [hAe]; exact hD⟩, hS.F ht⟩) hS.2.2 dX4_plant_21
set_option maxHeartbeats 4000000 in
set_option maxRecDepth 100000 in
theorem c_X4_fell (l : Launch) (dC : Nat → ClassId) (dI : Nat → Nat → Nat) (cI : ClassId) (ad : Nat → Nat) (n a b : Nat) (T H R : Nat → Nat) (O Wy tr hd us nx : Nat → Int32) (sz : Nat) (hb3 : b ≤ 3) : Met l yX4_fell (wq yX4_fell cX4_fell 1 (some .int)) ({ frames := 0, cells := 0, slots := 0, locals := 0 }) (mu_P (dC, dI) classes [(cI, .int)] (mw ad cI n a b T H R O Wy tr hd us nx) sz [.ref (ad 0)]) (va_Qi (fun (r : Int32) (_ : Unit) => r = (feF b).1) (mu_B (dC, dI) classes [(cI, .int)] (mw ad cI n a b T H R O Wy tr hd us nx) sz (fun _ => mw ad cI n a (feF b).2 T H R O Wy tr hd us nx)) (va_A (mw ad cI n a b T H R O Wy tr hd us nx) sz)) 0 0 (va_A (mw ad cI n a b T H R O Wy tr hd us nx) sz) := by
  refine Met.ofW (cc := cX4_fell) (maxL := 1) (ret := (some .int)) (by decide) rfl ?_
  intro p e s m args below meth c s₁ B hml hv
  obtain ⟨rfl, hsz, hP, hK, hN, hD0⟩ := hv
  have hx := B.exec
  have hb := B.bytes
  have hr := B.returns
  have hlocks := B.notSynchronized
  have hts := atoms_spec (ws := (wq yX4_fell cX4_fell 1 (some .int))) B.pre
  have hw : ∀ w ∈ bigW, w.before _ s = true := fun w h => hts w (List.mem_cons_of_mem _ h)
  have hown : s.vm.findClass RX4 = some m.cls := findClass_of_methodNamed B.named
  subst hsz
  have hD := hD0.self (sz := s.heap.size)
  generalize hAe : va_A (mw ad cI n a b T H R O Wy tr hd us nx) s.heap.size = A at hD ⊢
  have hA : ∀ q : Nat, s.heap.size ≤ q → A q := fun q h => by rw [← hAe]; exact Or.inr h
  have hS : va_S A s.heap s.heap [] := va_S.rf
  have hl := lv_entry ([.ref (ad 0)]) (n := 1) (Nat.le_of_ble_eq_true rfl)
  rw [lg_entry_eq]
  generalize (lg_sl ([.ref (ad 0)]) ++ List.replicate (1 - (lg_sl ([.ref (ad 0)])).length) Slot.unset).toArray = ls at hl ⊢
  have hl : lv_has ls 1 [(0, .ref (ad 0))] := hl
  refine lv_aload_n hx hb dX4_fell_0 rfl (lv_at hl 0 rfl) ?_
  refine va_get (D := (dC, dI)) (ci := 4) (v := .int (nI b)) (C := RX4) (T := TX4) (N := 12) hx hb hw in_X4 hown hK hP 0 rfl rfl 2 (by decide) (hw _ mq_fl_X4_56) (fun _ h9 => h9) rfl dX4_fell_1 ?_
  refine lv_if_ne (tgt := 9) hx hb dX4_fell_4 (by decide) (fun b4 => ?_) (fun b4 => ?_)
  -- ifne at 4, t
  · have t4 : ¬ b = 0 := fun z => b4 (by rw [z]; exact nI_0)
    refine lv_aload_n hx hb dX4_fell_9 rfl (lv_at hl 0 rfl) ?_
    refine lv_dup hx hb dX4_fell_10 rfl ?_
    refine va_get (D := (dC, dI)) (ci := 4) (v := .int (nI b)) (C := RX4) (T := TX4) (N := 12) hx hb hw in_X4 hown hK hP 0 rfl rfl 2 (by decide) (hw _ mq_fl_X4_56) (fun _ h9 => h9) rfl dX4_fell_11 ?_
    refine lv_iconst (v := 1) hx hb dX4_fell_14 (by decide) ?_
    refine lv_isub hx hb dX4_fell_15 ?_
    refine lv_topi (fun z9 e9 => ?_)
    obtain rfl : z9 = nI (b - 1) := e9.trans (pk_sub (b := 1) (by omega))
    refine va_put (D := (dC, dI)) (ci := 4) (v := .int (nI (b - 1))) (ty := .int) (C := RX4) (T := TX4) (N := 12) hx hb hw in_X4 tyX4 tyX4_ok nmX4 hown hK hP hD hS 0 rfl rfl 2 (by decide) (hw _ mq_fl_X4_56) (fun _ h9 => h9) rfl (by decide +kernel) rfl rfl (Nat.le_of_ble_eq_true rfl) dX4_fell_16 (fun Hp locs hP hD hS => ?_)
    have hP : va_P (dC, dI) classes (mw ad cI n a (b - 1) T H R O Wy tr hd us nx) Hp := hP
    have hD : va_D A (mw ad cI n a (b - 1) T H R O Wy tr hd us nx) := hD
    refine lv_aload_n hx hb dX4_fell_19 rfl (lv_at hl 0 rfl) ?_
    refine va_get (D := (dC, dI)) (ci := 4) (v := .int (nI (b - 1))) (C := RX4) (T := TX4) (N := 12) hx hb hw in_X4 hown hK hP 0 rfl rfl 2 (by decide) (hw _ mq_fl_X4_56) (fun _ h9 => h9) rfl dX4_fell_20 ?_
    have e8 : feF b = (nI (b - 1), b - 1) := if_neg t4
    have hP : va_P (dC, dI) classes (mw ad cI n a (feF b).2 T H R O Wy tr hd us nx) Hp := by rw [e8]; exact hP
    have hD : va_D A (mw ad cI n a (feF b).2 T H R O Wy tr hd us nx) := by rw [e8]; exact hD
    exact W.iret (v := nI (b - 1)) hx hb hr (fun t ht hW => ⟨⟨_, (), rfl, by rw [e8], by rw [ht]; exact hP, va_K.moved hW.alike hK, by rw [hAe]; exact hD⟩, hS.F ht⟩) hS.2.2 dX4_fell_23
  -- ifne at 4, f
  · have t4 : b = 0 := (nI_eq (by omega) (by decide)).mp (b4.trans nI_0.symm)
    refine lv_iconst (v := -1) hx hb dX4_fell_7 (by decide) ?_
    have e8 : feF b = (-1, b) := if_pos t4
    have hP : va_P (dC, dI) classes (mw ad cI n a (feF b).2 T H R O Wy tr hd us nx) s.heap := by rw [e8]; exact hP
    have hD : va_D A (mw ad cI n a (feF b).2 T H R O Wy tr hd us nx) := by rw [e8]; exact hD
    exact W.iret (v := -1) hx hb hr (fun t ht hW => ⟨⟨_, (), rfl, by rw [e8], by rw [ht]; exact hP, va_K.moved hW.alike hK, by rw [hAe]; exact hD⟩, hS.F ht⟩) hS.2.2 dX4_fell_8
set_option maxHeartbeats 4000000 in
set_option maxRecDepth 100000 in
theorem c_X4_count (l : Launch) (dC : Nat → ClassId) (dI : Nat → Nat → Nat) (cI : ClassId) (ad : Nat → Nat) (n a b : Nat) (T H R : Nat → Nat) (O Wy tr hd us nx : Nat → Int32) (x : Int32) : Met l yX4_count (wq yX4_count cX4_count 2 (some .int)) ({ frames := 0, cells := 0, slots := 0, locals := 0 }) (ro_P (dC, dI) classes [(cI, .int)] (mw ad cI n a b T H R O Wy tr hd us nx) [.ref (ad 0), .int x]) (vp_Si (fun r => r = coF n a b x)) 0 0 (fun _ => False) := by
  refine Met.ofW (cc := cX4_count) (maxL := 2) (ret := (some .int)) (by decide) rfl ?_
  intro p e s m args below meth c s₁ B hml hv
  obtain ⟨rfl, hP, hK, hN⟩ := hv
  have hx := B.exec
  have hb := B.bytes
  have hr := B.returns
  have hlocks := B.notSynchronized
  have hts := atoms_spec (ws := (wq yX4_count cX4_count 2 (some .int))) B.pre
  have hw : ∀ w ∈ bigW, w.before _ s = true := fun w h => hts w (List.mem_cons_of_mem _ h)
  have hown : s.vm.findClass RX4 = some m.cls := findClass_of_methodNamed B.named
  have hl := lv_entry ([.ref (ad 0), .int x]) (n := 2) (Nat.le_of_ble_eq_true rfl)
  rw [lg_entry_eq]
  generalize (lg_sl ([.ref (ad 0), .int x]) ++ List.replicate (2 - (lg_sl ([.ref (ad 0), .int x])).length) Slot.unset).toArray = ls at hl ⊢
  have hl : lv_has ls 2 [(0, .ref (ad 0)), (1, .int x)] := hl
  refine lv_iload_n hx hb dX4_count_0 rfl (lv_at hl 1 rfl) ?_
  refine lv_if_ne (tgt := 11) hx hb dX4_count_1 (by decide) (fun b1 => ?_) (fun b1 => ?_)
  -- ifne at 1, t
  · refine lv_iload_n hx hb dX4_count_11 rfl (lv_at hl 1 rfl) ?_
    refine lv_iconst (v := 1) hx hb dX4_count_12 (by decide) ?_
    refine lv_icmp_ne (tgt := 23) hx hb dX4_count_13 (by decide) (fun b13 => ?_) (fun b13 => ?_)
    -- if_icmpne at 13, t
    · refine lv_iload_n hx hb dX4_count_23 rfl (lv_at hl 1 rfl) ?_
      refine lv_iconst (v := 2) hx hb dX4_count_24 (by decide) ?_
      refine lv_icmp_ne (tgt := 35) hx hb dX4_count_25 (by decide) (fun b25 => ?_) (fun b25 => ?_)
      -- if_icmpne at 25, t
      · refine lv_iconst (v := -1) hx hb dX4_count_35 (by decide) ?_
        exact W.iret (v := -1) hx hb hr (fun t ht hW => ⟨_, rfl, (by rw [coF, if_neg b1, if_neg b13, if_neg b25]), ht⟩) (fun _ h => by cases h) dX4_count_36
      -- if_icmpne at 25, f
      · refine lv_aload_n hx hb dX4_count_28 rfl (lv_at hl 0 rfl) ?_
        refine va_get (D := (dC, dI)) (ci := 4) (v := .int (nI b)) (C := RX4) (T := TX4) (N := 12) hx hb hw in_X4 hown hK hP 0 rfl rfl 2 (by decide) (hw _ mq_fl_X4_56) (fun _ h9 => h9) rfl dX4_count_29 ?_
        refine lv_goto (tgt := 36) hx hb dX4_count_32 (by decide) ?_
        exact W.iret (v := nI b) hx hb hr (fun t ht hW => ⟨_, rfl, (by rw [coF, if_neg b1, if_neg b13, if_pos b25]), ht⟩) (fun _ h => by cases h) dX4_count_36
    -- if_icmpne at 13, f
    · refine lv_aload_n hx hb dX4_count_16 rfl (lv_at hl 0 rfl) ?_
      refine va_get (D := (dC, dI)) (ci := 4) (v := .int (nI a)) (C := RX4) (T := TX4) (N := 12) hx hb hw in_X4 hown hK hP 0 rfl rfl 1 (by decide) (hw _ mq_fl_X4_45) (fun _ h9 => h9) rfl dX4_count_17 ?_
      refine lv_goto (tgt := 36) hx hb dX4_count_20 (by decide) ?_
      exact W.iret (v := nI a) hx hb hr (fun t ht hW => ⟨_, rfl, (by rw [coF, if_neg b1, if_pos b13]), ht⟩) (fun _ h => by cases h) dX4_count_36
  -- ifne at 1, f
  · refine lv_aload_n hx hb dX4_count_4 rfl (lv_at hl 0 rfl) ?_
    refine va_get (D := (dC, dI)) (ci := 4) (v := .int (nI n)) (C := RX4) (T := TX4) (N := 12) hx hb hw in_X4 hown hK hP 0 rfl rfl 0 (by decide) (hw _ mq_fl_X4_7) (fun _ h9 => h9) rfl dX4_count_5 ?_
    refine lv_goto (tgt := 36) hx hb dX4_count_8 (by decide) ?_
    exact W.iret (v := nI n) hx hb hr (fun t ht hW => ⟨_, rfl, (by rw [coF, if_pos b1]), ht⟩) (fun _ h => by cases h) dX4_count_36
set_option maxHeartbeats 4000000 in
set_option maxRecDepth 100000 in
theorem c_X4_end (l : Launch) (dC : Nat → ClassId) (dI : Nat → Nat → Nat) (cI : ClassId) (ad : Nat → Nat) (n a b : Nat) (T H R : Nat → Nat) (O Wy tr hd us nx : Nat → Int32) (x y : Int32) (a14 : a ≤ 14) : Met l yX4_end (wq yX4_end cX4_end 3 (some .int)) ({ frames := 1, cells := 0, slots := 0, locals := 21 }) (ro_P (dC, dI) classes [(cI, .int)] (mw ad cI n a b T H R O Wy tr hd us nx) [.ref (ad 0), .int x, .int y]) (vp_Si (fun r => r = enF a T H x y)) 0 0 (fun _ => False) := by
  refine Met.ofW (cc := cX4_end) (maxL := 3) (ret := (some .int)) (by decide) rfl ?_
  intro p e s m args below meth c s₁ B hml hv
  obtain ⟨rfl, hP, hK, hN⟩ := hv
  have hx := B.exec
  have hb := B.bytes
  have hr := B.returns
  have hlocks := B.notSynchronized
  have hts := atoms_spec (ws := (wq yX4_end cX4_end 3 (some .int))) B.pre
  have hw : ∀ w ∈ bigW, w.before _ s = true := fun w h => hts w (List.mem_cons_of_mem _ h)
  have hown : s.vm.findClass RX4 = some m.cls := findClass_of_methodNamed B.named
  have hl := lv_entry ([.ref (ad 0), .int x, .int y]) (n := 3) (Nat.le_of_ble_eq_true rfl)
  rw [lg_entry_eq]
  generalize (lg_sl ([.ref (ad 0), .int x, .int y]) ++ List.replicate (3 - (lg_sl ([.ref (ad 0), .int x, .int y])).length) Slot.unset).toArray = ls at hl ⊢
  have hl : lv_has ls 3 [(0, .ref (ad 0)), (1, .int x), (2, .int y)] := hl
  refine lv_aload_n hx hb dX4_end_0 rfl (lv_at hl 0 rfl) ?_
  refine lv_iload_n hx hb dX4_end_1 rfl (lv_at hl 1 rfl) ?_
  refine ro_V (As := [.int x]) (rest := []) (b := ad 0) ⟨hx, hb, hml, hown, hts⟩ (c_X4_isArc l dC dI cI ad n a b T H R O Wy tr hd us nx x) (cwV 1 hts (bw_V mq_ml_X4_59 mq_im_X4_isArc mq_se_X4_isArc mq_in_X4 mq_co_X4_isArc) rfl rfl rfl (by decide +kernel) ⟨Nat.le_of_ble_eq_true rfl, Nat.le_of_ble_eq_true rfl⟩) hP hK hN 0 rfl rfl rfl hl.1 rfl (Nat.le_of_ble_eq_true rfl) dX4_end_2 ⟨Nat.zero_le _, Nat.zero_le _⟩ (fun r9 h9 => ?_)
  obtain rfl : r9 = nI (ed_b (decide (0 ≤ x ∧ x < nI a))) := h9
  refine lv_if_eq (tgt := 17) hx hb dX4_end_5 (by decide) (fun b5 => ?_) (fun b5 => ?_)
  -- ifeq at 5, t
  · have t5 := decide_eq_false_iff_not.mp (zb_0.mp b5)
    refine lv_iconst (v := -1) hx hb dX4_end_17 (by decide) ?_
    refine lv_goto (tgt := 40) hx hb dX4_end_18 (by decide) ?_
    exact W.iret (v := -1) hx hb hr (fun t ht hW => ⟨_, rfl, (by rw [enF, if_neg (fun h => t5 h.1)]), ht⟩) (fun _ h => by cases h) dX4_end_40
  -- ifeq at 5, f
  · have t5 := decide_eq_true_eq.mp (zb_n0.mp b5)
    obtain ⟨j, hj, rfl⟩ := is_in_of t5 (by omega)
    refine lv_iload_n hx hb dX4_end_8 rfl (lv_at hl 2 rfl) ?_
    refine lv_if_lt (tgt := 17) hx hb dX4_end_9 (by decide) (fun b9 => ?_) (fun b9 => ?_)
    -- iflt at 9, t
    · refine lv_iconst (v := -1) hx hb dX4_end_17 (by decide) ?_
      refine lv_goto (tgt := 40) hx hb dX4_end_18 (by decide) ?_
      exact W.iret (v := -1) hx hb hr (fun t ht hW => ⟨_, rfl, (by rw [enF, if_neg (fun h => by rcases h.2 with z | z <;> (rw [z] at b9; exact absurd b9 (by decide)))]), ht⟩) (fun _ h => by cases h) dX4_end_40
    -- iflt at 9, f
    · refine lv_iload_n hx hb dX4_end_12 rfl (lv_at hl 2 rfl) ?_
      refine lv_iconst (v := 1) hx hb dX4_end_13 (by decide) ?_
      refine lv_icmp_le (tgt := 21) hx hb dX4_end_14 (by decide) (fun b14 => ?_) (fun b14 => ?_)
      -- if_icmple at 14, t
      · refine lv_iload_n hx hb dX4_end_21 rfl (lv_at hl 2 rfl) ?_
        refine lv_if_ne (tgt := 34) hx hb dX4_end_22 (by decide) (fun b22 => ?_) (fun b22 => ?_)
        -- ifne at 22, t
        · refine lv_aload_n hx hb dX4_end_34 rfl (lv_at hl 0 rfl) ?_
          refine va_get (D := (dC, dI)) (ci := 4) (v := .ref (ad 2)) (C := RX4) (T := TX4) (N := 12) hx hb hw in_X4 hown hK hP 0 rfl rfl 4 (by decide) (hw _ mq_fl_X4_17) (fun _ h9 => h9) rfl dX4_end_35 ?_
          refine lv_iload_n hx hb dX4_end_38 rfl (lv_at hl 1 rfl) ?_
          refine va_iald hx hb hK hP 2 0 rfl rfl (vp_in_nI (by omega) (by decide)) dX4_end_39 ?_
          refine lv_topi (fun z9 e9 => ?_)
          obtain rfl : z9 = nI (H j) := e9.trans (ar_at H (by omega))
          exact W.iret (v := nI (H j)) hx hb hr (fun t ht hW => ⟨_, rfl, (by rw [enF, if_pos ⟨t5, Or.inr (y_one b9 b14 b22)⟩, if_neg b22, nI_clamp (by omega)]), ht⟩) (fun _ h => by cases h) dX4_end_40
        -- ifne at 22, f
        · refine lv_aload_n hx hb dX4_end_25 rfl (lv_at hl 0 rfl) ?_
          refine va_get (D := (dC, dI)) (ci := 4) (v := .ref (ad 1)) (C := RX4) (T := TX4) (N := 12) hx hb hw in_X4 hown hK hP 0 rfl rfl 3 (by decide) (hw _ mq_fl_X4_13) (fun _ h9 => h9) rfl dX4_end_26 ?_
          refine lv_iload_n hx hb dX4_end_29 rfl (lv_at hl 1 rfl) ?_
          refine va_iald hx hb hK hP 1 0 rfl rfl (vp_in_nI (by omega) (by decide)) dX4_end_30 ?_
          refine lv_topi (fun z9 e9 => ?_)
          obtain rfl : z9 = nI (T j) := e9.trans (ar_at T (by omega))
          refine lv_goto (tgt := 40) hx hb dX4_end_31 (by decide) ?_
          exact W.iret (v := nI (T j)) hx hb hr (fun t ht hW => ⟨_, rfl, (by rw [enF, if_pos ⟨t5, Or.inl b22⟩, if_pos b22, nI_clamp (by omega)]), ht⟩) (fun _ h => by cases h) dX4_end_40
      -- if_icmple at 14, f
      · refine lv_iconst (v := -1) hx hb dX4_end_17 (by decide) ?_
        refine lv_goto (tgt := 40) hx hb dX4_end_18 (by decide) ?_
        exact W.iret (v := -1) hx hb hr (fun t ht hW => ⟨_, rfl, (by rw [enF, if_neg (fun h => by rcases h.2 with z | z <;> (rw [z] at b14; exact b14 (by decide)))]), ht⟩) (fun _ h => by cases h) dX4_end_40
set_option maxHeartbeats 4000000 in
set_option maxRecDepth 100000 in
theorem c_X4_entryOf (l : Launch) (dC : Nat → ClassId) (dI : Nat → Nat → Nat) (cI : ClassId) (ad : Nat → Nat) (n a b : Nat) (T H R : Nat → Nat) (O Wy tr hd us nx : Nat → Int32) (X U : Nat) (a14 : a ≤ 14) (hX : X < 128) (hU : U < 2 ^ 14) (hT : ∀ i, T i < 7 ∧ H i < 7) : Met l yX4_entryOf (wq yX4_entryOf cX4_entryOf 5 (some .int)) ({ frames := 1, cells := 0, slots := 0, locals := 21 }) (ro_P (dC, dI) classes [(cI, .int)] (mw ad cI n a b T H R O Wy tr hd us nx) [.ref (ad 0), .int (nI X), .int (nI U)]) (vp_Si (fun r => r = nI (ed_rho T H a (Nat.testBit U) X))) 0 0 (fun _ => False) := by
  refine Met.ofW (cc := cX4_entryOf) (maxL := 5) (ret := (some .int)) (by decide) rfl ?_
  intro p e s m args below meth c s₁ B hml hv
  obtain ⟨rfl, hP, hK, hN⟩ := hv
  have hx := B.exec
  have hb := B.bytes
  have hr := B.returns
  have hlocks := B.notSynchronized
  have hts := atoms_spec (ws := (wq yX4_entryOf cX4_entryOf 5 (some .int))) B.pre
  have hw : ∀ w ∈ bigW, w.before _ s = true := fun w h => hts w (List.mem_cons_of_mem _ h)
  have hown : s.vm.findClass RX4 = some m.cls := findClass_of_methodNamed B.named
  have hl := lv_entry ([.ref (ad 0), .int (nI X), .int (nI U)]) (n := 5) (Nat.le_of_ble_eq_true rfl)
  rw [lg_entry_eq]
  generalize (lg_sl ([.ref (ad 0), .int (nI X), .int (nI U)]) ++ List.replicate (5 - (lg_sl ([.ref (ad 0), .int (nI X), .int (nI U)])).length) Slot.unset).toArray = ls at hl ⊢
  have hl : lv_has ls 5 [(0, .ref (ad 0)), (1, .int (nI X)), (2, .int (nI U))] := hl
  refine lv_iconst (v := nI (ed_rho T H 0 (Nat.testBit U) X)) hx hb dX4_entryOf_0 rfl ?_
  refine lv_istore_n (lv' := [(3, .int (nI (ed_rho T H 0 (Nat.testBit U) X))), (0, .ref (ad 0)), (1, .int (nI X)), (2, .int (nI U))]) hx hb dX4_entryOf_1 rfl hl (by decide) rfl (fun ls hl => ?_)
  refine lv_iconst (v := nI 0) hx hb dX4_entryOf_2 (by decide) ?_
  refine lv_istore (lv' := [(4, .int (nI 0)), (3, .int (nI (ed_rho T H 0 (Nat.testBit U) X))), (0, .ref (ad 0)), (1, .int (nI X)), (2, .int (nI U))]) hx hb dX4_entryOf_3 hl (by decide) rfl (fun ls hl => ?_)
  refine wl_loop (fun k9 ls => ∃ (i : Nat), a - i = k9 ∧ (i ≤ a) ∧ lv_has ls 5 [(0, .ref (ad 0)), (1, .int (nI X)), (2, .int (nI U)), (3, .int (nI (ed_rho T H i (Nat.testBit U) X))), (4, .int (nI i))]) ?_ _ ⟨0, rfl, by omega, lv_sub hl [2, 3, 4, 1, 0] rfl⟩
  clear hl
  intro k9 ls ih9 h9
  obtain ⟨i, k9e, hi, hl⟩ := h9
  have ih_5 := ih9
  clear ih9
  subst k9e
  refine lv_iload hx hb dX4_entryOf_5 (lv_at hl 4 rfl) ?_
  refine lv_aload_n hx hb dX4_entryOf_7 rfl (lv_at hl 0 rfl) ?_
  refine va_get (D := (dC, dI)) (ci := 4) (v := .int (nI a)) (C := RX4) (T := TX4) (N := 12) hx hb hw in_X4 hown hK hP 0 rfl rfl 1 (by decide) (hw _ mq_fl_X4_45) (fun _ h9 => h9) rfl dX4_entryOf_8 ?_
  refine lv_icmp_ge (tgt := 65) hx hb dX4_entryOf_11 (by decide) (fun b11 => ?_) (fun b11 => ?_)
  -- if_icmpge at 11, t
  · have t11 := (nI_leI (by omega) (by omega)).mp b11
    have e8 : i = a := by omega
    refine lv_iload_n hx hb dX4_entryOf_65 rfl (lv_at hl 3 rfl) ?_
    exact W.iret (v := nI (ed_rho T H i (Nat.testBit U) X)) hx hb hr (fun t ht hW => ⟨_, rfl, (by rw [e8]), ht⟩) (fun _ h => by cases h) dX4_entryOf_66
  -- if_icmpge at 11, f
  · have t11 : i < a := Nat.lt_of_not_le (fun z => b11 (nI_le z (by omega)))
    have q7 := hT i
    refine lv_iload_n hx hb dX4_entryOf_14 rfl (lv_at hl 2 rfl) ?_
    refine lv_iload hx hb dX4_entryOf_15 (lv_at hl 4 rfl) ?_
    refine ro_S (As := [.int (nI U), .int (nI i)]) (rest := []) ⟨hx, hb, hml, hown, hts⟩ (c_X4_has l dC dI cI ad n a b T H R O Wy tr hd us nx U i (by omega) (by omega)) (cwS 2 hts (bw_S mq_ml_X4_48 mq_st_X4_has mq_in_X4 mq_co_X4_has) rfl rfl rfl (by decide +kernel) ⟨Nat.le_of_ble_eq_true rfl, Nat.le_of_ble_eq_true rfl⟩) hP hK hN rfl hl.1 rfl (Nat.le_of_ble_eq_true rfl) dX4_entryOf_17 ⟨Nat.zero_le _, Nat.zero_le _⟩ (fun r9 h9 => ?_)
    obtain rfl : r9 = nI (ed_b (Nat.testBit U i)) := h9
    refine lv_if_ne (tgt := 57) hx hb dX4_entryOf_20 (by decide) (fun b20 => ?_) (fun b20 => ?_)
    -- ifne at 20, t
    · have t20 := zb_n0.mp b20
      refine lv_iload_n hx hb dX4_entryOf_57 rfl (lv_at hl 3 rfl) ?_
      refine lv_istore_n (lv' := [(3, .int (nI (ed_rho T H i (Nat.testBit U) X))), (0, .ref (ad 0)), (1, .int (nI X)), (2, .int (nI U)), (4, .int (nI i))]) hx hb dX4_entryOf_58 rfl hl (by decide) rfl (fun ls hl => ?_)
      refine lv_iinc (k := 4) (v := nI (i + 1)) (lv' := [(4, .int (nI (i + 1))), (3, .int (nI (ed_rho T H i (Nat.testBit U) X))), (0, .ref (ad 0)), (1, .int (nI X)), (2, .int (nI U))]) hx hb dX4_entryOf_59 hl rfl (ii_1 _) (by decide) rfl (fun ls hl => ?_)
      refine lv_goto (tgt := 5) hx hb dX4_entryOf_62 (by decide) ?_
      have e9 : ed_rho T H (i + 1) (Nat.testBit U) X = ed_rho T H i (Nat.testBit U) X := by rw [ed_rho_s, t20]; rfl
      rw [← e9] at hl
      exact ih_5 _ _ (by omega) ⟨i + 1, rfl, by omega, lv_sub hl [2, 3, 4, 1, 0] rfl⟩
    -- ifne at 20, f
    · have t20 := zb_0.mp b20
      refine lv_iload_n hx hb dX4_entryOf_23 rfl (lv_at hl 1 rfl) ?_
      refine lv_aload_n hx hb dX4_entryOf_24 rfl (lv_at hl 0 rfl) ?_
      refine va_get (D := (dC, dI)) (ci := 4) (v := .ref (ad 2)) (C := RX4) (T := TX4) (N := 12) hx hb hw in_X4 hown hK hP 0 rfl rfl 4 (by decide) (hw _ mq_fl_X4_17) (fun _ h9 => h9) rfl dX4_entryOf_25 ?_
      refine lv_iload hx hb dX4_entryOf_28 (lv_at hl 4 rfl) ?_
      refine va_iald hx hb hK hP 2 0 rfl rfl (vp_in_nI (by omega) (by decide)) dX4_entryOf_30 ?_
      refine lv_topi (fun z9 e9 => ?_)
      obtain rfl : z9 = nI (H i) := e9.trans (ar_at H (by omega))
      refine ro_S (As := [.int (nI X), .int (nI (H i))]) (rest := []) ⟨hx, hb, hml, hown, hts⟩ (c_X4_has l dC dI cI ad n a b T H R O Wy tr hd us nx X (H i) (by omega) (by omega)) (cwS 2 hts (bw_S mq_ml_X4_48 mq_st_X4_has mq_in_X4 mq_co_X4_has) rfl rfl rfl (by decide +kernel) ⟨Nat.le_of_ble_eq_true rfl, Nat.le_of_ble_eq_true rfl⟩) hP hK hN rfl hl.1 rfl (Nat.le_of_ble_eq_true rfl) dX4_entryOf_31 ⟨Nat.zero_le _, Nat.zero_le _⟩ (fun r9 h9 => ?_)
      obtain rfl : r9 = nI (ed_b (Nat.testBit X (H i))) := h9
      refine lv_if_eq (tgt := 57) hx hb dX4_entryOf_34 (by decide) (fun b34 => ?_) (fun b34 => ?_)
      -- ifeq at 34, t
      · have t34 := zb_0.mp b34
        refine lv_iload_n hx hb dX4_entryOf_57 rfl (lv_at hl 3 rfl) ?_
        refine lv_istore_n (lv' := [(3, .int (nI (ed_rho T H i (Nat.testBit U) X))), (0, .ref (ad 0)), (1, .int (nI X)), (2, .int (nI U)), (4, .int (nI i))]) hx hb dX4_entryOf_58 rfl hl (by decide) rfl (fun ls hl => ?_)
        refine lv_iinc (k := 4) (v := nI (i + 1)) (lv' := [(4, .int (nI (i + 1))), (3, .int (nI (ed_rho T H i (Nat.testBit U) X))), (0, .ref (ad 0)), (1, .int (nI X)), (2, .int (nI U))]) hx hb dX4_entryOf_59 hl rfl (ii_1 _) (by decide) rfl (fun ls hl => ?_)
        refine lv_goto (tgt := 5) hx hb dX4_entryOf_62 (by decide) ?_
        have e9 : ed_rho T H (i + 1) (Nat.testBit U) X = ed_rho T H i (Nat.testBit U) X := by rw [ed_rho_s, ed_en, t34, Bool.false_and, Bool.and_false]; rfl
        rw [← e9] at hl
        exact ih_5 _ _ (by omega) ⟨i + 1, rfl, by omega, lv_sub hl [2, 3, 4, 1, 0] rfl⟩
      -- ifeq at 34, f
      · have t34 := zb_n0.mp b34
        refine lv_iload_n hx hb dX4_entryOf_37 rfl (lv_at hl 1 rfl) ?_
        refine lv_aload_n hx hb dX4_entryOf_38 rfl (lv_at hl 0 rfl) ?_
        refine va_get (D := (dC, dI)) (ci := 4) (v := .ref (ad 1)) (C := RX4) (T := TX4) (N := 12) hx hb hw in_X4 hown hK hP 0 rfl rfl 3 (by decide) (hw _ mq_fl_X4_13) (fun _ h9 => h9) rfl dX4_entryOf_39 ?_
        refine lv_iload hx hb dX4_entryOf_42 (lv_at hl 4 rfl) ?_
        refine va_iald hx hb hK hP 1 0 rfl rfl (vp_in_nI (by omega) (by decide)) dX4_entryOf_44 ?_
        refine lv_topi (fun z9 e9 => ?_)
        obtain rfl : z9 = nI (T i) := e9.trans (ar_at T (by omega))
        refine ro_S (As := [.int (nI X), .int (nI (T i))]) (rest := []) ⟨hx, hb, hml, hown, hts⟩ (c_X4_has l dC dI cI ad n a b T H R O Wy tr hd us nx X (T i) (by omega) (by omega)) (cwS 2 hts (bw_S mq_ml_X4_48 mq_st_X4_has mq_in_X4 mq_co_X4_has) rfl rfl rfl (by decide +kernel) ⟨Nat.le_of_ble_eq_true rfl, Nat.le_of_ble_eq_true rfl⟩) hP hK hN rfl hl.1 rfl (Nat.le_of_ble_eq_true rfl) dX4_entryOf_45 ⟨Nat.zero_le _, Nat.zero_le _⟩ (fun r9 h9 => ?_)
        obtain rfl : r9 = nI (ed_b (Nat.testBit X (T i))) := h9
        refine lv_if_ne (tgt := 57) hx hb dX4_entryOf_48 (by decide) (fun b48 => ?_) (fun b48 => ?_)
        -- ifne at 48, t
        · have t48 := zb_n0.mp b48
          refine lv_iload_n hx hb dX4_entryOf_57 rfl (lv_at hl 3 rfl) ?_
          refine lv_istore_n (lv' := [(3, .int (nI (ed_rho T H i (Nat.testBit U) X))), (0, .ref (ad 0)), (1, .int (nI X)), (2, .int (nI U)), (4, .int (nI i))]) hx hb dX4_entryOf_58 rfl hl (by decide) rfl (fun ls hl => ?_)
          refine lv_iinc (k := 4) (v := nI (i + 1)) (lv' := [(4, .int (nI (i + 1))), (3, .int (nI (ed_rho T H i (Nat.testBit U) X))), (0, .ref (ad 0)), (1, .int (nI X)), (2, .int (nI U))]) hx hb dX4_entryOf_59 hl rfl (ii_1 _) (by decide) rfl (fun ls hl => ?_)
          refine lv_goto (tgt := 5) hx hb dX4_entryOf_62 (by decide) ?_
          have e9 : ed_rho T H (i + 1) (Nat.testBit U) X = ed_rho T H i (Nat.testBit U) X := by rw [ed_rho_s, ed_en, t48, Bool.not_true, Bool.and_false, Bool.and_false]; rfl
          rw [← e9] at hl
          exact ih_5 _ _ (by omega) ⟨i + 1, rfl, by omega, lv_sub hl [2, 3, 4, 1, 0] rfl⟩
        -- ifne at 48, f
        · have t48 := zb_0.mp b48
          refine lv_iload_n hx hb dX4_entryOf_51 rfl (lv_at hl 3 rfl) ?_
          refine lv_iconst (v := 1) hx hb dX4_entryOf_52 (by decide) ?_
          refine lv_iadd hx hb dX4_entryOf_53 ?_
          refine lv_topi (fun z9 e9 => ?_)
          obtain rfl : z9 = nI (ed_rho T H i (Nat.testBit U) X + 1) := e9.trans (nI_1 _)
          refine lv_goto (tgt := 58) hx hb dX4_entryOf_54 (by decide) ?_
          refine lv_istore_n (lv' := [(3, .int (nI (ed_rho T H i (Nat.testBit U) X + 1))), (0, .ref (ad 0)), (1, .int (nI X)), (2, .int (nI U)), (4, .int (nI i))]) hx hb dX4_entryOf_58 rfl hl (by decide) rfl (fun ls hl => ?_)
          refine lv_iinc (k := 4) (v := nI (i + 1)) (lv' := [(4, .int (nI (i + 1))), (3, .int (nI (ed_rho T H i (Nat.testBit U) X + 1))), (0, .ref (ad 0)), (1, .int (nI X)), (2, .int (nI U))]) hx hb dX4_entryOf_59 hl rfl (ii_1 _) (by decide) rfl (fun ls hl => ?_)
          refine lv_goto (tgt := 5) hx hb dX4_entryOf_62 (by decide) ?_
          have e9 : ed_rho T H (i + 1) (Nat.testBit U) X = ed_rho T H i (Nat.testBit U) X + 1 := by rw [ed_rho_s, ed_en, t20, t34, t48]; rfl
          rw [← e9] at hl
          exact ih_5 _ _ (by omega) ⟨i + 1, rfl, by omega, lv_sub hl [2, 3, 4, 1, 0] rfl⟩
set_option maxHeartbeats 4000000 in
set_option maxRecDepth 100000 in
theorem c_X4_entry (l : Launch) (dC : Nat → ClassId) (dI : Nat → Nat → Nat) (cI : ClassId) (ad : Nat → Nat) (n a b : Nat) (T H R : Nat → Nat) (O Wy tr hd us nx : Nat → Int32) (x : Int32) (n7 : n ≤ 7) (a14 : a ≤ 14) (hT : ∀ i, T i < 7 ∧ H i < 7) : Met l yX4_entry (wq yX4_entry cX4_entry 2 (some .int)) ({ frames := 2, cells := 0, slots := 0, locals := 45 }) (ro_P (dC, dI) classes [(cI, .int)] (mw ad cI n a b T H R O Wy tr hd us nx) [.ref (ad 0), .int x]) (vp_Si (fun r => r = etF n a T H x)) 0 0 (fun _ => False) := by
  have p7 := bi_p7 n7
  have p0 := Nat.two_pow_pos n
  refine Met.ofW (cc := cX4_entry) (maxL := 2) (ret := (some .int)) (by decide) rfl ?_
  intro p e s m args below meth c s₁ B hml hv
  obtain ⟨rfl, hP, hK, hN⟩ := hv
  have hx := B.exec
  have hb := B.bytes
  have hr := B.returns
  have hlocks := B.notSynchronized
  have hts := atoms_spec (ws := (wq yX4_entry cX4_entry 2 (some .int))) B.pre
  have hw : ∀ w ∈ bigW, w.before _ s = true := fun w h => hts w (List.mem_cons_of_mem _ h)
  have hown : s.vm.findClass RX4 = some m.cls := findClass_of_methodNamed B.named
  have hl := lv_entry ([.ref (ad 0), .int x]) (n := 2) (Nat.le_of_ble_eq_true rfl)
  rw [lg_entry_eq]
  generalize (lg_sl ([.ref (ad 0), .int x]) ++ List.replicate (2 - (lg_sl ([.ref (ad 0), .int x])).length) Slot.unset).toArray = ls at hl ⊢
  have hl : lv_has ls 2 [(0, .ref (ad 0)), (1, .int x)] := hl
  refine lv_aload_n hx hb dX4_entry_0 rfl (lv_at hl 0 rfl) ?_
  refine lv_iload_n hx hb dX4_entry_1 rfl (lv_at hl 1 rfl) ?_
  refine ro_V (As := [.int x]) (rest := []) (b := ad 0) ⟨hx, hb, hml, hown, hts⟩ (c_X4_isSet l dC dI cI ad n a b T H R O Wy tr hd us nx n7 x) (cwV 1 hts (bw_V mq_ml_X4_67 mq_im_X4_isSet mq_se_X4_isSet mq_in_X4 mq_co_X4_isSet) rfl rfl rfl (by decide +kernel) ⟨Nat.le_of_ble_eq_true rfl, Nat.le_of_ble_eq_true rfl⟩) hP hK hN 0 rfl rfl rfl hl.1 rfl (Nat.le_of_ble_eq_true rfl) dX4_entry_2 ⟨Nat.zero_le _, Nat.zero_le _⟩ (fun r9 h9 => ?_)
  obtain rfl : r9 = nI (ed_b (decide (0 ≤ x ∧ x ≤ nI (2 ^ n - 1)))) := h9
  refine lv_if_eq (tgt := 17) hx hb dX4_entry_5 (by decide) (fun b5 => ?_) (fun b5 => ?_)
  -- ifeq at 5, t
  · have t5 := decide_eq_false_iff_not.mp (zb_0.mp b5)
    refine lv_iconst (v := -1) hx hb dX4_entry_17 (by decide) ?_
    exact W.iret (v := -1) hx hb hr (fun t ht hW => ⟨_, rfl, (by rw [etF, if_neg t5]), ht⟩) (fun _ h => by cases h) dX4_entry_18
  -- ifeq at 5, f
  · have t5 := decide_eq_true_eq.mp (zb_n0.mp b5)
    obtain ⟨X, hX, rfl⟩ := is_in_of ((is_set_in n7).mp t5) (by omega)
    refine lv_aload_n hx hb dX4_entry_8 rfl (lv_at hl 0 rfl) ?_
    refine lv_iload_n hx hb dX4_entry_9 rfl (lv_at hl 1 rfl) ?_
    refine lv_iconst (v := nI 0) hx hb dX4_entry_10 (by decide) ?_
    refine ro_V (As := [.int (nI X), .int (nI 0)]) (rest := []) (b := ad 0) ⟨hx, hb, hml, hown, hts⟩ (c_X4_entryOf l dC dI cI ad n a b T H R O Wy tr hd us nx X 0 a14 (by omega) (by decide) hT) (cwV 2 hts (bw_V mq_ml_X4_70 mq_im_X4_entryOf mq_se_X4_entryOf mq_in_X4 mq_co_X4_entryOf) rfl rfl rfl (by decide +kernel) ⟨Nat.le_of_ble_eq_true rfl, Nat.le_of_ble_eq_true rfl⟩) hP hK hN 0 rfl rfl rfl hl.1 rfl (Nat.le_of_ble_eq_true rfl) dX4_entry_11 ⟨Nat.zero_le _, Nat.zero_le _⟩ (fun r9 h9 => ?_)
    obtain rfl : r9 = nI (rho0 T H a X) := h9.trans (by rw [tb_0]; rfl)
    refine lv_goto (tgt := 18) hx hb dX4_entry_14 (by decide) ?_
    exact W.iret (v := nI (rho0 T H a X)) hx hb hr (fun t ht hW => ⟨_, rfl, (by rw [etF, if_pos t5, nI_clamp (by omega)]), ht⟩) (fun _ h => by cases h) dX4_entry_18
set_option maxHeartbeats 4000000 in
set_option maxRecDepth 100000 in
theorem c_X4_missed (l : Launch) (dC : Nat → ClassId) (dI : Nat → Nat → Nat) (cI : ClassId) (ad : Nat → Nat) (n a b : Nat) (T H R : Nat → Nat) (O Wy tr hd us nx : Nat → Int32) (x : Int32) (n7 : n ≤ 7) (hb3 : b ≤ 3) (hR : ∀ k, R k < 128) : Met l yX4_missed (wq yX4_missed cX4_missed 4 (some .int)) ({ frames := 2, cells := 0, slots := 0, locals := 41 }) (ro_P (dC, dI) classes [(cI, .int)] (mw ad cI n a b T H R O Wy tr hd us nx) [.ref (ad 0), .int x]) (vp_Si (fun r => r = miF n b R x)) 0 0 (fun _ => False) := by
  have p7 := bi_p7 n7
  have p0 := Nat.two_pow_pos n
  refine Met.ofW (cc := cX4_missed) (maxL := 4) (ret := (some .int)) (by decide) rfl ?_
  intro p e s m args below meth c s₁ B hml hv
  obtain ⟨rfl, hP, hK, hN⟩ := hv
  have hx := B.exec
  have hb := B.bytes
  have hr := B.returns
  have hlocks := B.notSynchronized
  have hts := atoms_spec (ws := (wq yX4_missed cX4_missed 4 (some .int))) B.pre
  have hw : ∀ w ∈ bigW, w.before _ s = true := fun w h => hts w (List.mem_cons_of_mem _ h)
  have hown : s.vm.findClass RX4 = some m.cls := findClass_of_methodNamed B.named
  have hl := lv_entry ([.ref (ad 0), .int x]) (n := 4) (Nat.le_of_ble_eq_true rfl)
  rw [lg_entry_eq]
  generalize (lg_sl ([.ref (ad 0), .int x]) ++ List.replicate (4 - (lg_sl ([.ref (ad 0), .int x])).length) Slot.unset).toArray = ls at hl ⊢
  have hl : lv_has ls 4 [(0, .ref (ad 0)), (1, .int x)] := hl
  refine lv_aload_n hx hb dX4_missed_0 rfl (lv_at hl 0 rfl) ?_
  refine lv_iload_n hx hb dX4_missed_1 rfl (lv_at hl 1 rfl) ?_
  refine ro_V (As := [.int x]) (rest := []) (b := ad 0) ⟨hx, hb, hml, hown, hts⟩ (c_X4_isSet l dC dI cI ad n a b T H R O Wy tr hd us nx n7 x) (cwV 1 hts (bw_V mq_ml_X4_67 mq_im_X4_isSet mq_se_X4_isSet mq_in_X4 mq_co_X4_isSet) rfl rfl rfl (by decide +kernel) ⟨Nat.le_of_ble_eq_true rfl, Nat.le_of_ble_eq_true rfl⟩) hP hK hN 0 rfl rfl rfl hl.1 rfl (Nat.le_of_ble_eq_true rfl) dX4_missed_2 ⟨Nat.zero_le _, Nat.zero_le _⟩ (fun r9 h9 => ?_)
  obtain rfl : r9 = nI (ed_b (decide (0 ≤ x ∧ x ≤ nI (2 ^ n - 1)))) := h9
  refine lv_if_ne (tgt := 10) hx hb dX4_missed_5 (by decide) (fun b5 => ?_) (fun b5 => ?_)
  -- ifne at 5, t
  · have t5 := decide_eq_true_eq.mp (zb_n0.mp b5)
    obtain ⟨X, hX, rfl⟩ := is_in_of ((is_set_in n7).mp t5) (by omega)
    refine lv_iconst (v := nI (ed_mis R 0 X)) hx hb dX4_missed_10 rfl ?_
    refine lv_istore_n (lv' := [(2, .int (nI (ed_mis R 0 X))), (0, .ref (ad 0)), (1, .int (nI X))]) hx hb dX4_missed_11 rfl hl (by decide) rfl (fun ls hl => ?_)
    refine lv_iconst (v := nI 0) hx hb dX4_missed_12 (by decide) ?_
    refine lv_istore_n (lv' := [(3, .int (nI 0)), (2, .int (nI (ed_mis R 0 X))), (0, .ref (ad 0)), (1, .int (nI X))]) hx hb dX4_missed_13 rfl hl (by decide) rfl (fun ls hl => ?_)
    refine wl_loop (fun k9 ls => ∃ (i : Nat), b - i = k9 ∧ (i ≤ b) ∧ lv_has ls 4 [(0, .ref (ad 0)), (1, .int (nI X)), (2, .int (nI (ed_mis R i X))), (3, .int (nI i))]) ?_ _ ⟨0, rfl, by omega, lv_sub hl [2, 3, 1, 0] rfl⟩
    clear hl
    intro k9 ls ih9 h9
    obtain ⟨i, k9e, hi, hl⟩ := h9
    have ih_14 := ih9
    clear ih9
    subst k9e
    refine lv_iload_n hx hb dX4_missed_14 rfl (lv_at hl 3 rfl) ?_
    refine lv_aload_n hx hb dX4_missed_15 rfl (lv_at hl 0 rfl) ?_
    refine va_get (D := (dC, dI)) (ci := 4) (v := .int (nI b)) (C := RX4) (T := TX4) (N := 12) hx hb hw in_X4 hown hK hP 0 rfl rfl 2 (by decide) (hw _ mq_fl_X4_56) (fun _ h9 => h9) rfl dX4_missed_16 ?_
    refine lv_icmp_ge (tgt := 47) hx hb dX4_missed_19 (by decide) (fun b19 => ?_) (fun b19 => ?_)
    -- if_icmpge at 19, t
    · have t19 := (nI_leI (by omega) (by omega)).mp b19
      have e8 : i = b := by omega
      refine lv_iload_n hx hb dX4_missed_47 rfl (lv_at hl 2 rfl) ?_
      exact W.iret (v := nI (ed_mis R i X)) hx hb hr (fun t ht hW => ⟨_, rfl, (by rw [miF, if_pos t5, nI_clamp (by omega), e8]), ht⟩) (fun _ h => by cases h) dX4_missed_48
    -- if_icmpge at 19, f
    · have t19 : i < b := Nat.lt_of_not_le (fun z => b19 (nI_le z (by omega)))
      have q7 := hR i
      refine lv_aload_n hx hb dX4_missed_22 rfl (lv_at hl 0 rfl) ?_
      refine va_get (D := (dC, dI)) (ci := 4) (v := .ref (ad 3)) (C := RX4) (T := TX4) (N := 12) hx hb hw in_X4 hown hK hP 0 rfl rfl 5 (by decide) (hw _ mq_fl_X4_20) (fun _ h9 => h9) rfl dX4_missed_23 ?_
      refine lv_iload_n hx hb dX4_missed_26 rfl (lv_at hl 3 rfl) ?_
      refine va_iald hx hb hK hP 3 0 rfl rfl (vp_in_nI (by omega) (by decide)) dX4_missed_27 ?_
      refine lv_topi (fun z9 e9 => ?_)
      obtain rfl : z9 = nI (R i) := e9.trans (ar_at R (by omega))
      refine lv_iload_n hx hb dX4_missed_28 rfl (lv_at hl 1 rfl) ?_
      refine lv_iand hx hb dX4_missed_29 ?_
      refine lv_if_ne (tgt := 39) hx hb dX4_missed_30 (by decide) (fun b30 => ?_) (fun b30 => ?_)
      -- ifne at 30, t
      · have t30 : ¬ R i &&& X = 0 := fun z => b30 ((bi_z (by omega)).mpr z)
        refine lv_iload_n hx hb dX4_missed_39 rfl (lv_at hl 2 rfl) ?_
        refine lv_istore_n (lv' := [(2, .int (nI (ed_mis R i X))), (0, .ref (ad 0)), (1, .int (nI X)), (3, .int (nI i))]) hx hb dX4_missed_40 rfl hl (by decide) rfl (fun ls hl => ?_)
        refine lv_iinc (k := 3) (v := nI (i + 1)) (lv' := [(3, .int (nI (i + 1))), (2, .int (nI (ed_mis R i X))), (0, .ref (ad 0)), (1, .int (nI X))]) hx hb dX4_missed_41 hl rfl (ii_1 _) (by decide) rfl (fun ls hl => ?_)
        refine lv_goto (tgt := 14) hx hb dX4_missed_44 (by decide) ?_
        have e8 : ed_mis R (i + 1) X = ed_mis R i X := by rw [ed_mis_s, beq_false_of_ne t30]; rfl
        rw [← e8] at hl
        exact ih_14 _ _ (by omega) ⟨i + 1, rfl, by omega, lv_sub hl [2, 3, 1, 0] rfl⟩
      -- ifne at 30, f
      · have t30 : R i &&& X = 0 := (bi_z (by omega)).mp b30
        refine lv_iload_n hx hb dX4_missed_33 rfl (lv_at hl 2 rfl) ?_
        refine lv_iconst (v := 1) hx hb dX4_missed_34 (by decide) ?_
        refine lv_iadd hx hb dX4_missed_35 ?_
        refine lv_topi (fun z9 e9 => ?_)
        obtain rfl : z9 = nI (ed_mis R i X + 1) := e9.trans (nI_1 _)
        refine lv_goto (tgt := 40) hx hb dX4_missed_36 (by decide) ?_
        refine lv_istore_n (lv' := [(2, .int (nI (ed_mis R i X + 1))), (0, .ref (ad 0)), (1, .int (nI X)), (3, .int (nI i))]) hx hb dX4_missed_40 rfl hl (by decide) rfl (fun ls hl => ?_)
        refine lv_iinc (k := 3) (v := nI (i + 1)) (lv' := [(3, .int (nI (i + 1))), (2, .int (nI (ed_mis R i X + 1))), (0, .ref (ad 0)), (1, .int (nI X))]) hx hb dX4_missed_41 hl rfl (ii_1 _) (by decide) rfl (fun ls hl => ?_)
        refine lv_goto (tgt := 14) hx hb dX4_missed_44 (by decide) ?_
        have e8 : ed_mis R (i + 1) X = ed_mis R i X + 1 := by rw [ed_mis_s, beq_iff_eq.mpr t30]; rfl
        rw [← e8] at hl
        exact ih_14 _ _ (by omega) ⟨i + 1, rfl, by omega, lv_sub hl [2, 3, 1, 0] rfl⟩
  -- ifne at 5, f
  · have t5 := decide_eq_false_iff_not.mp (zb_0.mp b5)
    refine lv_iconst (v := -1) hx hb dX4_missed_8 (by decide) ?_
    exact W.iret (v := -1) hx hb hr (fun t ht hW => ⟨_, rfl, (by rw [miF, if_neg t5]), ht⟩) (fun _ h => by cases h) dX4_missed_9
set_option maxHeartbeats 4000000 in
set_option maxRecDepth 100000 in
theorem c_X4_stopper (l : Launch) (dC : Nat → ClassId) (dI : Nat → Nat → Nat) (cI : ClassId) (ad : Nat → Nat) (n a b : Nat) (T H R : Nat → Nat) (O Wy tr hd us nx : Nat → Int32) (hI : st_I n a T H b R) : Met l yX4_stopper (wq yX4_stopper cX4_stopper 3 (some .int)) ({ frames := 3, cells := 0, slots := 0, locals := 66 }) (ro_P (dC, dI) classes [(cI, .int)] (mw ad cI n a b T H R O Wy tr hd us nx) [.ref (ad 0)]) (vp_Si (fun r => r = nI (spF n a T H b R))) 0 0 (fun _ => False) := by
  obtain ⟨n1, n7, a14, hT, hT2, hb3, hR3, hR⟩ := hI
  have p7 := bi_p7 n7
  have p0 := Nat.two_pow_pos n
  refine Met.ofW (cc := cX4_stopper) (maxL := 3) (ret := (some .int)) (by decide) rfl ?_
  intro p e s m args below meth c s₁ B hml hv
  obtain ⟨rfl, hP, hK, hN⟩ := hv
  have hx := B.exec
  have hb := B.bytes
  have hr := B.returns
  have hlocks := B.notSynchronized
  have hts := atoms_spec (ws := (wq yX4_stopper cX4_stopper 3 (some .int))) B.pre
  have hw : ∀ w ∈ bigW, w.before _ s = true := fun w h => hts w (List.mem_cons_of_mem _ h)
  have hown : s.vm.findClass RX4 = some m.cls := findClass_of_methodNamed B.named
  have hl := lv_entry ([.ref (ad 0)]) (n := 3) (Nat.le_of_ble_eq_true rfl)
  rw [lg_entry_eq]
  generalize (lg_sl ([.ref (ad 0)]) ++ List.replicate (3 - (lg_sl ([.ref (ad 0)])).length) Slot.unset).toArray = ls at hl ⊢
  have hl : lv_has ls 3 [(0, .ref (ad 0))] := hl
  refine lv_iconst (v := nI (fs_at (stp T H a R b) 0)) hx hb dX4_stopper_0 rfl ?_
  refine lv_istore_n (lv' := [(1, .int (nI (fs_at (stp T H a R b) 0))), (0, .ref (ad 0))]) hx hb dX4_stopper_1 rfl hl (by decide) rfl (fun ls hl => ?_)
  refine lv_iconst (v := nI (0 + 1)) hx hb dX4_stopper_2 (by decide) ?_
  refine lv_istore_n (lv' := [(2, .int (nI (0 + 1))), (1, .int (nI (fs_at (stp T H a R b) 0))), (0, .ref (ad 0))]) hx hb dX4_stopper_3 rfl hl (by decide) rfl (fun ls hl => ?_)
  refine wl_loop (fun k9 ls => ∃ (i : Nat), 2 ^ n - i = k9 ∧ (i ≤ 2 ^ n - 1) ∧ lv_has ls 3 [(0, .ref (ad 0)), (1, .int (nI (fs_at (stp T H a R b) i))), (2, .int (nI (i + 1)))]) ?_ _ ⟨0, rfl, by omega, lv_sub hl [2, 1, 0] rfl⟩
  clear hl
  intro k9 ls ih9 h9
  obtain ⟨i, k9e, hi, hl⟩ := h9
  have ih_4 := ih9
  clear ih9
  subst k9e
  have z9 := fs_le (stp T H a R b) i
  refine lv_iload_n hx hb dX4_stopper_4 rfl (lv_at hl 2 rfl) ?_
  refine lv_aload_n hx hb dX4_stopper_5 rfl (lv_at hl 0 rfl) ?_
  refine ro_V (As := []) (rest := [.int (nI (i + 1))]) (b := ad 0) ⟨hx, hb, hml, hown, hts⟩ (c_X4_all l dC dI cI ad n a b T H R O Wy tr hd us nx n7) (cwV 0 hts (bw_V mq_ml_X4_41 mq_im_X4_all mq_se_X4_all mq_in_X4 mq_co_X4_all) rfl rfl rfl (by decide +kernel) ⟨Nat.le_of_ble_eq_true rfl, Nat.le_of_ble_eq_true rfl⟩) hP hK hN 0 rfl rfl rfl hl.1 rfl (Nat.le_of_ble_eq_true rfl) dX4_stopper_6 ⟨Nat.zero_le _, Nat.zero_le _⟩ (fun r9 h9 => ?_)
  obtain rfl : r9 = nI (2 ^ n - 1) := h9
  refine lv_icmp_gt (tgt := 45) hx hb dX4_stopper_9 (by decide) (fun b9 => ?_) (fun b9 => ?_)
  -- if_icmpgt at 9, t
  · have t9 := (nI_ltI (by omega) (by omega)).mp b9
    have e12 : i = 2 ^ n - 1 := by omega
    refine lv_iload_n hx hb dX4_stopper_45 rfl (lv_at hl 1 rfl) ?_
    exact W.iret (v := nI (fs_at (stp T H a R b) i)) hx hb hr (fun t ht hW => ⟨_, rfl, (by rw [e12]; rfl), ht⟩) (fun _ h => by cases h) dX4_stopper_46
  -- if_icmpgt at 9, f
  · have t9 : i + 1 ≤ 2 ^ n - 1 := Nat.le_of_not_lt (fun z => b9 (nI_lt z (by omega)))
    have z8 : rho0 T H a (i + 1) ≤ a := ed_ct_le _ _
    have z7 : ed_mis R b (i + 1) ≤ b := ed_ct_le _ _
    refine lv_aload_n hx hb dX4_stopper_12 rfl (lv_at hl 0 rfl) ?_
    refine lv_iload_n hx hb dX4_stopper_13 rfl (lv_at hl 2 rfl) ?_
    refine ro_V (As := [.int (nI (i + 1))]) (rest := []) (b := ad 0) ⟨hx, hb, hml, hown, hts⟩ (c_X4_entry l dC dI cI ad n a b T H R O Wy tr hd us nx (nI (i + 1)) n7 a14 hT) (cwV 1 hts (bw_V mq_ml_X4_74 mq_im_X4_entry mq_se_X4_entry mq_in_X4 mq_co_X4_entry) rfl rfl rfl (by decide +kernel) ⟨Nat.le_of_ble_eq_true rfl, Nat.le_of_ble_eq_true rfl⟩) hP hK hN 0 rfl rfl rfl hl.1 rfl (Nat.le_of_ble_eq_true rfl) dX4_stopper_14 ⟨Nat.zero_le _, Nat.zero_le _⟩ (fun r9 h9 => ?_)
    obtain rfl : r9 = nI (rho0 T H a (i + 1)) := h9.trans (et_in n7 (by omega))
    refine lv_aload_n hx hb dX4_stopper_17 rfl (lv_at hl 0 rfl) ?_
    refine lv_iload_n hx hb dX4_stopper_18 rfl (lv_at hl 2 rfl) ?_
    refine ro_V (As := [.int (nI (i + 1))]) (rest := [.int (nI (rho0 T H a (i + 1)))]) (b := ad 0) ⟨hx, hb, hml, hown, hts⟩ (c_X4_missed l dC dI cI ad n a b T H R O Wy tr hd us nx (nI (i + 1)) n7 hb3 hR) (cwV 1 hts (bw_V mq_ml_X4_77 mq_im_X4_missed mq_se_X4_missed mq_in_X4 mq_co_X4_missed) rfl rfl rfl (by decide +kernel) ⟨Nat.le_of_ble_eq_true rfl, Nat.le_of_ble_eq_true rfl⟩) hP hK hN 0 rfl rfl rfl hl.1 rfl (Nat.le_of_ble_eq_true rfl) dX4_stopper_19 ⟨Nat.zero_le _, Nat.zero_le _⟩ (fun r9 h9 => ?_)
    obtain rfl : r9 = nI (ed_mis R b (i + 1)) := h9.trans (mi_in n7 (by omega))
    refine lv_icmp_ge (tgt := 39) hx hb dX4_stopper_22 (by decide) (fun b22 => ?_) (fun b22 => ?_)
    -- if_icmpge at 22, t
    · have z22 := (nI_leI (by omega) (by omega)).mp b22
      have t22 : stp T H a R b (i + 1) = false := decide_eq_false (by omega)
      refine lv_iinc (k := 2) (v := nI (i + 1 + 1)) (lv' := [(2, .int (nI (i + 1 + 1))), (0, .ref (ad 0)), (1, .int (nI (fs_at (stp T H a R b) i)))]) hx hb dX4_stopper_39 hl rfl (ii_1 _) (by decide) rfl (fun ls hl => ?_)
      refine lv_goto (tgt := 4) hx hb dX4_stopper_42 (by decide) ?_
      have e8 : fs_at (stp T H a R b) (i + 1) = fs_at (stp T H a R b) i := by rw [fs_s, t22, Bool.and_false, if_neg (by decide)]
      replace hl := lv_sub hl [1, 2, 0] rfl
      have hl : lv_has ls 3 [(0, .ref (ad 0)), (1, .int (nI (fs_at (stp T H a R b) (i + 1)))), (2, .int (nI (i + 1 + 1)))] := by rw [e8]; exact hl
      exact ih_4 _ _ (by omega) ⟨i + 1, rfl, by omega, lv_sub hl [0, 1, 2] rfl⟩
    -- if_icmpge at 22, f
    · have t22 : stp T H a R b (i + 1) = true := decide_eq_true (Nat.lt_of_not_le (fun z => b22 (nI_le z (by omega))))
      refine lv_iload_n hx hb dX4_stopper_25 rfl (lv_at hl 1 rfl) ?_
      refine lv_if_eq (tgt := 37) hx hb dX4_stopper_26 (by decide) (fun b26 => ?_) (fun b26 => ?_)
      -- ifeq at 26, t
      · have t26 : fs_at (stp T H a R b) i = 0 := (nI_eq (by omega) (by decide)).mp (b26.trans nI_0.symm)
        refine lv_iload_n hx hb dX4_stopper_37 rfl (lv_at hl 2 rfl) ?_
        refine lv_istore_n (lv' := [(1, .int (nI (i + 1))), (0, .ref (ad 0)), (2, .int (nI (i + 1)))]) hx hb dX4_stopper_38 rfl hl (by decide) rfl (fun ls hl => ?_)
        refine lv_iinc (k := 2) (v := nI (i + 1 + 1)) (lv' := [(2, .int (nI (i + 1 + 1))), (1, .int (nI (i + 1))), (0, .ref (ad 0))]) hx hb dX4_stopper_39 hl rfl (ii_1 _) (by decide) rfl (fun ls hl => ?_)
        refine lv_goto (tgt := 4) hx hb dX4_stopper_42 (by decide) ?_
        have e8 : fs_at (stp T H a R b) (i + 1) = i + 1 := by rw [fs_s, t22, beq_iff_eq.mpr t26, Bool.true_or, Bool.true_and, if_pos rfl]
        replace hl := lv_sub hl [2, 1, 0] rfl
        have hl : lv_has ls 3 [(0, .ref (ad 0)), (1, .int (nI (fs_at (stp T H a R b) (i + 1)))), (2, .int (nI (i + 1 + 1)))] := by rw [e8]; exact hl
        exact ih_4 _ _ (by omega) ⟨i + 1, rfl, by omega, lv_sub hl [0, 1, 2] rfl⟩
      -- ifeq at 26, f
      · have t26 : ¬ fs_at (stp T H a R b) i = 0 := fun z => b26 (by rw [z]; exact nI_0)
        refine lv_iload_n hx hb dX4_stopper_29 rfl (lv_at hl 2 rfl) ?_
        refine lv_iload_n hx hb dX4_stopper_30 rfl (lv_at hl 1 rfl) ?_
        refine ro_S (As := [.int (nI (i + 1)), .int (nI (fs_at (stp T H a R b) i))]) (rest := []) ⟨hx, hb, hml, hown, hts⟩ (c_X4_isBefore l dC dI cI ad n a b T H R O Wy tr hd us nx (i + 1) (fs_at (stp T H a R b) i) (by omega) (by omega)) (cwS 2 hts (bw_S mq_ml_X4_80 mq_st_X4_isBefore mq_in_X4 mq_co_X4_isBefore) rfl rfl rfl (by decide +kernel) ⟨Nat.le_of_ble_eq_true rfl, Nat.le_of_ble_eq_true rfl⟩) hP hK hN rfl hl.1 rfl (Nat.le_of_ble_eq_true rfl) dX4_stopper_31 ⟨Nat.zero_le _, Nat.zero_le _⟩ (fun r9 h9 => ?_)
        obtain rfl : r9 = nI (ed_b (or_bf (i + 1) (fs_at (stp T H a R b) i))) := h9
        refine lv_if_eq (tgt := 39) hx hb dX4_stopper_34 (by decide) (fun b34 => ?_) (fun b34 => ?_)
        -- ifeq at 34, t
        · have t34 := zb_0.mp b34
          refine lv_iinc (k := 2) (v := nI (i + 1 + 1)) (lv' := [(2, .int (nI (i + 1 + 1))), (0, .ref (ad 0)), (1, .int (nI (fs_at (stp T H a R b) i)))]) hx hb dX4_stopper_39 hl rfl (ii_1 _) (by decide) rfl (fun ls hl => ?_)
          refine lv_goto (tgt := 4) hx hb dX4_stopper_42 (by decide) ?_
          have e8 : fs_at (stp T H a R b) (i + 1) = fs_at (stp T H a R b) i := by rw [fs_s, t34, beq_false_of_ne t26, Bool.or_false, Bool.false_and, if_neg (by decide)]
          replace hl := lv_sub hl [1, 2, 0] rfl
          have hl : lv_has ls 3 [(0, .ref (ad 0)), (1, .int (nI (fs_at (stp T H a R b) (i + 1)))), (2, .int (nI (i + 1 + 1)))] := by rw [e8]; exact hl
          exact ih_4 _ _ (by omega) ⟨i + 1, rfl, by omega, lv_sub hl [0, 1, 2] rfl⟩
        -- ifeq at 34, f
        · have t34 := zb_n0.mp b34
          refine lv_iload_n hx hb dX4_stopper_37 rfl (lv_at hl 2 rfl) ?_
          refine lv_istore_n (lv' := [(1, .int (nI (i + 1))), (0, .ref (ad 0)), (2, .int (nI (i + 1)))]) hx hb dX4_stopper_38 rfl hl (by decide) rfl (fun ls hl => ?_)
          refine lv_iinc (k := 2) (v := nI (i + 1 + 1)) (lv' := [(2, .int (nI (i + 1 + 1))), (1, .int (nI (i + 1))), (0, .ref (ad 0))]) hx hb dX4_stopper_39 hl rfl (ii_1 _) (by decide) rfl (fun ls hl => ?_)
          refine lv_goto (tgt := 4) hx hb dX4_stopper_42 (by decide) ?_
          have e8 : fs_at (stp T H a R b) (i + 1) = i + 1 := by rw [fs_s, t22, t34, Bool.or_true, Bool.true_and, if_pos rfl]
          replace hl := lv_sub hl [2, 1, 0] rfl
          have hl : lv_has ls 3 [(0, .ref (ad 0)), (1, .int (nI (fs_at (stp T H a R b) (i + 1)))), (2, .int (nI (i + 1 + 1)))] := by rw [e8]; exact hl
          exact ih_4 _ _ (by omega) ⟨i + 1, rfl, by omega, lv_sub hl [0, 1, 2] rfl⟩
set_option maxHeartbeats 4000000 in
set_option maxRecDepth 100000 in
theorem c_X4_isStopped (l : Launch) (dC : Nat → ClassId) (dI : Nat → Nat → Nat) (cI : ClassId) (ad : Nat → Nat) (n a b : Nat) (T H R : Nat → Nat) (O Wy tr hd us nx : Nat → Int32) (k had U : Nat) (hI : st_I n a T H b R) (hh : had < 128) (hU : U < 2 ^ 14) (hk : k < b) : Met l yX4_isStopped (wq yX4_isStopped cX4_isStopped 7 (some .boolean)) ({ frames := 2, cells := 0, slots := 0, locals := 45 }) (ro_P (dC, dI) classes [(cI, .int)] (mw ad cI n a b T H R O Wy tr hd us nx) [.ref (ad 0), .int (nI k), .int (nI had), .int (nI U)]) (vp_Si (fun r => r = nI (ed_b (!ru_ok n a b T H R k had (Nat.testBit U))))) 0 0 (fun _ => False) := by
  obtain ⟨n1, n7, a14, hT, hT2, hb3, hR3, hR⟩ := hI
  have p7 := bi_p7 n7
  have p0 := Nat.two_pow_pos n
  refine Met.ofW (cc := cX4_isStopped) (maxL := 7) (ret := (some .boolean)) (by decide) rfl ?_
  intro p e s m args below meth c s₁ B hml hv
  obtain ⟨rfl, hP, hK, hN⟩ := hv
  have hx := B.exec
  have hb := B.bytes
  have hr := B.returns
  have hlocks := B.notSynchronized
  have hts := atoms_spec (ws := (wq yX4_isStopped cX4_isStopped 7 (some .boolean))) B.pre
  have hw : ∀ w ∈ bigW, w.before _ s = true := fun w h => hts w (List.mem_cons_of_mem _ h)
  have hown : s.vm.findClass RX4 = some m.cls := findClass_of_methodNamed B.named
  have hl := lv_entry ([.ref (ad 0), .int (nI k), .int (nI had), .int (nI U)]) (n := 7) (Nat.le_of_ble_eq_true rfl)
  rw [lg_entry_eq]
  generalize (lg_sl ([.ref (ad 0), .int (nI k), .int (nI had), .int (nI U)]) ++ List.replicate (7 - (lg_sl ([.ref (ad 0), .int (nI k), .int (nI had), .int (nI U)])).length) Slot.unset).toArray = ls at hl ⊢
  have hl : lv_has ls 7 [(0, .ref (ad 0)), (1, .int (nI k)), (2, .int (nI had)), (3, .int (nI U))] := hl
  refine lv_iconst (v := nI 1) hx hb dX4_isStopped_0 (by decide) ?_
  refine lv_istore (lv' := [(4, .int (nI 1)), (0, .ref (ad 0)), (1, .int (nI k)), (2, .int (nI had)), (3, .int (nI U))]) hx hb dX4_isStopped_1 hl (by decide) rfl (fun ls hl => ?_)
  refine wl_loop (fun k9 ls => ∃ (X : Nat), 2 ^ n - X = k9 ∧ (0 < X ∧ X ≤ 2 ^ n) ∧ (∀ Y, 0 < Y → Y < X → ed_p R b k had Y ≤ ed_rho T H a (Nat.testBit U) Y) ∧ lv_has ls 7 [(0, .ref (ad 0)), (1, .int (nI k)), (2, .int (nI had)), (3, .int (nI U)), (4, .int (nI X))]) ?_ _ ⟨1, rfl, ⟨by omega, by omega⟩, fun Y y0 y1 => by omega, lv_sub hl [1, 2, 3, 4, 0] rfl⟩
  clear hl
  intro k9 ls ih9 h9
  obtain ⟨X, k9e, hX, hall, hl⟩ := h9
  have ih_3 := ih9
  clear ih9
  subst k9e
  refine lv_iload hx hb dX4_isStopped_3 (lv_at hl 4 rfl) ?_
  refine lv_aload_n hx hb dX4_isStopped_5 rfl (lv_at hl 0 rfl) ?_
  refine ro_V (As := []) (rest := [.int (nI X)]) (b := ad 0) ⟨hx, hb, hml, hown, hts⟩ (c_X4_all l dC dI cI ad n a b T H R O Wy tr hd us nx n7) (cwV 0 hts (bw_V mq_ml_X4_41 mq_im_X4_all mq_se_X4_all mq_in_X4 mq_co_X4_all) rfl rfl rfl (by decide +kernel) ⟨Nat.le_of_ble_eq_true rfl, Nat.le_of_ble_eq_true rfl⟩) hP hK hN 0 rfl rfl rfl hl.1 rfl (Nat.le_of_ble_eq_true rfl) dX4_isStopped_6 ⟨Nat.zero_le _, Nat.zero_le _⟩ (fun r9 h9 => ?_)
  obtain rfl : r9 = nI (2 ^ n - 1) := h9
  refine lv_icmp_gt (tgt := 90) hx hb dX4_isStopped_9 (by decide) (fun b9 => ?_) (fun b9 => ?_)
  -- if_icmpgt at 9, t
  · have t9 := (nI_ltI (by omega) (by omega)).mp b9
    refine lv_iconst (v := 0) hx hb dX4_isStopped_90 (by decide) ?_
    exact W.zret (v := 0) hx hb hr rfl (fun t ht hW => ⟨_, rfl, zb_F (by rw [ru_ok_iff.mpr (fun Y y0 y1 => hall Y y0 (by omega))]; rfl), ht⟩) (fun _ h => by cases h) dX4_isStopped_91
  -- if_icmpgt at 9, f
  · have t9 : X ≤ 2 ^ n - 1 := Nat.le_of_not_lt (fun z => b9 (nI_lt z (by omega)))
    have z9 : ed_rho T H a (Nat.testBit U) X ≤ a := ed_ct_le _ _
    refine lv_iload_n hx hb dX4_isStopped_12 rfl (lv_at hl 2 rfl) ?_
    refine lv_iload hx hb dX4_isStopped_13 (lv_at hl 4 rfl) ?_
    refine lv_iand hx hb dX4_isStopped_15 ?_
    refine lv_if_ne (tgt := 23) hx hb dX4_isStopped_16 (by decide) (fun b16 => ?_) (fun b16 => ?_)
    -- ifne at 16, t
    · have e5 : is_p R k had X (k + 1) = 0 := is_p_0 (fun z => b16 ((bi_z (by omega)).mpr z))
      refine lv_iconst (v := nI (is_p R k had X (k + 1))) hx hb dX4_isStopped_23 (by rw [e5]; rfl) ?_
      refine lv_istore (lv' := [(5, .int (nI (is_p R k had X (k + 1)))), (0, .ref (ad 0)), (1, .int (nI k)), (2, .int (nI had)), (3, .int (nI U)), (4, .int (nI X))]) hx hb dX4_isStopped_24 hl (by decide) rfl (fun ls hl => ?_)
      refine lv_iload_n hx hb dX4_isStopped_26 rfl (lv_at hl 2 rfl) ?_
      refine lv_iconst (v := 1) hx hb dX4_isStopped_27 (by decide) ?_
      refine lv_iadd hx hb dX4_isStopped_28 ?_
      refine lv_topi (fun z9 e9 => ?_)
      obtain rfl : z9 = nI (k + 1) := e9.trans (nI_1 k)
      refine lv_istore (lv' := [(6, .int (nI (k + 1))), (5, .int (nI (is_p R k had X (k + 1)))), (0, .ref (ad 0)), (1, .int (nI k)), (2, .int (nI had)), (3, .int (nI U)), (4, .int (nI X))]) hx hb dX4_isStopped_29 hl (by decide) rfl (fun ls hl => ?_)
      refine wl_loop (fun k9 ls => ∃ (j : Nat), b - j = k9 ∧ (k < j ∧ j ≤ b) ∧ lv_has ls 7 [(0, .ref (ad 0)), (1, .int (nI k)), (2, .int (nI had)), (3, .int (nI U)), (4, .int (nI X)), (5, .int (nI (is_p R k had X j))), (6, .int (nI j))]) ?_ _ ⟨k + 1, rfl, ⟨by omega, by omega⟩, lv_sub hl [2, 3, 4, 5, 6, 1, 0] rfl⟩
      clear hl
      intro k9 ls ih9 h9
      obtain ⟨j, k9e, hj, hl⟩ := h9
      have ih_31 := ih9
      clear ih9
      subst k9e
      refine lv_iload hx hb dX4_isStopped_31 (lv_at hl 6 rfl) ?_
      refine lv_aload_n hx hb dX4_isStopped_33 rfl (lv_at hl 0 rfl) ?_
      refine va_get (D := (dC, dI)) (ci := 4) (v := .int (nI b)) (C := RX4) (T := TX4) (N := 12) hx hb hw in_X4 hown hK hP 0 rfl rfl 2 (by decide) (hw _ mq_fl_X4_56) (fun _ h9 => h9) rfl dX4_isStopped_34 ?_
      refine lv_icmp_ge (tgt := 70) hx hb dX4_isStopped_37 (by decide) (fun b37 => ?_) (fun b37 => ?_)
      -- if_icmpge at 37, t
      · have t37 := (nI_leI (by omega) (by omega)).mp b37
        have e37 : j = b := by omega
        have z8 : is_p R k had X b ≤ 1 + b := is_p_le _ _ _ _ _
        rw [e37] at hl
        refine lv_aload_n hx hb dX4_isStopped_70 rfl (lv_at hl 0 rfl) ?_
        refine lv_iload hx hb dX4_isStopped_71 (lv_at hl 4 rfl) ?_
        refine lv_iload_n hx hb dX4_isStopped_73 rfl (lv_at hl 3 rfl) ?_
        refine ro_V (As := [.int (nI X), .int (nI U)]) (rest := []) (b := ad 0) ⟨hx, hb, hml, hown, hts⟩ (c_X4_entryOf l dC dI cI ad n a b T H R O Wy tr hd us nx X U a14 (by omega) hU hT) (cwV 2 hts (bw_V mq_ml_X4_70 mq_im_X4_entryOf mq_se_X4_entryOf mq_in_X4 mq_co_X4_entryOf) rfl rfl rfl (by decide +kernel) ⟨Nat.le_of_ble_eq_true rfl, Nat.le_of_ble_eq_true rfl⟩) hP hK hN 0 rfl rfl rfl hl.1 rfl (Nat.le_of_ble_eq_true rfl) dX4_isStopped_74 ⟨Nat.zero_le _, Nat.zero_le _⟩ (fun r9 h9 => ?_)
        obtain rfl : r9 = nI (ed_rho T H a (Nat.testBit U) X) := h9
        refine lv_iload hx hb dX4_isStopped_77 (lv_at hl 5 rfl) ?_
        refine lv_icmp_ge (tgt := 84) hx hb dX4_isStopped_79 (by decide) (fun b79 => ?_) (fun b79 => ?_)
        -- if_icmpge at 79, t
        · have t79 : ed_p R b k had X ≤ ed_rho T H a (Nat.testBit U) X := (nI_leI (a := is_p R k had X b) (by omega) (by omega)).mp b79
          refine lv_iinc (k := 4) (v := nI (X + 1)) (lv' := [(4, .int (nI (X + 1))), (0, .ref (ad 0)), (1, .int (nI k)), (2, .int (nI had)), (3, .int (nI U)), (5, .int (nI (is_p R k had X b))), (6, .int (nI b))]) hx hb dX4_isStopped_84 hl rfl (ii_1 _) (by decide) rfl (fun ls hl => ?_)
          refine lv_goto (tgt := 3) hx hb dX4_isStopped_87 (by decide) ?_
          have hall2 : ∀ Y, 0 < Y → Y < X + 1 → ed_p R b k had Y ≤ ed_rho T H a (Nat.testBit U) Y := by
            intro Y y0 y1
            rcases Nat.lt_or_ge Y X with y3 | y3
            · exact hall Y y0 y3
            · have y4 : Y = X := by omega
              rw [y4]
              exact t79
          exact ih_3 _ _ (by omega) ⟨X + 1, rfl, by omega, hall2, lv_sub hl [1, 2, 3, 4, 0] rfl⟩
        -- if_icmpge at 79, f
        · have t79 : ¬ ed_p R b k had X ≤ ed_rho T H a (Nat.testBit U) X := fun z => b79 (nI_le (a := is_p R k had X b) z (by omega))
          refine lv_iconst (v := 1) hx hb dX4_isStopped_82 (by decide) ?_
          exact W.zret (v := 1) hx hb hr rfl (fun t ht hW => ⟨_, rfl, zb_T (by rw [Bool.eq_false_iff.mpr (fun z => t79 (ru_ok_iff.mp z X hX.1 (by omega)))]; rfl), ht⟩) (fun _ h => by cases h) dX4_isStopped_83
      -- if_icmpge at 37, f
      · have t37 : j < b := Nat.lt_of_not_le (fun z => b37 (nI_le z (by omega)))
        have q7 := hR j
        refine lv_aload_n hx hb dX4_isStopped_40 rfl (lv_at hl 0 rfl) ?_
        refine va_get (D := (dC, dI)) (ci := 4) (v := .ref (ad 3)) (C := RX4) (T := TX4) (N := 12) hx hb hw in_X4 hown hK hP 0 rfl rfl 5 (by decide) (hw _ mq_fl_X4_20) (fun _ h9 => h9) rfl dX4_isStopped_41 ?_
        refine lv_iload hx hb dX4_isStopped_44 (lv_at hl 6 rfl) ?_
        refine va_iald hx hb hK hP 3 0 rfl rfl (vp_in_nI (by omega) (by decide)) dX4_isStopped_46 ?_
        refine lv_topi (fun z9 e9 => ?_)
        obtain rfl : z9 = nI (R j) := e9.trans (ar_at R (by omega))
        refine lv_iload hx hb dX4_isStopped_47 (lv_at hl 4 rfl) ?_
        refine lv_iand hx hb dX4_isStopped_49 ?_
        refine lv_if_ne (tgt := 60) hx hb dX4_isStopped_50 (by decide) (fun b50 => ?_) (fun b50 => ?_)
        -- ifne at 50, t
        · have t50 : ¬ R j &&& X = 0 := fun z => b50 ((bi_z (by omega)).mpr z)
          refine lv_iload hx hb dX4_isStopped_60 (lv_at hl 5 rfl) ?_
          refine lv_istore (lv' := [(5, .int (nI (is_p R k had X j))), (0, .ref (ad 0)), (1, .int (nI k)), (2, .int (nI had)), (3, .int (nI U)), (4, .int (nI X)), (6, .int (nI j))]) hx hb dX4_isStopped_62 hl (by decide) rfl (fun ls hl => ?_)
          refine lv_iinc (k := 6) (v := nI (j + 1)) (lv' := [(6, .int (nI (j + 1))), (5, .int (nI (is_p R k had X j))), (0, .ref (ad 0)), (1, .int (nI k)), (2, .int (nI had)), (3, .int (nI U)), (4, .int (nI X))]) hx hb dX4_isStopped_64 hl rfl (ii_1 _) (by decide) rfl (fun ls hl => ?_)
          refine lv_goto (tgt := 31) hx hb dX4_isStopped_67 (by decide) ?_
          have e8 : is_p R k had X (j + 1) = is_p R k had X j := by rw [is_p_s (by omega), beq_false_of_ne t50]; rfl
          rw [← e8] at hl
          exact ih_31 _ _ (by omega) ⟨j + 1, rfl, by omega, lv_sub hl [2, 3, 4, 5, 6, 1, 0] rfl⟩
        -- ifne at 50, f
        · have t50 : R j &&& X = 0 := (bi_z (by omega)).mp b50
          refine lv_iload hx hb dX4_isStopped_53 (lv_at hl 5 rfl) ?_
          refine lv_iconst (v := 1) hx hb dX4_isStopped_55 (by decide) ?_
          refine lv_iadd hx hb dX4_isStopped_56 ?_
          refine lv_topi (fun z9 e9 => ?_)
          obtain rfl : z9 = nI (is_p R k had X j + 1) := e9.trans (nI_1 _)
          refine lv_goto (tgt := 62) hx hb dX4_isStopped_57 (by decide) ?_
          refine lv_istore (lv' := [(5, .int (nI (is_p R k had X j + 1))), (0, .ref (ad 0)), (1, .int (nI k)), (2, .int (nI had)), (3, .int (nI U)), (4, .int (nI X)), (6, .int (nI j))]) hx hb dX4_isStopped_62 hl (by decide) rfl (fun ls hl => ?_)
          refine lv_iinc (k := 6) (v := nI (j + 1)) (lv' := [(6, .int (nI (j + 1))), (5, .int (nI (is_p R k had X j + 1))), (0, .ref (ad 0)), (1, .int (nI k)), (2, .int (nI had)), (3, .int (nI U)), (4, .int (nI X))]) hx hb dX4_isStopped_64 hl rfl (ii_1 _) (by decide) rfl (fun ls hl => ?_)
          refine lv_goto (tgt := 31) hx hb dX4_isStopped_67 (by decide) ?_
          have e8 : is_p R k had X (j + 1) = is_p R k had X j + 1 := by rw [is_p_s (by omega), beq_iff_eq.mpr t50]; rfl
          rw [← e8] at hl
          exact ih_31 _ _ (by omega) ⟨j + 1, rfl, by omega, lv_sub hl [2, 3, 4, 5, 6, 1, 0] rfl⟩
    -- ifne at 16, f
    · have e5 : is_p R k had X (k + 1) = 1 := is_p_1 ((bi_z (by omega)).mp b16)
      refine lv_iconst (v := nI (is_p R k had X (k + 1))) hx hb dX4_isStopped_19 (by rw [e5]; rfl) ?_
      refine lv_goto (tgt := 24) hx hb dX4_isStopped_20 (by decide) ?_
      refine lv_istore (lv' := [(5, .int (nI (is_p R k had X (k + 1)))), (0, .ref (ad 0)), (1, .int (nI k)), (2, .int (nI had)), (3, .int (nI U)), (4, .int (nI X))]) hx hb dX4_isStopped_24 hl (by decide) rfl (fun ls hl => ?_)
      refine lv_iload_n hx hb dX4_isStopped_26 rfl (lv_at hl 2 rfl) ?_
      refine lv_iconst (v := 1) hx hb dX4_isStopped_27 (by decide) ?_
      refine lv_iadd hx hb dX4_isStopped_28 ?_
      refine lv_topi (fun z9 e9 => ?_)
      obtain rfl : z9 = nI (k + 1) := e9.trans (nI_1 k)
      refine lv_istore (lv' := [(6, .int (nI (k + 1))), (5, .int (nI (is_p R k had X (k + 1)))), (0, .ref (ad 0)), (1, .int (nI k)), (2, .int (nI had)), (3, .int (nI U)), (4, .int (nI X))]) hx hb dX4_isStopped_29 hl (by decide) rfl (fun ls hl => ?_)
      refine wl_loop (fun k9 ls => ∃ (j : Nat), b - j = k9 ∧ (k < j ∧ j ≤ b) ∧ lv_has ls 7 [(0, .ref (ad 0)), (1, .int (nI k)), (2, .int (nI had)), (3, .int (nI U)), (4, .int (nI X)), (5, .int (nI (is_p R k had X j))), (6, .int (nI j))]) ?_ _ ⟨k + 1, rfl, ⟨by omega, by omega⟩, lv_sub hl [2, 3, 4, 5, 6, 1, 0] rfl⟩
      clear hl
      intro k9 ls ih9 h9
      obtain ⟨j, k9e, hj, hl⟩ := h9
      have ih_31 := ih9
      clear ih9
      subst k9e
      refine lv_iload hx hb dX4_isStopped_31 (lv_at hl 6 rfl) ?_
      refine lv_aload_n hx hb dX4_isStopped_33 rfl (lv_at hl 0 rfl) ?_
      refine va_get (D := (dC, dI)) (ci := 4) (v := .int (nI b)) (C := RX4) (T := TX4) (N := 12) hx hb hw in_X4 hown hK hP 0 rfl rfl 2 (by decide) (hw _ mq_fl_X4_56) (fun _ h9 => h9) rfl dX4_isStopped_34 ?_
      refine lv_icmp_ge (tgt := 70) hx hb dX4_isStopped_37 (by decide) (fun b37 => ?_) (fun b37 => ?_)
      -- if_icmpge at 37, t
      · have t37 := (nI_leI (by omega) (by omega)).mp b37
        have e37 : j = b := by omega
        have z8 : is_p R k had X b ≤ 1 + b := is_p_le _ _ _ _ _
        rw [e37] at hl
        refine lv_aload_n hx hb dX4_isStopped_70 rfl (lv_at hl 0 rfl) ?_
        refine lv_iload hx hb dX4_isStopped_71 (lv_at hl 4 rfl) ?_
        refine lv_iload_n hx hb dX4_isStopped_73 rfl (lv_at hl 3 rfl) ?_
        refine ro_V (As := [.int (nI X), .int (nI U)]) (rest := []) (b := ad 0) ⟨hx, hb, hml, hown, hts⟩ (c_X4_entryOf l dC dI cI ad n a b T H R O Wy tr hd us nx X U a14 (by omega) hU hT) (cwV 2 hts (bw_V mq_ml_X4_70 mq_im_X4_entryOf mq_se_X4_entryOf mq_in_X4 mq_co_X4_entryOf) rfl rfl rfl (by decide +kernel) ⟨Nat.le_of_ble_eq_true rfl, Nat.le_of_ble_eq_true rfl⟩) hP hK hN 0 rfl rfl rfl hl.1 rfl (Nat.le_of_ble_eq_true rfl) dX4_isStopped_74 ⟨Nat.zero_le _, Nat.zero_le _⟩ (fun r9 h9 => ?_)
        obtain rfl : r9 = nI (ed_rho T H a (Nat.testBit U) X) := h9
        refine lv_iload hx hb dX4_isStopped_77 (lv_at hl 5 rfl) ?_
        refine lv_icmp_ge (tgt := 84) hx hb dX4_isStopped_79 (by decide) (fun b79 => ?_) (fun b79 => ?_)
        -- if_icmpge at 79, t
        · have t79 : ed_p R b k had X ≤ ed_rho T H a (Nat.testBit U) X := (nI_leI (a := is_p R k had X b) (by omega) (by omega)).mp b79
          refine lv_iinc (k := 4) (v := nI (X + 1)) (lv' := [(4, .int (nI (X + 1))), (0, .ref (ad 0)), (1, .int (nI k)), (2, .int (nI had)), (3, .int (nI U)), (5, .int (nI (is_p R k had X b))), (6, .int (nI b))]) hx hb dX4_isStopped_84 hl rfl (ii_1 _) (by decide) rfl (fun ls hl => ?_)
          refine lv_goto (tgt := 3) hx hb dX4_isStopped_87 (by decide) ?_
          have hall2 : ∀ Y, 0 < Y → Y < X + 1 → ed_p R b k had Y ≤ ed_rho T H a (Nat.testBit U) Y := by
            intro Y y0 y1
            rcases Nat.lt_or_ge Y X with y3 | y3
            · exact hall Y y0 y3
            · have y4 : Y = X := by omega
              rw [y4]
              exact t79
          exact ih_3 _ _ (by omega) ⟨X + 1, rfl, by omega, hall2, lv_sub hl [1, 2, 3, 4, 0] rfl⟩
        -- if_icmpge at 79, f
        · have t79 : ¬ ed_p R b k had X ≤ ed_rho T H a (Nat.testBit U) X := fun z => b79 (nI_le (a := is_p R k had X b) z (by omega))
          refine lv_iconst (v := 1) hx hb dX4_isStopped_82 (by decide) ?_
          exact W.zret (v := 1) hx hb hr rfl (fun t ht hW => ⟨_, rfl, zb_T (by rw [Bool.eq_false_iff.mpr (fun z => t79 (ru_ok_iff.mp z X hX.1 (by omega)))]; rfl), ht⟩) (fun _ h => by cases h) dX4_isStopped_83
      -- if_icmpge at 37, f
      · have t37 : j < b := Nat.lt_of_not_le (fun z => b37 (nI_le z (by omega)))
        have q7 := hR j
        refine lv_aload_n hx hb dX4_isStopped_40 rfl (lv_at hl 0 rfl) ?_
        refine va_get (D := (dC, dI)) (ci := 4) (v := .ref (ad 3)) (C := RX4) (T := TX4) (N := 12) hx hb hw in_X4 hown hK hP 0 rfl rfl 5 (by decide) (hw _ mq_fl_X4_20) (fun _ h9 => h9) rfl dX4_isStopped_41 ?_
        refine lv_iload hx hb dX4_isStopped_44 (lv_at hl 6 rfl) ?_
        refine va_iald hx hb hK hP 3 0 rfl rfl (vp_in_nI (by omega) (by decide)) dX4_isStopped_46 ?_
        refine lv_topi (fun z9 e9 => ?_)
        obtain rfl : z9 = nI (R j) := e9.trans (ar_at R (by omega))
        refine lv_iload hx hb dX4_isStopped_47 (lv_at hl 4 rfl) ?_
        refine lv_iand hx hb dX4_isStopped_49 ?_
        refine lv_if_ne (tgt := 60) hx hb dX4_isStopped_50 (by decide) (fun b50 => ?_) (fun b50 => ?_)
        -- ifne at 50, t
        · have t50 : ¬ R j &&& X = 0 := fun z => b50 ((bi_z (by omega)).mpr z)
          refine lv_iload hx hb dX4_isStopped_60 (lv_at hl 5 rfl) ?_
          refine lv_istore (lv' := [(5, .int (nI (is_p R k had X j))), (0, .ref (ad 0)), (1, .int (nI k)), (2, .int (nI had)), (3, .int (nI U)), (4, .int (nI X)), (6, .int (nI j))]) hx hb dX4_isStopped_62 hl (by decide) rfl (fun ls hl => ?_)
          refine lv_iinc (k := 6) (v := nI (j + 1)) (lv' := [(6, .int (nI (j + 1))), (5, .int (nI (is_p R k had X j))), (0, .ref (ad 0)), (1, .int (nI k)), (2, .int (nI had)), (3, .int (nI U)), (4, .int (nI X))]) hx hb dX4_isStopped_64 hl rfl (ii_1 _) (by decide) rfl (fun ls hl => ?_)
          refine lv_goto (tgt := 31) hx hb dX4_isStopped_67 (by decide) ?_
          have e8 : is_p R k had X (j + 1) = is_p R k had X j := by rw [is_p_s (by omega), beq_false_of_ne t50]; rfl
          rw [← e8] at hl
          exact ih_31 _ _ (by omega) ⟨j + 1, rfl, by omega, lv_sub hl [2, 3, 4, 5, 6, 1, 0] rfl⟩
        -- ifne at 50, f
        · have t50 : R j &&& X = 0 := (bi_z (by omega)).mp b50
          refine lv_iload hx hb dX4_isStopped_53 (lv_at hl 5 rfl) ?_
          refine lv_iconst (v := 1) hx hb dX4_isStopped_55 (by decide) ?_
          refine lv_iadd hx hb dX4_isStopped_56 ?_
          refine lv_topi (fun z9 e9 => ?_)
          obtain rfl : z9 = nI (is_p R k had X j + 1) := e9.trans (nI_1 _)
          refine lv_goto (tgt := 62) hx hb dX4_isStopped_57 (by decide) ?_
          refine lv_istore (lv' := [(5, .int (nI (is_p R k had X j + 1))), (0, .ref (ad 0)), (1, .int (nI k)), (2, .int (nI had)), (3, .int (nI U)), (4, .int (nI X)), (6, .int (nI j))]) hx hb dX4_isStopped_62 hl (by decide) rfl (fun ls hl => ?_)
          refine lv_iinc (k := 6) (v := nI (j + 1)) (lv' := [(6, .int (nI (j + 1))), (5, .int (nI (is_p R k had X j + 1))), (0, .ref (ad 0)), (1, .int (nI k)), (2, .int (nI had)), (3, .int (nI U)), (4, .int (nI X))]) hx hb dX4_isStopped_64 hl rfl (ii_1 _) (by decide) rfl (fun ls hl => ?_)
          refine lv_goto (tgt := 31) hx hb dX4_isStopped_67 (by decide) ?_
          have e8 : is_p R k had X (j + 1) = is_p R k had X j + 1 := by rw [is_p_s (by omega), beq_iff_eq.mpr t50]; rfl
          rw [← e8] at hl
          exact ih_31 _ _ (by omega) ⟨j + 1, rfl, by omega, lv_sub hl [2, 3, 4, 5, 6, 1, 0] rfl⟩
set_option maxHeartbeats 4000000 in
set_option maxRecDepth 100000 in
theorem c_X4_grows (l : Launch) (dC : Nat → ClassId) (dI : Nat → Nat → Nat) (cI : ClassId) (ad : Nat → Nat) (n a b : Nat) (T H R : Nat → Nat) (O Wy tr hd us nx : Nat → Int32) (had U j : Nat) (hj : j < 14) (hh : had < 128) (hU : U < 2 ^ 14) (hT : ∀ i, T i < 7 ∧ H i < 7) : Met l yX4_grows (wq yX4_grows cX4_grows 4 (some .boolean)) ({ frames := 1, cells := 0, slots := 0, locals := 21 }) (ro_P (dC, dI) classes [(cI, .int)] (mw ad cI n a b T H R O Wy tr hd us nx) [.ref (ad 0), .int (nI had), .int (nI U), .int (nI j)]) (vp_Si (fun r => r = nI (ed_b (ru_gr T H had (Nat.testBit U) j)))) 0 0 (fun _ => False) := by
  have q7 := hT j
  refine Met.ofW (cc := cX4_grows) (maxL := 4) (ret := (some .boolean)) (by decide) rfl ?_
  intro p e s m args below meth c s₁ B hml hv
  obtain ⟨rfl, hP, hK, hN⟩ := hv
  have hx := B.exec
  have hb := B.bytes
  have hr := B.returns
  have hlocks := B.notSynchronized
  have hts := atoms_spec (ws := (wq yX4_grows cX4_grows 4 (some .boolean))) B.pre
  have hw : ∀ w ∈ bigW, w.before _ s = true := fun w h => hts w (List.mem_cons_of_mem _ h)
  have hown : s.vm.findClass RX4 = some m.cls := findClass_of_methodNamed B.named
  have hl := lv_entry ([.ref (ad 0), .int (nI had), .int (nI U), .int (nI j)]) (n := 4) (Nat.le_of_ble_eq_true rfl)
  rw [lg_entry_eq]
  generalize (lg_sl ([.ref (ad 0), .int (nI had), .int (nI U), .int (nI j)]) ++ List.replicate (4 - (lg_sl ([.ref (ad 0), .int (nI had), .int (nI U), .int (nI j)])).length) Slot.unset).toArray = ls at hl ⊢
  have hl : lv_has ls 4 [(0, .ref (ad 0)), (1, .int (nI had)), (2, .int (nI U)), (3, .int (nI j))] := hl
  refine lv_iload_n hx hb dX4_grows_0 rfl (lv_at hl 2 rfl) ?_
  refine lv_iload_n hx hb dX4_grows_1 rfl (lv_at hl 3 rfl) ?_
  refine ro_S (As := [.int (nI U), .int (nI j)]) (rest := []) ⟨hx, hb, hml, hown, hts⟩ (c_X4_has l dC dI cI ad n a b T H R O Wy tr hd us nx U j (by omega) (by omega)) (cwS 2 hts (bw_S mq_ml_X4_48 mq_st_X4_has mq_in_X4 mq_co_X4_has) rfl rfl rfl (by decide +kernel) ⟨Nat.le_of_ble_eq_true rfl, Nat.le_of_ble_eq_true rfl⟩) hP hK hN rfl hl.1 rfl (Nat.le_of_ble_eq_true rfl) dX4_grows_2 ⟨Nat.zero_le _, Nat.zero_le _⟩ (fun r9 h9 => ?_)
  obtain rfl : r9 = nI (ed_b (Nat.testBit U j)) := h9
  refine lv_if_ne (tgt := 38) hx hb dX4_grows_5 (by decide) (fun b5 => ?_) (fun b5 => ?_)
  -- ifne at 5, t
  · have t5 := zb_n0.mp b5
    refine lv_iconst (v := 0) hx hb dX4_grows_38 (by decide) ?_
    exact W.zret (v := 0) hx hb hr rfl (fun t ht hW => ⟨_, rfl, zb_F (by rw [ru_gr, t5]; rfl), ht⟩) (fun _ h => by cases h) dX4_grows_39
  -- ifne at 5, f
  · have t5 := zb_0.mp b5
    refine lv_iload_n hx hb dX4_grows_8 rfl (lv_at hl 1 rfl) ?_
    refine lv_aload_n hx hb dX4_grows_9 rfl (lv_at hl 0 rfl) ?_
    refine va_get (D := (dC, dI)) (ci := 4) (v := .ref (ad 1)) (C := RX4) (T := TX4) (N := 12) hx hb hw in_X4 hown hK hP 0 rfl rfl 3 (by decide) (hw _ mq_fl_X4_13) (fun _ h9 => h9) rfl dX4_grows_10 ?_
    refine lv_iload_n hx hb dX4_grows_13 rfl (lv_at hl 3 rfl) ?_
    refine va_iald hx hb hK hP 1 0 rfl rfl (vp_in_nI hj (by decide)) dX4_grows_14 ?_
    refine lv_topi (fun z9 e9 => ?_)
    obtain rfl : z9 = nI (T j) := e9.trans (ar_at T (by omega))
    refine ro_S (As := [.int (nI had), .int (nI (T j))]) (rest := []) ⟨hx, hb, hml, hown, hts⟩ (c_X4_has l dC dI cI ad n a b T H R O Wy tr hd us nx had (T j) (by omega) (by omega)) (cwS 2 hts (bw_S mq_ml_X4_48 mq_st_X4_has mq_in_X4 mq_co_X4_has) rfl rfl rfl (by decide +kernel) ⟨Nat.le_of_ble_eq_true rfl, Nat.le_of_ble_eq_true rfl⟩) hP hK hN rfl hl.1 rfl (Nat.le_of_ble_eq_true rfl) dX4_grows_15 ⟨Nat.zero_le _, Nat.zero_le _⟩ (fun r9 h9 => ?_)
    obtain rfl : r9 = nI (ed_b (Nat.testBit had (T j))) := h9
    refine lv_if_eq (tgt := 38) hx hb dX4_grows_18 (by decide) (fun b18 => ?_) (fun b18 => ?_)
    -- ifeq at 18, t
    · have t18 := zb_0.mp b18
      refine lv_iconst (v := 0) hx hb dX4_grows_38 (by decide) ?_
      exact W.zret (v := 0) hx hb hr rfl (fun t ht hW => ⟨_, rfl, zb_F (by rw [ru_gr, t18, Bool.false_and, Bool.and_false]), ht⟩) (fun _ h => by cases h) dX4_grows_39
    -- ifeq at 18, f
    · have t18 := zb_n0.mp b18
      refine lv_iload_n hx hb dX4_grows_21 rfl (lv_at hl 1 rfl) ?_
      refine lv_aload_n hx hb dX4_grows_22 rfl (lv_at hl 0 rfl) ?_
      refine va_get (D := (dC, dI)) (ci := 4) (v := .ref (ad 2)) (C := RX4) (T := TX4) (N := 12) hx hb hw in_X4 hown hK hP 0 rfl rfl 4 (by decide) (hw _ mq_fl_X4_17) (fun _ h9 => h9) rfl dX4_grows_23 ?_
      refine lv_iload_n hx hb dX4_grows_26 rfl (lv_at hl 3 rfl) ?_
      refine va_iald hx hb hK hP 2 0 rfl rfl (vp_in_nI hj (by decide)) dX4_grows_27 ?_
      refine lv_topi (fun z9 e9 => ?_)
      obtain rfl : z9 = nI (H j) := e9.trans (ar_at H (by omega))
      refine ro_S (As := [.int (nI had), .int (nI (H j))]) (rest := []) ⟨hx, hb, hml, hown, hts⟩ (c_X4_has l dC dI cI ad n a b T H R O Wy tr hd us nx had (H j) (by omega) (by omega)) (cwS 2 hts (bw_S mq_ml_X4_48 mq_st_X4_has mq_in_X4 mq_co_X4_has) rfl rfl rfl (by decide +kernel) ⟨Nat.le_of_ble_eq_true rfl, Nat.le_of_ble_eq_true rfl⟩) hP hK hN rfl hl.1 rfl (Nat.le_of_ble_eq_true rfl) dX4_grows_28 ⟨Nat.zero_le _, Nat.zero_le _⟩ (fun r9 h9 => ?_)
      obtain rfl : r9 = nI (ed_b (Nat.testBit had (H j))) := h9
      refine lv_if_ne (tgt := 38) hx hb dX4_grows_31 (by decide) (fun b31 => ?_) (fun b31 => ?_)
      -- ifne at 31, t
      · have t31 := zb_n0.mp b31
        refine lv_iconst (v := 0) hx hb dX4_grows_38 (by decide) ?_
        exact W.zret (v := 0) hx hb hr rfl (fun t ht hW => ⟨_, rfl, zb_F (by rw [ru_gr, t31, Bool.not_true, Bool.and_false, Bool.and_false]), ht⟩) (fun _ h => by cases h) dX4_grows_39
      -- ifne at 31, f
      · have t31 := zb_0.mp b31
        refine lv_iconst (v := 1) hx hb dX4_grows_34 (by decide) ?_
        refine lv_goto (tgt := 39) hx hb dX4_grows_35 (by decide) ?_
        exact W.zret (v := 1) hx hb hr rfl (fun t ht hW => ⟨_, rfl, zb_T (by rw [ru_gr, t5, t18, t31]; rfl), ht⟩) (fun _ h => by cases h) dX4_grows_39
set_option maxHeartbeats 4000000 in
set_option maxRecDepth 100000 in
theorem c_X4_most (l : Launch) (dC : Nat → ClassId) (dI : Nat → Nat → Nat) (cI : ClassId) (ad : Nat → Nat) (n a b : Nat) (T H R : Nat → Nat) (O Wy tr hd us nx : Nat → Int32) (x : Int32) (hI : st_I n a T H b R) : Met l yX4_most (wq yX4_most cX4_most 5 (some .int)) ({ frames := 3, cells := 0, slots := 0, locals := 66 }) (ro_P (dC, dI) classes [(cI, .int)] (mw ad cI n a b T H R O Wy tr hd us nx) [.ref (ad 0), .int x]) (vp_Si (fun r => r = moF n a T H x)) 0 0 (fun _ => False) := by
  obtain ⟨n1, n7, a14, hT, hT2, hb3, hR3, hR⟩ := hI
  have p7 := bi_p7 n7
  have p0 := Nat.two_pow_pos n
  refine Met.ofW (cc := cX4_most) (maxL := 5) (ret := (some .int)) (by decide) rfl ?_
  intro p e s m args below meth c s₁ B hml hv
  obtain ⟨rfl, hP, hK, hN⟩ := hv
  have hx := B.exec
  have hb := B.bytes
  have hr := B.returns
  have hlocks := B.notSynchronized
  have hts := atoms_spec (ws := (wq yX4_most cX4_most 5 (some .int))) B.pre
  have hw : ∀ w ∈ bigW, w.before _ s = true := fun w h => hts w (List.mem_cons_of_mem _ h)
  have hown : s.vm.findClass RX4 = some m.cls := findClass_of_methodNamed B.named
  have hl := lv_entry ([.ref (ad 0), .int x]) (n := 5) (Nat.le_of_ble_eq_true rfl)
  rw [lg_entry_eq]
  generalize (lg_sl ([.ref (ad 0), .int x]) ++ List.replicate (5 - (lg_sl ([.ref (ad 0), .int x])).length) Slot.unset).toArray = ls at hl ⊢
  have hl : lv_has ls 5 [(0, .ref (ad 0)), (1, .int x)] := hl
  refine lv_iload_n hx hb dX4_most_0 rfl (lv_at hl 1 rfl) ?_
  refine lv_if_eq (tgt := 12) hx hb dX4_most_1 (by decide) (fun b1 => ?_) (fun b1 => ?_)
  -- ifeq at 1, t
  · refine lv_iconst (v := -1) hx hb dX4_most_12 (by decide) ?_
    exact W.iret (v := -1) hx hb hr (fun t ht hW => ⟨_, rfl, (by rw [moF, if_neg (fun h => h.1 b1)]), ht⟩) (fun _ h => by cases h) dX4_most_13
  -- ifeq at 1, f
  · refine lv_aload_n hx hb dX4_most_4 rfl (lv_at hl 0 rfl) ?_
    refine lv_iload_n hx hb dX4_most_5 rfl (lv_at hl 1 rfl) ?_
    refine ro_V (As := [.int x]) (rest := []) (b := ad 0) ⟨hx, hb, hml, hown, hts⟩ (c_X4_isSet l dC dI cI ad n a b T H R O Wy tr hd us nx n7 x) (cwV 1 hts (bw_V mq_ml_X4_67 mq_im_X4_isSet mq_se_X4_isSet mq_in_X4 mq_co_X4_isSet) rfl rfl rfl (by decide +kernel) ⟨Nat.le_of_ble_eq_true rfl, Nat.le_of_ble_eq_true rfl⟩) hP hK hN 0 rfl rfl rfl hl.1 rfl (Nat.le_of_ble_eq_true rfl) dX4_most_6 ⟨Nat.zero_le _, Nat.zero_le _⟩ (fun r9 h9 => ?_)
    obtain rfl : r9 = nI (ed_b (decide (0 ≤ x ∧ x ≤ nI (2 ^ n - 1)))) := h9
    refine lv_if_ne (tgt := 14) hx hb dX4_most_9 (by decide) (fun b9 => ?_) (fun b9 => ?_)
    -- ifne at 9, t
    · have t9 := decide_eq_true_eq.mp (zb_n0.mp b9)
      obtain ⟨X, hX, rfl⟩ := is_in_of ((is_set_in n7).mp t9) (by omega)
      refine lv_bipush (v := nI (mo_at T H a X 0)) hx hb dX4_most_14 rfl ?_
      refine lv_istore_n (lv' := [(2, .int (nI (mo_at T H a X 0))), (0, .ref (ad 0)), (1, .int (nI X))]) hx hb dX4_most_16 rfl hl (by decide) rfl (fun ls hl => ?_)
      refine lv_iconst (v := nI (0 + 1)) hx hb dX4_most_17 (by decide) ?_
      refine lv_istore_n (lv' := [(3, .int (nI (0 + 1))), (2, .int (nI (mo_at T H a X 0))), (0, .ref (ad 0)), (1, .int (nI X))]) hx hb dX4_most_18 rfl hl (by decide) rfl (fun ls hl => ?_)
      refine wl_loop (fun k9 ls => ∃ (i : Nat), 2 ^ n - i = k9 ∧ (i ≤ 2 ^ n - 1) ∧ lv_has ls 5 [(0, .ref (ad 0)), (1, .int (nI X)), (2, .int (nI (mo_at T H a X i))), (3, .int (nI (i + 1)))]) ?_ _ ⟨0, rfl, by omega, lv_sub hl [2, 3, 1, 0] rfl⟩
      clear hl
      intro k9 ls ih9 h9
      obtain ⟨i, k9e, hi, hl⟩ := h9
      have ih_19 := ih9
      clear ih9
      subst k9e
      have z8 := mo_le T H a X i
      refine lv_iload_n hx hb dX4_most_19 rfl (lv_at hl 3 rfl) ?_
      refine lv_aload_n hx hb dX4_most_20 rfl (lv_at hl 0 rfl) ?_
      refine ro_V (As := []) (rest := [.int (nI (i + 1))]) (b := ad 0) ⟨hx, hb, hml, hown, hts⟩ (c_X4_all l dC dI cI ad n a b T H R O Wy tr hd us nx n7) (cwV 0 hts (bw_V mq_ml_X4_41 mq_im_X4_all mq_se_X4_all mq_in_X4 mq_co_X4_all) rfl rfl rfl (by decide +kernel) ⟨Nat.le_of_ble_eq_true rfl, Nat.le_of_ble_eq_true rfl⟩) hP hK hN 0 rfl rfl rfl hl.1 rfl (Nat.le_of_ble_eq_true rfl) dX4_most_21 ⟨Nat.zero_le _, Nat.zero_le _⟩ (fun r9 h9 => ?_)
      obtain rfl : r9 = nI (2 ^ n - 1) := h9
      refine lv_icmp_gt (tgt := 59) hx hb dX4_most_24 (by decide) (fun b24 => ?_) (fun b24 => ?_)
      -- if_icmpgt at 24, t
      · have t24 := (nI_ltI (by omega) (by omega)).mp b24
        have e24 : i = 2 ^ n - 1 := by omega
        refine lv_iload_n hx hb dX4_most_59 rfl (lv_at hl 2 rfl) ?_
        exact W.iret (v := nI (mo_at T H a X i)) hx hb hr (fun t ht hW => ⟨_, rfl, (by rw [moF, if_pos ⟨b1, t9⟩, nI_clamp (by omega), e24]), ht⟩) (fun _ h => by cases h) dX4_most_60
      -- if_icmpgt at 24, f
      · have t24 : i + 1 ≤ 2 ^ n - 1 := Nat.le_of_not_lt (fun z => b24 (nI_lt z (by omega)))
        have z9 : rho0 T H a (i + 1) ≤ a := ed_ct_le _ _
        refine lv_aload_n hx hb dX4_most_27 rfl (lv_at hl 0 rfl) ?_
        refine lv_iload_n hx hb dX4_most_28 rfl (lv_at hl 3 rfl) ?_
        refine ro_V (As := [.int (nI (i + 1))]) (rest := []) (b := ad 0) ⟨hx, hb, hml, hown, hts⟩ (c_X4_entry l dC dI cI ad n a b T H R O Wy tr hd us nx (nI (i + 1)) n7 a14 hT) (cwV 1 hts (bw_V mq_ml_X4_74 mq_im_X4_entry mq_se_X4_entry mq_in_X4 mq_co_X4_entry) rfl rfl rfl (by decide +kernel) ⟨Nat.le_of_ble_eq_true rfl, Nat.le_of_ble_eq_true rfl⟩) hP hK hN 0 rfl rfl rfl hl.1 rfl (Nat.le_of_ble_eq_true rfl) dX4_most_29 ⟨Nat.zero_le _, Nat.zero_le _⟩ (fun r9 h9 => ?_)
        obtain rfl : r9 = nI (rho0 T H a (i + 1)) := h9.trans (et_in n7 (by omega))
        refine lv_istore (lv' := [(4, .int (nI (rho0 T H a (i + 1)))), (0, .ref (ad 0)), (1, .int (nI X)), (2, .int (nI (mo_at T H a X i))), (3, .int (nI (i + 1)))]) hx hb dX4_most_32 hl (by decide) rfl (fun ls hl => ?_)
        refine lv_iload_n hx hb dX4_most_34 rfl (lv_at hl 4 rfl) ?_
        refine lv_iload_n hx hb dX4_most_35 rfl (lv_at hl 2 rfl) ?_
        refine lv_iand hx hb dX4_most_36 ?_
        refine lv_if_ne (tgt := 51) hx hb dX4_most_37 (by decide) (fun b37 => ?_) (fun b37 => ?_)
        -- ifne at 37, t
        · have t37 : ¬ (i + 1) &&& X = 0 := fun z => b37 ((bi_z (by omega)).mpr z)
          refine lv_iload_n hx hb dX4_most_51 rfl (lv_at hl 3 rfl) ?_
          refine lv_istore_n (lv' := [(2, .int (nI (mo_at T H a X i))), (4, .int (nI (rho0 T H a (i + 1)))), (0, .ref (ad 0)), (1, .int (nI X)), (3, .int (nI (i + 1)))]) hx hb dX4_most_52 rfl hl (by decide) rfl (fun ls hl => ?_)
          refine lv_iinc (k := 4) (v := nI (i + 1 + 1)) (lv' := [(3, .int (nI (i + 1 + 1))), (2, .int (nI (mo_at T H a X i))), (4, .int (nI (rho0 T H a (i + 1)))), (0, .ref (ad 0)), (1, .int (nI X))]) hx hb dX4_most_53 hl rfl (ii_1 _) (by decide) rfl (fun ls hl => ?_)
          refine lv_goto (tgt := 19) hx hb dX4_most_56 (by decide) ?_
          have e8 : mo_at T H a X (i + 1) = mo_at T H a X i := by rw [mo_s, if_neg t37]
          rw [← e8] at hl
          exact ih_19 _ _ (by omega) ⟨i + 1, rfl, by omega, lv_sub hl [3, 4, 1, 0] rfl⟩
        -- ifne at 37, f
        · have t37 : (i + 1) &&& X = 0 := (bi_z (by omega)).mp b37
          refine lv_iload hx hb dX4_most_40 (lv_at hl 0 rfl) ?_
          refine lv_iload_n hx hb dX4_most_42 rfl (lv_at hl 3 rfl) ?_
          refine lv_icmp_ge (tgt := 51) hx hb dX4_most_43 (by decide) (fun b43 => ?_) (fun b43 => ?_)
          -- if_icmpge at 43, t
          · have t43 := (nI_leI (by omega) (by omega)).mp b43
            refine lv_iload_n hx hb dX4_most_51 rfl (lv_at hl 3 rfl) ?_
            refine lv_istore_n (lv' := [(2, .int (nI (mo_at T H a X i))), (4, .int (nI (rho0 T H a (i + 1)))), (0, .ref (ad 0)), (1, .int (nI X)), (3, .int (nI (i + 1)))]) hx hb dX4_most_52 rfl hl (by decide) rfl (fun ls hl => ?_)
            refine lv_iinc (k := 4) (v := nI (i + 1 + 1)) (lv' := [(3, .int (nI (i + 1 + 1))), (2, .int (nI (mo_at T H a X i))), (4, .int (nI (rho0 T H a (i + 1)))), (0, .ref (ad 0)), (1, .int (nI X))]) hx hb dX4_most_53 hl rfl (ii_1 _) (by decide) rfl (fun ls hl => ?_)
            refine lv_goto (tgt := 19) hx hb dX4_most_56 (by decide) ?_
            have e8 : mo_at T H a X (i + 1) = mo_at T H a X i := by rw [mo_s, if_pos t37, Nat.min_eq_left t43]
            rw [← e8] at hl
            exact ih_19 _ _ (by omega) ⟨i + 1, rfl, by omega, lv_sub hl [3, 4, 1, 0] rfl⟩
          -- if_icmpge at 43, f
          · have t43 := Nat.lt_of_not_le (fun z => b43 (nI_le z (by omega)))
            refine lv_iload hx hb dX4_most_46 (lv_at hl 0 rfl) ?_
            refine lv_goto (tgt := 52) hx hb dX4_most_48 (by decide) ?_
            refine lv_istore_n (lv' := [(2, .int (nI (rho0 T H a (i + 1)))), (4, .int (nI (rho0 T H a (i + 1)))), (0, .ref (ad 0)), (1, .int (nI X)), (3, .int (nI (i + 1)))]) hx hb dX4_most_52 rfl hl (by decide) rfl (fun ls hl => ?_)
            refine lv_iinc (k := 4) (v := nI (i + 1 + 1)) (lv' := [(3, .int (nI (i + 1 + 1))), (2, .int (nI (rho0 T H a (i + 1)))), (4, .int (nI (rho0 T H a (i + 1)))), (0, .ref (ad 0)), (1, .int (nI X))]) hx hb dX4_most_53 hl rfl (ii_1 _) (by decide) rfl (fun ls hl => ?_)
            refine lv_goto (tgt := 19) hx hb dX4_most_56 (by decide) ?_
            have e8 : mo_at T H a X (i + 1) = rho0 T H a (i + 1) := by rw [mo_s, if_pos t37, Nat.min_eq_right (by omega)]
            rw [← e8] at hl
            exact ih_19 _ _ (by omega) ⟨i + 1, rfl, by omega, lv_sub hl [3, 4, 1, 0] rfl⟩
    -- ifne at 9, f
    · have t9 := decide_eq_false_iff_not.mp (zb_0.mp b9)
      refine lv_iconst (v := -1) hx hb dX4_most_12 (by decide) ?_
      exact W.iret (v := -1) hx hb hr (fun t ht hW => ⟨_, rfl, (by rw [moF, if_neg (fun h => t9 h.2)]), ht⟩) (fun _ h => by cases h) dX4_most_13

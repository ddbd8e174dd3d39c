/-! the packer's world, its leaves: Net and Grove -/
abbrev cw (ad : Nat → Nat) (cI : ClassId) (n a : Nat) (T H : Nat → Nat) (b : Nat) (R : Nat → Nat) (st : Int32) (O S : Nat → Int32) : va_W := [(ad 0, .inr (3, [.ref (ad 1), .ref (ad 4), .ref (ad 6)])), (ad 1, .inr (1, [.ref (ad 2), .ref (ad 3), .int (nI n), .int (nI a)])), (ad 2, .inl (cI, 14, .inl (ar T))), (ad 3, .inl (cI, 14, .inl (ar H))), (ad 4, .inr (0, [.ref (ad 5), .int (nI b)])), (ad 5, .inl (cI, 3, .inl (ar R))), (ad 6, .inr (2, [.ref (ad 7), .ref (ad 8), .int st])), (ad 7, .inl (cI, 14, .inl O)), (ad 8, .inl (cI, 128, .inl S))]
theorem rho0_s (T H : Nat → Nat) (i X : Nat) : rho0 T H (i + 1) X = rho0 T H i X + ed_b (ed_en T H X i) := rfl
theorem ed_mis_s (R : Nat → Nat) (i X : Nat) : ed_mis R (i + 1) X = ed_mis R i X + ed_b (R i &&& X == 0) := rfl
theorem rm_0 (T : Nat → Nat) (j : Nat) : rm_f T j j = T := by
  funext i
  rw [rm_f, if_neg (by omega)]
theorem rm_s {T : Nat → Nat} {j i : Nat} (h : j ≤ i) : up (rm_f T j i) i (rm_f T j i (i + 1)) = rm_f T j (i + 1) := by
  funext k
  rw [up]
  by_cases hk : k = i
  · rw [if_pos hk, rm_f, rm_f, if_neg (by omega), if_pos (by omega), hk]
  · rw [if_neg hk, rm_f, rm_f]
    by_cases h2 : j ≤ k ∧ k < i
    · rw [if_pos h2, if_pos (by omega)]
    · rw [if_neg h2, if_neg (by omega)]
set_option maxHeartbeats 4000000 in
set_option maxRecDepth 100000 in
theorem c_X1_hasVertex (l : Launch) (dC : Nat → ClassId) (dI : Nat → Nat → Nat) (cI : ClassId) (ad : Nat → Nat) (n a : Nat) (T H : Nat → Nat) (b : Nat) (R : Nat → Nat) (st : Int32) (O S : Nat → Int32) (x : Int32) : Met l yX1_hasVertex (wq yX1_hasVertex cX1_hasVertex 2 (some .boolean)) ({ frames := 0, cells := 0, slots := 0, locals := 0 }) (ro_P (dC, dI) classes [(cI, .int)] (cw ad cI n a T H b R st O S) [.ref (ad 1), .int x]) (vp_Si (fun r => r = nI (ed_b (decide (0 ≤ x ∧ x < nI n))))) 0 0 (fun _ => False) := by
  refine Met.ofW (cc := cX1_hasVertex) (maxL := 2) (ret := (some .boolean)) (by decide) rfl ?_
  intro p e s m args below meth c s₁ B hml hv
  obtain ⟨rfl, hP, hK, hN⟩ := hv
  have hx := B.exec
  have hb := B.bytes
  have hr := B.returns
  have hlocks := B.notSynchronized
  have hts := atoms_spec (ws := (wq yX1_hasVertex cX1_hasVertex 2 (some .boolean))) B.pre
  have hw : ∀ w ∈ bigW, w.before _ s = true := fun w h => hts w (List.mem_cons_of_mem _ h)
  have hown : s.vm.findClass RX1 = some m.cls := findClass_of_methodNamed B.named
  have hl := lv_entry ([.ref (ad 1), .int x]) (n := 2) (Nat.le_of_ble_eq_true rfl)
  rw [lg_entry_eq]
  generalize (lg_sl ([.ref (ad 1), .int x]) ++ List.replicate (2 - (lg_sl ([.ref (ad 1), .int x])).length) Slot.unset).toArray = ls at hl ⊢
  have hl : lv_has ls 2 [(0, .ref (ad 1)), (1, .int x)] := hl
  refine lv_iload_n hx hb dX1_hasVertex_0 rfl (lv_at hl 1 rfl) ?_
  refine lv_if_lt (tgt := 16) hx hb dX1_hasVertex_1 (by decide) (fun b1 => ?_) (fun b1 => ?_)
  -- iflt at 1, t
  · refine lv_iconst (v := 0) hx hb dX1_hasVertex_16 (by decide) ?_
    exact W.zret (v := 0) hx hb hr rfl (fun t ht hW => ⟨_, rfl, zb_f (fun h => absurd h.1 (i_le_lt.mpr b1)), ht⟩) (fun _ h => by cases h) dX1_hasVertex_17
  -- iflt at 1, f
  · refine lv_iload_n hx hb dX1_hasVertex_4 rfl (lv_at hl 1 rfl) ?_
    refine lv_aload_n hx hb dX1_hasVertex_5 rfl (lv_at hl 0 rfl) ?_
    refine va_get (D := (dC, dI)) (ci := 1) (v := .int (nI n)) (C := RX1) (T := TX1) (N := 4) hx hb hw in_X1 hown hK hP 1 rfl rfl 2 (by decide) (hw _ mq_fl_X1_18) (fun _ h9 => h9) rfl dX1_hasVertex_6 ?_
    refine lv_icmp_ge (tgt := 16) hx hb dX1_hasVertex_9 (by decide) (fun b9 => ?_) (fun b9 => ?_)
    -- if_icmpge at 9, t
    · refine lv_iconst (v := 0) hx hb dX1_hasVertex_16 (by decide) ?_
      exact W.zret (v := 0) hx hb hr rfl (fun t ht hW => ⟨_, rfl, zb_f (fun h => absurd h.2 (i_lt_le.mpr b9)), ht⟩) (fun _ h => by cases h) dX1_hasVertex_17
    -- if_icmpge at 9, f
    · refine lv_iconst (v := 1) hx hb dX1_hasVertex_12 (by decide) ?_
      refine lv_goto (tgt := 17) hx hb dX1_hasVertex_13 (by decide) ?_
      exact W.zret (v := 1) hx hb hr rfl (fun t ht hW => ⟨_, rfl, zb_t ⟨i_lt_le.mp b1, i_le_lt.mp b9⟩, ht⟩) (fun _ h => by cases h) dX1_hasVertex_17
set_option maxHeartbeats 4000000 in
set_option maxRecDepth 100000 in
theorem c_X1_hasArc (l : Launch) (dC : Nat → ClassId) (dI : Nat → Nat → Nat) (cI : ClassId) (ad : Nat → Nat) (n a : Nat) (T H : Nat → Nat) (b : Nat) (R : Nat → Nat) (st : Int32) (O S : Nat → Int32) (x : Int32) : Met l yX1_hasArc (wq yX1_hasArc cX1_hasArc 2 (some .boolean)) ({ frames := 0, cells := 0, slots := 0, locals := 0 }) (ro_P (dC, dI) classes [(cI, .int)] (cw ad cI n a T H b R st O S) [.ref (ad 1), .int x]) (vp_Si (fun r => r = nI (ed_b (decide (0 ≤ x ∧ x < nI a))))) 0 0 (fun _ => False) := by
  refine Met.ofW (cc := cX1_hasArc) (maxL := 2) (ret := (some .boolean)) (by decide) rfl ?_
  intro p e s m args below meth c s₁ B hml hv
  obtain ⟨rfl, hP, hK, hN⟩ := hv
  have hx := B.exec
  have hb := B.bytes
  have hr := B.returns
  have hlocks := B.notSynchronized
  have hts := atoms_spec (ws := (wq yX1_hasArc cX1_hasArc 2 (some .boolean))) B.pre
  have hw : ∀ w ∈ bigW, w.before _ s = true := fun w h => hts w (List.mem_cons_of_mem _ h)
  have hown : s.vm.findClass RX1 = some m.cls := findClass_of_methodNamed B.named
  have hl := lv_entry ([.ref (ad 1), .int x]) (n := 2) (Nat.le_of_ble_eq_true rfl)
  rw [lg_entry_eq]
  generalize (lg_sl ([.ref (ad 1), .int x]) ++ List.replicate (2 - (lg_sl ([.ref (ad 1), .int x])).length) Slot.unset).toArray = ls at hl ⊢
  have hl : lv_has ls 2 [(0, .ref (ad 1)), (1, .int x)] := hl
  refine lv_iload_n hx hb dX1_hasArc_0 rfl (lv_at hl 1 rfl) ?_
  refine lv_if_lt (tgt := 16) hx hb dX1_hasArc_1 (by decide) (fun b1 => ?_) (fun b1 => ?_)
  -- iflt at 1, t
  · refine lv_iconst (v := 0) hx hb dX1_hasArc_16 (by decide) ?_
    exact W.zret (v := 0) hx hb hr rfl (fun t ht hW => ⟨_, rfl, zb_f (fun h => absurd h.1 (i_le_lt.mpr b1)), ht⟩) (fun _ h => by cases h) dX1_hasArc_17
  -- iflt at 1, f
  · refine lv_iload_n hx hb dX1_hasArc_4 rfl (lv_at hl 1 rfl) ?_
    refine lv_aload_n hx hb dX1_hasArc_5 rfl (lv_at hl 0 rfl) ?_
    refine va_get (D := (dC, dI)) (ci := 1) (v := .int (nI a)) (C := RX1) (T := TX1) (N := 4) hx hb hw in_X1 hown hK hP 1 rfl rfl 3 (by decide) (hw _ mq_fl_X1_22) (fun _ h9 => h9) rfl dX1_hasArc_6 ?_
    refine lv_icmp_ge (tgt := 16) hx hb dX1_hasArc_9 (by decide) (fun b9 => ?_) (fun b9 => ?_)
    -- if_icmpge at 9, t
    · refine lv_iconst (v := 0) hx hb dX1_hasArc_16 (by decide) ?_
      exact W.zret (v := 0) hx hb hr rfl (fun t ht hW => ⟨_, rfl, zb_f (fun h => absurd h.2 (i_lt_le.mpr b9)), ht⟩) (fun _ h => by cases h) dX1_hasArc_17
    -- if_icmpge at 9, f
    · refine lv_iconst (v := 1) hx hb dX1_hasArc_12 (by decide) ?_
      refine lv_goto (tgt := 17) hx hb dX1_hasArc_13 (by decide) ?_
      exact W.zret (v := 1) hx hb hr rfl (fun t ht hW => ⟨_, rfl, zb_t ⟨i_lt_le.mp b1, i_le_lt.mp b9⟩, ht⟩) (fun _ h => by cases h) dX1_hasArc_17
set_option maxHeartbeats 4000000 in
set_option maxRecDepth 100000 in
theorem c_X1_allVertices (l : Launch) (dC : Nat → ClassId) (dI : Nat → Nat → Nat) (cI : ClassId) (ad : Nat → Nat) (n a : Nat) (T H : Nat → Nat) (b : Nat) (R : Nat → Nat) (st : Int32) (O S : Nat → Int32) (hn : n ≤ 7) : Met l yX1_allVertices (wq yX1_allVertices cX1_allVertices 1 (some .int)) ({ frames := 0, cells := 0, slots := 0, locals := 0 }) (ro_P (dC, dI) classes [(cI, .int)] (cw ad cI n a T H b R st O S) [.ref (ad 1)]) (vp_Si (fun r => r = nI (2 ^ n - 1))) 0 0 (fun _ => False) := by
  refine Met.ofW (cc := cX1_allVertices) (maxL := 1) (ret := (some .int)) (by decide) rfl ?_
  intro p e s m args below meth c s₁ B hml hv
  obtain ⟨rfl, hP, hK, hN⟩ := hv
  have hx := B.exec
  have hb := B.bytes
  have hr := B.returns
  have hlocks := B.notSynchronized
  have hts := atoms_spec (ws := (wq yX1_allVertices cX1_allVertices 1 (some .int))) B.pre
  have hw : ∀ w ∈ bigW, w.before _ s = true := fun w h => hts w (List.mem_cons_of_mem _ h)
  have hown : s.vm.findClass RX1 = some m.cls := findClass_of_methodNamed B.named
  have hl := lv_entry ([.ref (ad 1)]) (n := 1) (Nat.le_of_ble_eq_true rfl)
  rw [lg_entry_eq]
  generalize (lg_sl ([.ref (ad 1)]) ++ List.replicate (1 - (lg_sl ([.ref (ad 1)])).length) Slot.unset).toArray = ls at hl ⊢
  have hl : lv_has ls 1 [(0, .ref (ad 1))] := hl
  refine lv_iconst (v := 1) hx hb dX1_allVertices_0 (by decide) ?_
  refine lv_aload_n hx hb dX1_allVertices_1 rfl (lv_at hl 0 rfl) ?_
  refine va_get (D := (dC, dI)) (ci := 1) (v := .int (nI n)) (C := RX1) (T := TX1) (N := 4) hx hb hw in_X1 hown hK hP 1 rfl rfl 2 (by decide) (hw _ mq_fl_X1_18) (fun _ h9 => h9) rfl dX1_allVertices_2 ?_
  refine lv_ishl hx hb dX1_allVertices_5 ?_
  refine lv_iconst (v := 1) hx hb dX1_allVertices_6 (by decide) ?_
  refine lv_isub hx hb dX1_allVertices_7 ?_
  refine lv_topi (fun z9 e9 => ?_)
  obtain rfl : z9 = nI (2 ^ n - 1) := e9.trans (bi_all hn)
  exact W.iret (v := nI (2 ^ n - 1)) hx hb hr (fun t ht hW => ⟨_, rfl, rfl, ht⟩) (fun _ h => by cases h) dX1_allVertices_8
set_option maxHeartbeats 4000000 in
set_option maxRecDepth 100000 in
theorem c_X1_hasSet (l : Launch) (dC : Nat → ClassId) (dI : Nat → Nat → Nat) (cI : ClassId) (ad : Nat → Nat) (n a : Nat) (T H : Nat → Nat) (b : Nat) (R : Nat → Nat) (st : Int32) (O S : Nat → Int32) (hn : n ≤ 7) (x : Int32) : Met l yX1_hasSet (wq yX1_hasSet cX1_hasSet 2 (some .boolean)) ({ frames := 1, cells := 0, slots := 0, locals := 20 }) (ro_P (dC, dI) classes [(cI, .int)] (cw ad cI n a T H b R st O S) [.ref (ad 1), .int x]) (vp_Si (fun r => r = nI (ed_b (decide (0 ≤ x ∧ x ≤ nI (2 ^ n - 1)))))) 0 0 (fun _ => False) := by
  refine Met.ofW (cc := cX1_hasSet) (maxL := 2) (ret := (some .boolean)) (by decide) rfl ?_
  intro p e s m args below meth c s₁ B hml hv
  obtain ⟨rfl, hP, hK, hN⟩ := hv
  have hx := B.exec
  have hb := B.bytes
  have hr := B.returns
  have hlocks := B.notSynchronized
  have hts := atoms_spec (ws := (wq yX1_hasSet cX1_hasSet 2 (some .boolean))) B.pre
  have hw : ∀ w ∈ bigW, w.before _ s = true := fun w h => hts w (List.mem_cons_of_mem _ h)
  have hown : s.vm.findClass RX1 = some m.cls := findClass_of_methodNamed B.named
  have hl := lv_entry ([.ref (ad 1), .int x]) (n := 2) (Nat.le_of_ble_eq_true rfl)
  rw [lg_entry_eq]
  generalize (lg_sl ([.ref (ad 1), .int x]) ++ List.replicate (2 - (lg_sl ([.ref (ad 1), .int x])).length) Slot.unset).toArray = ls at hl ⊢
  have hl : lv_has ls 2 [(0, .ref (ad 1)), (1, .int x)] := hl
  refine lv_iload_n hx hb dX1_hasSet_0 rfl (lv_at hl 1 rfl) ?_
  refine lv_if_lt (tgt := 16) hx hb dX1_hasSet_1 (by decide) (fun b1 => ?_) (fun b1 => ?_)
  -- iflt at 1, t
  · refine lv_iconst (v := 0) hx hb dX1_hasSet_16 (by decide) ?_
    exact W.zret (v := 0) hx hb hr rfl (fun t ht hW => ⟨_, rfl, zb_f (fun h => absurd h.1 (i_le_lt.mpr b1)), ht⟩) (fun _ h => by cases h) dX1_hasSet_17
  -- iflt at 1, f
  · refine lv_iload_n hx hb dX1_hasSet_4 rfl (lv_at hl 1 rfl) ?_
    refine lv_aload_n hx hb dX1_hasSet_5 rfl (lv_at hl 0 rfl) ?_
    refine ro_V (As := []) (rest := [.int x]) (b := ad 1) ⟨hx, hb, hml, hown, hts⟩ (c_X1_allVertices l dC dI cI ad n a T H b R st O S hn) (cwV 0 hts (bw_V mq_ml_X1_25 mq_im_X1_allVertices mq_se_X1_allVertices mq_in_X1 mq_co_X1_allVertices) rfl rfl rfl (by decide +kernel) ⟨Nat.le_of_ble_eq_true rfl, Nat.le_of_ble_eq_true rfl⟩) hP hK hN 1 rfl rfl rfl hl.1 rfl (Nat.le_of_ble_eq_true rfl) dX1_hasSet_6 ⟨Nat.zero_le _, Nat.zero_le _⟩ (fun r9 h9 => ?_)
    obtain rfl : r9 = nI (2 ^ n - 1) := h9
    refine lv_icmp_gt (tgt := 16) hx hb dX1_hasSet_9 (by decide) (fun b9 => ?_) (fun b9 => ?_)
    -- if_icmpgt at 9, t
    · refine lv_iconst (v := 0) hx hb dX1_hasSet_16 (by decide) ?_
      exact W.zret (v := 0) hx hb hr rfl (fun t ht hW => ⟨_, rfl, zb_f (fun h => absurd h.2 (i_le_lt.mpr b9)), ht⟩) (fun _ h => by cases h) dX1_hasSet_17
    -- if_icmpgt at 9, f
    · refine lv_iconst (v := 1) hx hb dX1_hasSet_12 (by decide) ?_
      refine lv_goto (tgt := 17) hx hb dX1_hasSet_13 (by decide) ?_
      exact W.zret (v := 1) hx hb hr rfl (fun t ht hW => ⟨_, rfl, zb_t ⟨i_lt_le.mp b1, i_lt_le.mp b9⟩, ht⟩) (fun _ h => by cases h) dX1_hasSet_17
set_option maxHeartbeats 4000000 in
set_option maxRecDepth 100000 in
theorem c_X1_enters (l : Launch) (dC : Nat → ClassId) (dI : Nat → Nat → Nat) (cI : ClassId) (ad : Nat → Nat) (n a : Nat) (T H : Nat → Nat) (b : Nat) (R : Nat → Nat) (st : Int32) (O S : Nat → Int32) (j X : Nat) (hj : j < 14) (hX : X < 128) (hT : ∀ i, T i < 7 ∧ H i < 7) : Met l yX1_enters (wq yX1_enters cX1_enters 3 (some .boolean)) ({ frames := 0, cells := 0, slots := 0, locals := 0 }) (ro_P (dC, dI) classes [(cI, .int)] (cw ad cI n a T H b R st O S) [.ref (ad 1), .int (nI j), .int (nI X)]) (vp_Si (fun r => r = nI (ed_b (ed_en T H X j)))) 0 0 (fun _ => False) := by
  have q7 := hT j
  refine Met.ofW (cc := cX1_enters) (maxL := 3) (ret := (some .boolean)) (by decide) rfl ?_
  intro p e s m args below meth c s₁ B hml hv
  obtain ⟨rfl, hP, hK, hN⟩ := hv
  have hx := B.exec
  have hb := B.bytes
  have hr := B.returns
  have hlocks := B.notSynchronized
  have hts := atoms_spec (ws := (wq yX1_enters cX1_enters 3 (some .boolean))) B.pre
  have hw : ∀ w ∈ bigW, w.before _ s = true := fun w h => hts w (List.mem_cons_of_mem _ h)
  have hown : s.vm.findClass RX1 = some m.cls := findClass_of_methodNamed B.named
  have hl := lv_entry ([.ref (ad 1), .int (nI j), .int (nI X)]) (n := 3) (Nat.le_of_ble_eq_true rfl)
  rw [lg_entry_eq]
  generalize (lg_sl ([.ref (ad 1), .int (nI j), .int (nI X)]) ++ List.replicate (3 - (lg_sl ([.ref (ad 1), .int (nI j), .int (nI X)])).length) Slot.unset).toArray = ls at hl ⊢
  have hl : lv_has ls 3 [(0, .ref (ad 1)), (1, .int (nI j)), (2, .int (nI X))] := hl
  refine lv_iload_n hx hb dX1_enters_0 rfl (lv_at hl 2 rfl) ?_
  refine lv_iconst (v := 1) hx hb dX1_enters_1 (by decide) ?_
  refine lv_aload_n hx hb dX1_enters_2 rfl (lv_at hl 0 rfl) ?_
  refine va_get (D := (dC, dI)) (ci := 1) (v := .ref (ad 3)) (C := RX1) (T := TX1) (N := 4) hx hb hw in_X1 hown hK hP 1 rfl rfl 1 (by decide) (hw _ mq_fl_X1_15) (fun _ h9 => h9) rfl dX1_enters_3 ?_
  refine lv_iload_n hx hb dX1_enters_6 rfl (lv_at hl 1 rfl) ?_
  refine va_iald hx hb hK hP 3 0 rfl rfl (vp_in_nI hj (by decide)) dX1_enters_7 ?_
  refine lv_topi (fun z9 e9 => ?_)
  obtain rfl : z9 = nI (H j) := e9.trans (ar_at H (by omega))
  refine lv_ishl hx hb dX1_enters_8 ?_
  refine lv_iand hx hb dX1_enters_9 ?_
  refine lv_if_eq (tgt := 30) hx hb dX1_enters_10 (by decide) (fun b10 => ?_) (fun b10 => ?_)
  -- ifeq at 10, t
  · have t10 := (bi_tb (by omega) (by omega)).mp b10
    refine lv_iconst (v := 0) hx hb dX1_enters_30 (by decide) ?_
    exact W.zret (v := 0) hx hb hr rfl (fun t ht hW => ⟨_, rfl, zb_F (by rw [ed_en, t10]; rfl), ht⟩) (fun _ h => by cases h) dX1_enters_31
  -- ifeq at 10, f
  · have t10 := (bi_tn (by omega) (by omega)).mp b10
    refine lv_iload_n hx hb dX1_enters_13 rfl (lv_at hl 2 rfl) ?_
    refine lv_iconst (v := 1) hx hb dX1_enters_14 (by decide) ?_
    refine lv_aload_n hx hb dX1_enters_15 rfl (lv_at hl 0 rfl) ?_
    refine va_get (D := (dC, dI)) (ci := 1) (v := .ref (ad 2)) (C := RX1) (T := TX1) (N := 4) hx hb hw in_X1 hown hK hP 1 rfl rfl 0 (by decide) (hw _ mq_fl_X1_9) (fun _ h9 => h9) rfl dX1_enters_16 ?_
    refine lv_iload_n hx hb dX1_enters_19 rfl (lv_at hl 1 rfl) ?_
    refine va_iald hx hb hK hP 2 0 rfl rfl (vp_in_nI hj (by decide)) dX1_enters_20 ?_
    refine lv_topi (fun z9 e9 => ?_)
    obtain rfl : z9 = nI (T j) := e9.trans (ar_at T (by omega))
    refine lv_ishl hx hb dX1_enters_21 ?_
    refine lv_iand hx hb dX1_enters_22 ?_
    refine lv_if_ne (tgt := 30) hx hb dX1_enters_23 (by decide) (fun b23 => ?_) (fun b23 => ?_)
    -- ifne at 23, t
    · have t23 := (bi_tn (by omega) (by omega)).mp b23
      refine lv_iconst (v := 0) hx hb dX1_enters_30 (by decide) ?_
      exact W.zret (v := 0) hx hb hr rfl (fun t ht hW => ⟨_, rfl, zb_F (by rw [ed_en, t23, Bool.not_true, Bool.and_false]), ht⟩) (fun _ h => by cases h) dX1_enters_31
    -- ifne at 23, f
    · have t23 := (bi_tb (by omega) (by omega)).mp b23
      refine lv_iconst (v := 1) hx hb dX1_enters_26 (by decide) ?_
      refine lv_goto (tgt := 31) hx hb dX1_enters_27 (by decide) ?_
      exact W.zret (v := 1) hx hb hr rfl (fun t ht hW => ⟨_, rfl, zb_T (by rw [ed_en, t10, t23]; rfl), ht⟩) (fun _ h => by cases h) dX1_enters_31
set_option maxHeartbeats 4000000 in
set_option maxRecDepth 100000 in
theorem c_X1_entrySize (l : Launch) (dC : Nat → ClassId) (dI : Nat → Nat → Nat) (cI : ClassId) (ad : Nat → Nat) (n a : Nat) (T H : Nat → Nat) (b : Nat) (R : Nat → Nat) (st : Int32) (O S : Nat → Int32) (X : Nat) (ha : a ≤ 14) (hX : X < 128) (hT : ∀ i, T i < 7 ∧ H i < 7) : Met l yX1_entrySize (wq yX1_entrySize cX1_entrySize 4 (some .int)) ({ frames := 1, cells := 0, slots := 0, locals := 22 }) (ro_P (dC, dI) classes [(cI, .int)] (cw ad cI n a T H b R st O S) [.ref (ad 1), .int (nI X)]) (vp_Si (fun r => r = nI (rho0 T H a X))) 0 0 (fun _ => False) := by
  refine Met.ofW (cc := cX1_entrySize) (maxL := 4) (ret := (some .int)) (by decide) rfl ?_
  intro p e s m args below meth c s₁ B hml hv
  obtain ⟨rfl, hP, hK, hN⟩ := hv
  have hx := B.exec
  have hb := B.bytes
  have hr := B.returns
  have hlocks := B.notSynchronized
  have hts := atoms_spec (ws := (wq yX1_entrySize cX1_entrySize 4 (some .int))) B.pre
  have hw : ∀ w ∈ bigW, w.before _ s = true := fun w h => hts w (List.mem_cons_of_mem _ h)
  have hown : s.vm.findClass RX1 = some m.cls := findClass_of_methodNamed B.named
  have hl := lv_entry ([.ref (ad 1), .int (nI X)]) (n := 4) (Nat.le_of_ble_eq_true rfl)
  rw [lg_entry_eq]
  generalize (lg_sl ([.ref (ad 1), .int (nI X)]) ++ List.replicate (4 - (lg_sl ([.ref (ad 1), .int (nI X)])).length) Slot.unset).toArray = ls at hl ⊢
  have hl : lv_has ls 4 [(0, .ref (ad 1)), (1, .int (nI X))] := hl
  refine lv_iconst (v := nI (rho0 T H 0 X)) hx hb dX1_entrySize_0 rfl ?_
  refine lv_istore_n (lv' := [(2, .int (nI (rho0 T H 0 X))), (0, .ref (ad 1)), (1, .int (nI X))]) hx hb dX1_entrySize_1 rfl hl (by decide) rfl (fun ls hl => ?_)
  refine lv_iconst (v := nI 0) hx hb dX1_entrySize_2 (by decide) ?_
  refine lv_istore_n (lv' := [(3, .int (nI 0)), (2, .int (nI (rho0 T H 0 X))), (0, .ref (ad 1)), (1, .int (nI X))]) hx hb dX1_entrySize_3 rfl hl (by decide) rfl (fun ls hl => ?_)
  refine wl_loop (fun k9 ls => ∃ (i : Nat), a - i = k9 ∧ (i ≤ a) ∧ lv_has ls 4 [(0, .ref (ad 1)), (1, .int (nI X)), (2, .int (nI (rho0 T H i X))), (3, .int (nI i))]) ?_ _ ⟨0, rfl, by omega, lv_sub hl [2, 3, 1, 0] rfl⟩
  clear hl
  intro k9 ls ih9 h9
  obtain ⟨i, k9e, hi, hl⟩ := h9
  have ih_4 := ih9
  clear ih9
  subst k9e
  refine lv_iload_n hx hb dX1_entrySize_4 rfl (lv_at hl 3 rfl) ?_
  refine lv_aload_n hx hb dX1_entrySize_5 rfl (lv_at hl 0 rfl) ?_
  refine va_get (D := (dC, dI)) (ci := 1) (v := .int (nI a)) (C := RX1) (T := TX1) (N := 4) hx hb hw in_X1 hown hK hP 1 rfl rfl 3 (by decide) (hw _ mq_fl_X1_22) (fun _ h9 => h9) rfl dX1_entrySize_6 ?_
  refine lv_icmp_ge (tgt := 30) hx hb dX1_entrySize_9 (by decide) (fun b9 => ?_) (fun b9 => ?_)
  -- if_icmpge at 9, t
  · have t9 := (nI_leI (by omega) (by omega)).mp b9
    obtain rfl : i = a := by omega
    refine lv_iload_n hx hb dX1_entrySize_30 rfl (lv_at hl 2 rfl) ?_
    exact W.iret (v := nI (rho0 T H i X)) hx hb hr (fun t ht hW => ⟨_, rfl, rfl, ht⟩) (fun _ h => by cases h) dX1_entrySize_31
  -- if_icmpge at 9, f
  · have t9 : i < a := Nat.lt_of_not_le (fun z => b9 (nI_le z (by omega)))
    refine lv_aload_n hx hb dX1_entrySize_12 rfl (lv_at hl 0 rfl) ?_
    refine lv_iload_n hx hb dX1_entrySize_13 rfl (lv_at hl 3 rfl) ?_
    refine lv_iload_n hx hb dX1_entrySize_14 rfl (lv_at hl 1 rfl) ?_
    refine ro_V (As := [.int (nI i), .int (nI X)]) (rest := []) (b := ad 1) ⟨hx, hb, hml, hown, hts⟩ (c_X1_enters l dC dI cI ad n a T H b R st O S i X (by omega) hX hT) (cwV 2 hts (bw_V mq_ml_X1_29 mq_im_X1_enters mq_se_X1_enters mq_in_X1 mq_co_X1_enters) rfl rfl rfl (by decide +kernel) ⟨Nat.le_of_ble_eq_true rfl, Nat.le_of_ble_eq_true rfl⟩) hP hK hN 1 rfl rfl rfl hl.1 rfl (Nat.le_of_ble_eq_true rfl) dX1_entrySize_15 ⟨Nat.zero_le _, Nat.zero_le _⟩ (fun r9 h9 => ?_)
    obtain rfl : r9 = nI (ed_b (ed_en T H X i)) := h9
    refine lv_if_eq (tgt := 24) hx hb dX1_entrySize_18 (by decide) (fun b18 => ?_) (fun b18 => ?_)
    -- ifeq at 18, t
    · have t18 := zb_0.mp b18
      refine lv_iinc (k := 3) (v := nI (i + 1)) (lv' := [(3, .int (nI (i + 1))), (0, .ref (ad 1)), (1, .int (nI X)), (2, .int (nI (rho0 T H i X)))]) hx hb dX1_entrySize_24 hl rfl (ii_1 _) (by decide) rfl (fun ls hl => ?_)
      refine lv_goto (tgt := 4) hx hb dX1_entrySize_27 (by decide) ?_
      have e8 : rho0 T H (i + 1) X = rho0 T H i X := by rw [rho0_s, t18]; rfl
      rw [← e8] at hl
      exact ih_4 _ _ (by omega) ⟨i + 1, rfl, by omega, lv_sub hl [1, 2, 3, 0] rfl⟩
    -- ifeq at 18, f
    · have t18 := zb_n0.mp b18
      refine lv_iinc (k := 2) (v := nI (rho0 T H i X + 1)) (lv' := [(2, .int (nI (rho0 T H i X + 1))), (0, .ref (ad 1)), (1, .int (nI X)), (3, .int (nI i))]) hx hb dX1_entrySize_21 hl rfl (ii_1 _) (by decide) rfl (fun ls hl => ?_)
      refine lv_iinc (k := 3) (v := nI (i + 1)) (lv' := [(3, .int (nI (i + 1))), (2, .int (nI (rho0 T H i X + 1))), (0, .ref (ad 1)), (1, .int (nI X))]) hx hb dX1_entrySize_24 hl rfl (ii_1 _) (by decide) rfl (fun ls hl => ?_)
      refine lv_goto (tgt := 4) hx hb dX1_entrySize_27 (by decide) ?_
      have e8 : rho0 T H (i + 1) X = rho0 T H i X + 1 := by rw [rho0_s, t18]; rfl
      rw [← e8] at hl
      exact ih_4 _ _ (by omega) ⟨i + 1, rfl, by omega, lv_sub hl [2, 3, 1, 0] rfl⟩
set_option maxHeartbeats 4000000 in
set_option maxRecDepth 100000 in
theorem c_X0_missing (l : Launch) (dC : Nat → ClassId) (dI : Nat → Nat → Nat) (cI : ClassId) (ad : Nat → Nat) (n a : Nat) (T H : Nat → Nat) (b : Nat) (R : Nat → Nat) (st : Int32) (O S : Nat → Int32) (X : Nat) (hb3 : b ≤ 3) (hR : ∀ k, R k < 128) : Met l yX0_missing (wq yX0_missing cX0_missing 4 (some .int)) ({ frames := 0, cells := 0, slots := 0, locals := 0 }) (ro_P (dC, dI) classes [(cI, .int)] (cw ad cI n a T H b R st O S) [.ref (ad 4), .int (nI X)]) (vp_Si (fun r => r = nI (ed_mis R b X))) 0 0 (fun _ => False) := by
  refine Met.ofW (cc := cX0_missing) (maxL := 4) (ret := (some .int)) (by decide) rfl ?_
  intro p e s m args below meth c s₁ B hml hv
  obtain ⟨rfl, hP, hK, hN⟩ := hv
  have hx := B.exec
  have hb := B.bytes
  have hr := B.returns
  have hlocks := B.notSynchronized
  have hts := atoms_spec (ws := (wq yX0_missing cX0_missing 4 (some .int))) B.pre
  have hw : ∀ w ∈ bigW, w.before _ s = true := fun w h => hts w (List.mem_cons_of_mem _ h)
  have hown : s.vm.findClass RX0 = some m.cls := findClass_of_methodNamed B.named
  have hl := lv_entry ([.ref (ad 4), .int (nI X)]) (n := 4) (Nat.le_of_ble_eq_true rfl)
  rw [lg_entry_eq]
  generalize (lg_sl ([.ref (ad 4), .int (nI X)]) ++ List.replicate (4 - (lg_sl ([.ref (ad 4), .int (nI X)])).length) Slot.unset).toArray = ls at hl ⊢
  have hl : lv_has ls 4 [(0, .ref (ad 4)), (1, .int (nI X))] := hl
  refine lv_iconst (v := nI (ed_mis R 0 X)) hx hb dX0_missing_0 rfl ?_
  refine lv_istore_n (lv' := [(2, .int (nI (ed_mis R 0 X))), (0, .ref (ad 4)), (1, .int (nI X))]) hx hb dX0_missing_1 rfl hl (by decide) rfl (fun ls hl => ?_)
  refine lv_iconst (v := nI 0) hx hb dX0_missing_2 (by decide) ?_
  refine lv_istore_n (lv' := [(3, .int (nI 0)), (2, .int (nI (ed_mis R 0 X))), (0, .ref (ad 4)), (1, .int (nI X))]) hx hb dX0_missing_3 rfl hl (by decide) rfl (fun ls hl => ?_)
  refine wl_loop (fun k9 ls => ∃ (i : Nat), b - i = k9 ∧ (i ≤ b) ∧ lv_has ls 4 [(0, .ref (ad 4)), (1, .int (nI X)), (2, .int (nI (ed_mis R i X))), (3, .int (nI i))]) ?_ _ ⟨0, rfl, by omega, lv_sub hl [2, 3, 1, 0] rfl⟩
  clear hl
  intro k9 ls ih9 h9
  obtain ⟨i, k9e, hi, hl⟩ := h9
  have ih_4 := ih9
  clear ih9
  subst k9e
  refine lv_iload_n hx hb dX0_missing_4 rfl (lv_at hl 3 rfl) ?_
  refine lv_aload_n hx hb dX0_missing_5 rfl (lv_at hl 0 rfl) ?_
  refine va_get (D := (dC, dI)) (ci := 0) (v := .int (nI b)) (C := RX0) (T := TX0) (N := 2) hx hb hw in_X0 hown hK hP 4 rfl rfl 1 (by decide) (hw _ mq_fl_X0_15) (fun _ h9 => h9) rfl dX0_missing_6 ?_
  refine lv_icmp_ge (tgt := 32) hx hb dX0_missing_9 (by decide) (fun b9 => ?_) (fun b9 => ?_)
  -- if_icmpge at 9, t
  · have t9 := (nI_leI (by omega) (by omega)).mp b9
    obtain rfl : i = b := by omega
    refine lv_iload_n hx hb dX0_missing_32 rfl (lv_at hl 2 rfl) ?_
    exact W.iret (v := nI (ed_mis R i X)) hx hb hr (fun t ht hW => ⟨_, rfl, rfl, ht⟩) (fun _ h => by cases h) dX0_missing_33
  -- if_icmpge at 9, f
  · have t9 : i < b := Nat.lt_of_not_le (fun z => b9 (nI_le z (by omega)))
    have q7 := hR i
    refine lv_aload_n hx hb dX0_missing_12 rfl (lv_at hl 0 rfl) ?_
    refine va_get (D := (dC, dI)) (ci := 0) (v := .ref (ad 5)) (C := RX0) (T := TX0) (N := 2) hx hb hw in_X0 hown hK hP 4 rfl rfl 0 (by decide) (hw _ mq_fl_X0_9) (fun _ h9 => h9) rfl dX0_missing_13 ?_
    refine lv_iload_n hx hb dX0_missing_16 rfl (lv_at hl 3 rfl) ?_
    refine va_iald hx hb hK hP 5 0 rfl rfl (vp_in_nI (by omega) (by decide)) dX0_missing_17 ?_
    refine lv_topi (fun z9 e9 => ?_)
    obtain rfl : z9 = nI (R i) := e9.trans (ar_at R (by omega))
    refine lv_iload_n hx hb dX0_missing_18 rfl (lv_at hl 1 rfl) ?_
    refine lv_iand hx hb dX0_missing_19 ?_
    refine lv_if_ne (tgt := 26) hx hb dX0_missing_20 (by decide) (fun b20 => ?_) (fun b20 => ?_)
    -- ifne at 20, t
    · have t20 : ¬ R i &&& X = 0 := fun z => b20 ((bi_z (by omega)).mpr z)
      refine lv_iinc (k := 3) (v := nI (i + 1)) (lv' := [(3, .int (nI (i + 1))), (0, .ref (ad 4)), (1, .int (nI X)), (2, .int (nI (ed_mis R i X)))]) hx hb dX0_missing_26 hl rfl (ii_1 _) (by decide) rfl (fun ls hl => ?_)
      refine lv_goto (tgt := 4) hx hb dX0_missing_29 (by decide) ?_
      have e8 : ed_mis R (i + 1) X = ed_mis R i X := by rw [ed_mis_s, beq_false_of_ne t20]; rfl
      rw [← e8] at hl
      exact ih_4 _ _ (by omega) ⟨i + 1, rfl, by omega, lv_sub hl [1, 2, 3, 0] rfl⟩
    -- ifne at 20, f
    · have t20 : R i &&& X = 0 := (bi_z (by omega)).mp b20
      refine lv_iinc (k := 2) (v := nI (ed_mis R i X + 1)) (lv' := [(2, .int (nI (ed_mis R i X + 1))), (0, .ref (ad 4)), (1, .int (nI X)), (3, .int (nI i))]) hx hb dX0_missing_23 hl rfl (ii_1 _) (by decide) rfl (fun ls hl => ?_)
      refine lv_iinc (k := 3) (v := nI (i + 1)) (lv' := [(3, .int (nI (i + 1))), (2, .int (nI (ed_mis R i X + 1))), (0, .ref (ad 4)), (1, .int (nI X))]) hx hb dX0_missing_26 hl rfl (ii_1 _) (by decide) rfl (fun ls hl => ?_)
      refine lv_goto (tgt := 4) hx hb dX0_missing_29 (by decide) ?_
      have e8 : ed_mis R (i + 1) X = ed_mis R i X + 1 := by rw [ed_mis_s, beq_iff_eq.mpr t20]; rfl
      rw [← e8] at hl
      exact ih_4 _ _ (by omega) ⟨i + 1, rfl, by omega, lv_sub hl [2, 3, 1, 0] rfl⟩
set_option maxHeartbeats 4000000 in
set_option maxRecDepth 100000 in
theorem c_X1_restart (l : Launch) (dC : Nat → ClassId) (dI : Nat → Nat → Nat) (cI : ClassId) (ad : Nat → Nat) (n a : Nat) (T H : Nat → Nat) (b : Nat) (R : Nat → Nat) (st : Int32) (O S : Nat → Int32) (sz : Nat) (v : Nat) : Met l yX1_restart (wq yX1_restart cX1_restart 2 none) ({ frames := 0, cells := 0, slots := 0, locals := 0 }) (mu_P (dC, dI) classes [(cI, .int)] (cw ad cI n a T H b R st O S) sz [.ref (ad 1), .int (nI v)]) (va_Qv (fun _ : Unit => True) (mu_B (dC, dI) classes [(cI, .int)] (cw ad cI n a T H b R st O S) sz (fun _ => cw ad cI v 0 T H b R st O S)) (va_A (cw ad cI n a T H b R st O S) sz)) 0 0 (va_A (cw ad cI n a T H b R st O S) sz) := by
  refine Met.ofW (cc := cX1_restart) (maxL := 2) (ret := none) (by decide) rfl ?_
  intro p e s m args below meth c s₁ B hml hv
  obtain ⟨rfl, hsz, hP, hK, hN, hD0⟩ := hv
  have hx := B.exec
  have hb := B.bytes
  have hr := B.returns
  have hlocks := B.notSynchronized
  have hts := atoms_spec (ws := (wq yX1_restart cX1_restart 2 none)) B.pre
  have hw : ∀ w ∈ bigW, w.before _ s = true := fun w h => hts w (List.mem_cons_of_mem _ h)
  have hown : s.vm.findClass RX1 = some m.cls := findClass_of_methodNamed B.named
  subst hsz
  have hD := hD0.self (sz := s.heap.size)
  generalize hAe : va_A (cw ad cI n a T H b R st O S) s.heap.size = A at hD ⊢
  have hA : ∀ q : Nat, s.heap.size ≤ q → A q := fun q h => by rw [← hAe]; exact Or.inr h
  have hS : va_S A s.heap s.heap [] := va_S.rf
  have hl := lv_entry ([.ref (ad 1), .int (nI v)]) (n := 2) (Nat.le_of_ble_eq_true rfl)
  rw [lg_entry_eq]
  generalize (lg_sl ([.ref (ad 1), .int (nI v)]) ++ List.replicate (2 - (lg_sl ([.ref (ad 1), .int (nI v)])).length) Slot.unset).toArray = ls at hl ⊢
  have hl : lv_has ls 2 [(0, .ref (ad 1)), (1, .int (nI v))] := hl
  refine lv_aload_n hx hb dX1_restart_0 rfl (lv_at hl 0 rfl) ?_
  refine lv_iload_n hx hb dX1_restart_1 rfl (lv_at hl 1 rfl) ?_
  refine va_put (D := (dC, dI)) (ci := 1) (v := .int (nI v)) (ty := .int) (C := RX1) (T := TX1) (N := 4) hx hb hw in_X1 tyX1 tyX1_ok nmX1 hown hK hP hD hS 1 rfl rfl 2 (by decide) (hw _ mq_fl_X1_18) (fun _ h9 => h9) rfl (by decide +kernel) rfl rfl (Nat.le_of_ble_eq_true rfl) dX1_restart_2 (fun Hp locs hP hD hS => ?_)
  have hP : va_P (dC, dI) classes (cw ad cI v a T H b R st O S) Hp := hP
  have hD : va_D A (cw ad cI v a T H b R st O S) := hD
  refine lv_aload_n hx hb dX1_restart_5 rfl (lv_at hl 0 rfl) ?_
  refine lv_iconst (v := nI 0) hx hb dX1_restart_6 (by decide) ?_
  refine va_put (D := (dC, dI)) (ci := 1) (v := .int (nI 0)) (ty := .int) (C := RX1) (T := TX1) (N := 4) hx hb hw in_X1 tyX1 tyX1_ok nmX1 hown hK hP hD hS 1 rfl rfl 3 (by decide) (hw _ mq_fl_X1_22) (fun _ h9 => h9) rfl (by decide +kernel) rfl rfl (Nat.le_of_ble_eq_true rfl) dX1_restart_7 (fun Hp locs hP hD hS => ?_)
  have hP : va_P (dC, dI) classes (cw ad cI v 0 T H b R st O S) Hp := hP
  have hD : va_D A (cw ad cI v 0 T H b R st O S) := hD
  exact W.vret hx hb hr (fun t ht hW => ⟨⟨(), rfl, trivial, by rw [ht]; exact hP, va_K.moved hW.alike hK, by rw [hAe]; exact hD⟩, hS.F ht⟩) hS.2.2 dX1_restart_10
set_option maxHeartbeats 4000000 in
set_option maxRecDepth 100000 in
theorem c_X1_addArc (l : Launch) (dC : Nat → ClassId) (dI : Nat → Nat → Nat) (cI : ClassId) (ad : Nat → Nat) (n a : Nat) (T H : Nat → Nat) (b : Nat) (R : Nat → Nat) (st : Int32) (O S : Nat → Int32) (sz : Nat) (x y : Nat) (ha : a < 14) : Met l yX1_addArc (wq yX1_addArc cX1_addArc 3 none) ({ frames := 0, cells := 0, slots := 0, locals := 0 }) (mu_P (dC, dI) classes [(cI, .int)] (cw ad cI n a T H b R st O S) sz [.ref (ad 1), .int (nI x), .int (nI y)]) (va_Qv (fun _ : Unit => True) (mu_B (dC, dI) classes [(cI, .int)] (cw ad cI n a T H b R st O S) sz (fun _ => cw ad cI n (a + 1) (up T a x) (up H a y) b R st O S)) (va_A (cw ad cI n a T H b R st O S) sz)) 0 0 (va_A (cw ad cI n a T H b R st O S) sz) := by
  refine Met.ofW (cc := cX1_addArc) (maxL := 3) (ret := none) (by decide) rfl ?_
  intro p e s m args below meth c s₁ B hml hv
  obtain ⟨rfl, hsz, hP, hK, hN, hD0⟩ := hv
  have hx := B.exec
  have hb := B.bytes
  have hr := B.returns
  have hlocks := B.notSynchronized
  have hts := atoms_spec (ws := (wq yX1_addArc cX1_addArc 3 none)) B.pre
  have hw : ∀ w ∈ bigW, w.before _ s = true := fun w h => hts w (List.mem_cons_of_mem _ h)
  have hown : s.vm.findClass RX1 = some m.cls := findClass_of_methodNamed B.named
  subst hsz
  have hD := hD0.self (sz := s.heap.size)
  generalize hAe : va_A (cw ad cI n a T H b R st O S) s.heap.size = A at hD ⊢
  have hA : ∀ q : Nat, s.heap.size ≤ q → A q := fun q h => by rw [← hAe]; exact Or.inr h
  have hS : va_S A s.heap s.heap [] := va_S.rf
  have hl := lv_entry ([.ref (ad 1), .int (nI x), .int (nI y)]) (n := 3) (Nat.le_of_ble_eq_true rfl)
  rw [lg_entry_eq]
  generalize (lg_sl ([.ref (ad 1), .int (nI x), .int (nI y)]) ++ List.replicate (3 - (lg_sl ([.ref (ad 1), .int (nI x), .int (nI y)])).length) Slot.unset).toArray = ls at hl ⊢
  have hl : lv_has ls 3 [(0, .ref (ad 1)), (1, .int (nI x)), (2, .int (nI y))] := hl
  refine lv_aload_n hx hb dX1_addArc_0 rfl (lv_at hl 0 rfl) ?_
  refine va_get (D := (dC, dI)) (ci := 1) (v := .ref (ad 2)) (C := RX1) (T := TX1) (N := 4) hx hb hw in_X1 hown hK hP 1 rfl rfl 0 (by decide) (hw _ mq_fl_X1_9) (fun _ h9 => h9) rfl dX1_addArc_1 ?_
  refine lv_aload_n hx hb dX1_addArc_4 rfl (lv_at hl 0 rfl) ?_
  refine va_get (D := (dC, dI)) (ci := 1) (v := .int (nI a)) (C := RX1) (T := TX1) (N := 4) hx hb hw in_X1 hown hK hP 1 rfl rfl 3 (by decide) (hw _ mq_fl_X1_22) (fun _ h9 => h9) rfl dX1_addArc_5 ?_
  refine lv_iload_n hx hb dX1_addArc_8 rfl (lv_at hl 1 rfl) ?_
  refine va_iast hx hb hK hP hD hS 2 0 rfl rfl (vp_in_nI ha (by decide)) dX1_addArc_9 (fun Hp locs hP hD hS => ?_)
  rw [nI_clamp (show a < 2 ^ 31 by omega), ar_up] at hP hD
  have hP : va_P (dC, dI) classes (cw ad cI n a (up T a x) H b R st O S) Hp := hP
  have hD : va_D A (cw ad cI n a (up T a x) H b R st O S) := hD
  refine lv_aload_n hx hb dX1_addArc_10 rfl (lv_at hl 0 rfl) ?_
  refine va_get (D := (dC, dI)) (ci := 1) (v := .ref (ad 3)) (C := RX1) (T := TX1) (N := 4) hx hb hw in_X1 hown hK hP 1 rfl rfl 1 (by decide) (hw _ mq_fl_X1_15) (fun _ h9 => h9) rfl dX1_addArc_11 ?_
  refine lv_aload_n hx hb dX1_addArc_14 rfl (lv_at hl 0 rfl) ?_
  refine va_get (D := (dC, dI)) (ci := 1) (v := .int (nI a)) (C := RX1) (T := TX1) (N := 4) hx hb hw in_X1 hown hK hP 1 rfl rfl 3 (by decide) (hw _ mq_fl_X1_22) (fun _ h9 => h9) rfl dX1_addArc_15 ?_
  refine lv_iload_n hx hb dX1_addArc_18 rfl (lv_at hl 2 rfl) ?_
  refine va_iast hx hb hK hP hD hS 3 0 rfl rfl (vp_in_nI ha (by decide)) dX1_addArc_19 (fun Hp locs hP hD hS => ?_)
  rw [nI_clamp (show a < 2 ^ 31 by omega), ar_up] at hP hD
  have hP : va_P (dC, dI) classes (cw ad cI n a (up T a x) (up H a y) b R st O S) Hp := hP
  have hD : va_D A (cw ad cI n a (up T a x) (up H a y) b R st O S) := hD
  refine lv_aload_n hx hb dX1_addArc_20 rfl (lv_at hl 0 rfl) ?_
  refine lv_dup hx hb dX1_addArc_21 rfl ?_
  refine va_get (D := (dC, dI)) (ci := 1) (v := .int (nI a)) (C := RX1) (T := TX1) (N := 4) hx hb hw in_X1 hown hK hP 1 rfl rfl 3 (by decide) (hw _ mq_fl_X1_22) (fun _ h9 => h9) rfl dX1_addArc_22 ?_
  refine lv_iconst (v := 1) hx hb dX1_addArc_25 (by decide) ?_
  refine lv_iadd hx hb dX1_addArc_26 ?_
  refine lv_topi (fun z9 e9 => ?_)
  obtain rfl : z9 = nI (a + 1) := e9.trans (nI_1 a)
  refine va_put (D := (dC, dI)) (ci := 1) (v := .int (nI (a + 1))) (ty := .int) (C := RX1) (T := TX1) (N := 4) hx hb hw in_X1 tyX1 tyX1_ok nmX1 hown hK hP hD hS 1 rfl rfl 3 (by decide) (hw _ mq_fl_X1_22) (fun _ h9 => h9) rfl (by decide +kernel) rfl rfl (Nat.le_of_ble_eq_true rfl) dX1_addArc_27 (fun Hp locs hP hD hS => ?_)
  have hP : va_P (dC, dI) classes (cw ad cI n (a + 1) (up T a x) (up H a y) b R st O S) Hp := hP
  have hD : va_D A (cw ad cI n (a + 1) (up T a x) (up H a y) b R st O S) := hD
  exact W.vret hx hb hr (fun t ht hW => ⟨⟨(), rfl, trivial, by rw [ht]; exact hP, va_K.moved hW.alike hK, by rw [hAe]; exact hD⟩, hS.F ht⟩) hS.2.2 dX1_addArc_30
set_option maxHeartbeats 4000000 in
set_option maxRecDepth 100000 in
theorem c_X0_add (l : Launch) (dC : Nat → ClassId) (dI : Nat → Nat → Nat) (cI : ClassId) (ad : Nat → Nat) (n a : Nat) (T H : Nat → Nat) (b : Nat) (R : Nat → Nat) (st : Int32) (O S : Nat → Int32) (sz : Nat) (x : Nat) (hb3 : b < 3) : Met l yX0_add (wq yX0_add cX0_add 2 none) ({ frames := 0, cells := 0, slots := 0, locals := 0 }) (mu_P (dC, dI) classes [(cI, .int)] (cw ad cI n a T H b R st O S) sz [.ref (ad 4), .int (nI x)]) (va_Qv (fun _ : Unit => True) (mu_B (dC, dI) classes [(cI, .int)] (cw ad cI n a T H b R st O S) sz (fun _ => cw ad cI n a T H (b + 1) (up R b x) st O S)) (va_A (cw ad cI n a T H b R st O S) sz)) 0 0 (va_A (cw ad cI n a T H b R st O S) sz) := by
  refine Met.ofW (cc := cX0_add) (maxL := 2) (ret := none) (by decide) rfl ?_
  intro p e s m args below meth c s₁ B hml hv
  obtain ⟨rfl, hsz, hP, hK, hN, hD0⟩ := hv
  have hx := B.exec
  have hb := B.bytes
  have hr := B.returns
  have hlocks := B.notSynchronized
  have hts := atoms_spec (ws := (wq yX0_add cX0_add 2 none)) B.pre
  have hw : ∀ w ∈ bigW, w.before _ s = true := fun w h => hts w (List.mem_cons_of_mem _ h)
  have hown : s.vm.findClass RX0 = some m.cls := findClass_of_methodNamed B.named
  subst hsz
  have hD := hD0.self (sz := s.heap.size)
  generalize hAe : va_A (cw ad cI n a T H b R st O S) s.heap.size = A at hD ⊢
  have hA : ∀ q : Nat, s.heap.size ≤ q → A q := fun q h => by rw [← hAe]; exact Or.inr h
  have hS : va_S A s.heap s.heap [] := va_S.rf
  have hl := lv_entry ([.ref (ad 4), .int (nI x)]) (n := 2) (Nat.le_of_ble_eq_true rfl)
  rw [lg_entry_eq]
  generalize (lg_sl ([.ref (ad 4), .int (nI x)]) ++ List.replicate (2 - (lg_sl ([.ref (ad 4), .int (nI x)])).length) Slot.unset).toArray = ls at hl ⊢
  have hl : lv_has ls 2 [(0, .ref (ad 4)), (1, .int (nI x))] := hl
  refine lv_aload_n hx hb dX0_add_0 rfl (lv_at hl 0 rfl) ?_
  refine va_get (D := (dC, dI)) (ci := 0) (v := .ref (ad 5)) (C := RX0) (T := TX0) (N := 2) hx hb hw in_X0 hown hK hP 4 rfl rfl 0 (by decide) (hw _ mq_fl_X0_9) (fun _ h9 => h9) rfl dX0_add_1 ?_
  refine lv_aload_n hx hb dX0_add_4 rfl (lv_at hl 0 rfl) ?_
  refine va_get (D := (dC, dI)) (ci := 0) (v := .int (nI b)) (C := RX0) (T := TX0) (N := 2) hx hb hw in_X0 hown hK hP 4 rfl rfl 1 (by decide) (hw _ mq_fl_X0_15) (fun _ h9 => h9) rfl dX0_add_5 ?_
  refine lv_iload_n hx hb dX0_add_8 rfl (lv_at hl 1 rfl) ?_
  refine va_iast hx hb hK hP hD hS 5 0 rfl rfl (vp_in_nI hb3 (by decide)) dX0_add_9 (fun Hp locs hP hD hS => ?_)
  rw [nI_clamp (show b < 2 ^ 31 by omega), ar_up] at hP hD
  have hP : va_P (dC, dI) classes (cw ad cI n a T H b (up R b x) st O S) Hp := hP
  have hD : va_D A (cw ad cI n a T H b (up R b x) st O S) := hD
  refine lv_aload_n hx hb dX0_add_10 rfl (lv_at hl 0 rfl) ?_
  refine lv_dup hx hb dX0_add_11 rfl ?_
  refine va_get (D := (dC, dI)) (ci := 0) (v := .int (nI b)) (C := RX0) (T := TX0) (N := 2) hx hb hw in_X0 hown hK hP 4 rfl rfl 1 (by decide) (hw _ mq_fl_X0_15) (fun _ h9 => h9) rfl dX0_add_12 ?_
  refine lv_iconst (v := 1) hx hb dX0_add_15 (by decide) ?_
  refine lv_iadd hx hb dX0_add_16 ?_
  refine lv_topi (fun z9 e9 => ?_)
  obtain rfl : z9 = nI (b + 1) := e9.trans (nI_1 b)
  refine va_put (D := (dC, dI)) (ci := 0) (v := .int (nI (b + 1))) (ty := .int) (C := RX0) (T := TX0) (N := 2) hx hb hw in_X0 tyX0 tyX0_ok nmX0 hown hK hP hD hS 4 rfl rfl 1 (by decide) (hw _ mq_fl_X0_15) (fun _ h9 => h9) rfl (by decide +kernel) rfl rfl (Nat.le_of_ble_eq_true rfl) dX0_add_17 (fun Hp locs hP hD hS => ?_)
  have hP : va_P (dC, dI) classes (cw ad cI n a T H (b + 1) (up R b x) st O S) Hp := hP
  have hD : va_D A (cw ad cI n a T H (b + 1) (up R b x) st O S) := hD
  exact W.vret hx hb hr (fun t ht hW => ⟨⟨(), rfl, trivial, by rw [ht]; exact hP, va_K.moved hW.alike hK, by rw [hAe]; exact hD⟩, hS.F ht⟩) hS.2.2 dX0_add_20
set_option maxHeartbeats 4000000 in
set_option maxRecDepth 100000 in
theorem c_X1_removeArc (l : Launch) (dC : Nat → ClassId) (dI : Nat → Nat → Nat) (cI : ClassId) (ad : Nat → Nat) (n a : Nat) (T H : Nat → Nat) (b : Nat) (R : Nat → Nat) (st : Int32) (O S : Nat → Int32) (sz : Nat) (j : Nat) (hj : j < a) (ha : a ≤ 14) : Met l yX1_removeArc (wq yX1_removeArc cX1_removeArc 3 none) ({ frames := 0, cells := 0, slots := 0, locals := 0 }) (mu_P (dC, dI) classes [(cI, .int)] (cw ad cI n a T H b R st O S) sz [.ref (ad 1), .int (nI j)]) (va_Qv (fun _ : Unit => True) (mu_B (dC, dI) classes [(cI, .int)] (cw ad cI n a T H b R st O S) sz (fun _ => cw ad cI n (a - 1) (rm_f T j (a - 1)) (rm_f H j (a - 1)) b R st O S)) (va_A (cw ad cI n a T H b R st O S) sz)) 0 0 (va_A (cw ad cI n a T H b R st O S) sz) := by
  refine Met.ofW (cc := cX1_removeArc) (maxL := 3) (ret := none) (by decide) rfl ?_
  intro p e s m args below meth c s₁ B hml hv
  obtain ⟨rfl, hsz, hP, hK, hN, hD0⟩ := hv
  have hx := B.exec
  have hb := B.bytes
  have hr := B.returns
  have hlocks := B.notSynchronized
  have hts := atoms_spec (ws := (wq yX1_removeArc cX1_removeArc 3 none)) B.pre
  have hw : ∀ w ∈ bigW, w.before _ s = true := fun w h => hts w (List.mem_cons_of_mem _ h)
  have hown : s.vm.findClass RX1 = some m.cls := findClass_of_methodNamed B.named
  subst hsz
  have hD := hD0.self (sz := s.heap.size)
  generalize hAe : va_A (cw ad cI n a T H b R st O S) s.heap.size = A at hD ⊢
  have hA : ∀ q : Nat, s.heap.size ≤ q → A q := fun q h => by rw [← hAe]; exact Or.inr h
  have hS : va_S A s.heap s.heap [] := va_S.rf
  have hl := lv_entry ([.ref (ad 1), .int (nI j)]) (n := 3) (Nat.le_of_ble_eq_true rfl)
  rw [lg_entry_eq]
  generalize (lg_sl ([.ref (ad 1), .int (nI j)]) ++ List.replicate (3 - (lg_sl ([.ref (ad 1), .int (nI j)])).length) Slot.unset).toArray = ls at hl ⊢
  have hl : lv_has ls 3 [(0, .ref (ad 1)), (1, .int (nI j))] := hl
  refine lv_aload_n hx hb dX1_removeArc_0 rfl (lv_at hl 0 rfl) ?_
  refine lv_dup hx hb dX1_removeArc_1 rfl ?_
  refine va_get (D := (dC, dI)) (ci := 1) (v := .int (nI a)) (C := RX1) (T := TX1) (N := 4) hx hb hw in_X1 hown hK hP 1 rfl rfl 3 (by decide) (hw _ mq_fl_X1_22) (fun _ h9 => h9) rfl dX1_removeArc_2 ?_
  refine lv_iconst (v := 1) hx hb dX1_removeArc_5 (by decide) ?_
  refine lv_isub hx hb dX1_removeArc_6 ?_
  refine lv_topi (fun z9 e9 => ?_)
  obtain rfl : z9 = nI (a - 1) := e9.trans (pk_sub (b := 1) (by omega))
  refine va_put (D := (dC, dI)) (ci := 1) (v := .int (nI (a - 1))) (ty := .int) (C := RX1) (T := TX1) (N := 4) hx hb hw in_X1 tyX1 tyX1_ok nmX1 hown hK hP hD hS 1 rfl rfl 3 (by decide) (hw _ mq_fl_X1_22) (fun _ h9 => h9) rfl (by decide +kernel) rfl rfl (Nat.le_of_ble_eq_true rfl) dX1_removeArc_7 (fun Hp locs hP hD hS => ?_)
  have hP : va_P (dC, dI) classes (cw ad cI n (a - 1) T H b R st O S) Hp := hP
  have hD : va_D A (cw ad cI n (a - 1) T H b R st O S) := hD
  refine lv_iload_n hx hb dX1_removeArc_10 rfl (lv_at hl 1 rfl) ?_
  refine lv_istore_n (lv' := [(2, .int (nI j)), (0, .ref (ad 1)), (1, .int (nI j))]) hx hb dX1_removeArc_11 rfl hl (by decide) rfl (fun ls hl => ?_)
  rw [← rm_0 T j, ← rm_0 H j] at hP hD
  refine wl_loopH (fun k9 Hp locs ls => ∃ (i : Nat), a - i = k9 ∧ (j ≤ i ∧ i ≤ a - 1) ∧ lv_has ls 3 [(0, .ref (ad 1)), (1, .int (nI j)), (2, .int (nI i))] ∧ va_P (dC, dI) classes (cw ad cI n (a - 1) (rm_f T j i) (rm_f H j i) b R st O S) Hp ∧ va_D A (cw ad cI n (a - 1) (rm_f T j i) (rm_f H j i) b R st O S) ∧ va_S A s.heap Hp locs) ?_ _ ⟨j, rfl, by omega, lv_sub hl [1, 2, 0] rfl, hP, hD, hS⟩
  clear hP hD hS hl
  intro k9 Hp locs ls ih9 h9
  obtain ⟨i, k9e, hi, hl, hP, hD, hS⟩ := h9
  have ih_12 := ih9
  clear ih9
  subst k9e
  refine lv_iload_n hx hb dX1_removeArc_12 rfl (lv_at hl 2 rfl) ?_
  refine lv_aload_n hx hb dX1_removeArc_13 rfl (lv_at hl 0 rfl) ?_
  refine va_get (D := (dC, dI)) (ci := 1) (v := .int (nI (a - 1))) (C := RX1) (T := TX1) (N := 4) hx hb hw in_X1 hown hK hP 1 rfl rfl 3 (by decide) (hw _ mq_fl_X1_22) (fun _ h9 => h9) rfl dX1_removeArc_14 ?_
  refine lv_icmp_ge (tgt := 54) hx hb dX1_removeArc_17 (by decide) (fun b17 => ?_) (fun b17 => ?_)
  -- if_icmpge at 17, t
  · have t17 := (nI_leI (by omega) (by omega)).mp b17
    obtain rfl : i = a - 1 := by omega
    exact W.vret hx hb hr (fun t ht hW => ⟨⟨(), rfl, trivial, by rw [ht]; exact hP, va_K.moved hW.alike hK, by rw [hAe]; exact hD⟩, hS.F ht⟩) hS.2.2 dX1_removeArc_54
  -- if_icmpge at 17, f
  · have t17 : i < a - 1 := Nat.lt_of_not_le (fun z => b17 (nI_le z (by omega)))
    refine lv_aload_n hx hb dX1_removeArc_20 rfl (lv_at hl 0 rfl) ?_
    refine va_get (D := (dC, dI)) (ci := 1) (v := .ref (ad 2)) (C := RX1) (T := TX1) (N := 4) hx hb hw in_X1 hown hK hP 1 rfl rfl 0 (by decide) (hw _ mq_fl_X1_9) (fun _ h9 => h9) rfl dX1_removeArc_21 ?_
    refine lv_iload_n hx hb dX1_removeArc_24 rfl (lv_at hl 2 rfl) ?_
    refine lv_aload_n hx hb dX1_removeArc_25 rfl (lv_at hl 0 rfl) ?_
    refine va_get (D := (dC, dI)) (ci := 1) (v := .ref (ad 2)) (C := RX1) (T := TX1) (N := 4) hx hb hw in_X1 hown hK hP 1 rfl rfl 0 (by decide) (hw _ mq_fl_X1_9) (fun _ h9 => h9) rfl dX1_removeArc_26 ?_
    refine lv_iload_n hx hb dX1_removeArc_29 rfl (lv_at hl 2 rfl) ?_
    refine lv_iconst (v := 1) hx hb dX1_removeArc_30 (by decide) ?_
    refine lv_iadd hx hb dX1_removeArc_31 ?_
    refine lv_topi (fun z9 e9 => ?_)
    obtain rfl : z9 = nI (i + 1) := e9.trans (nI_1 i)
    refine va_iald hx hb hK hP 2 0 rfl rfl (vp_in_nI (by omega) (by decide)) dX1_removeArc_32 ?_
    refine lv_topi (fun z9 e9 => ?_)
    obtain rfl : z9 = nI (rm_f T j i (i + 1)) := e9.trans (ar_at _ (by omega))
    refine va_iast hx hb hK hP hD hS 2 0 rfl rfl (vp_in_nI (by omega) (by decide)) dX1_removeArc_33 (fun Hp locs hP hD hS => ?_)
    rw [nI_clamp (show i < 2 ^ 31 by omega), ar_up, rm_s hi.1] at hP hD
    have hP : va_P (dC, dI) classes (cw ad cI n (a - 1) (rm_f T j (i + 1)) (rm_f H j i) b R st O S) Hp := hP
    have hD : va_D A (cw ad cI n (a - 1) (rm_f T j (i + 1)) (rm_f H j i) b R st O S) := hD
    refine lv_aload_n hx hb dX1_removeArc_34 rfl (lv_at hl 0 rfl) ?_
    refine va_get (D := (dC, dI)) (ci := 1) (v := .ref (ad 3)) (C := RX1) (T := TX1) (N := 4) hx hb hw in_X1 hown hK hP 1 rfl rfl 1 (by decide) (hw _ mq_fl_X1_15) (fun _ h9 => h9) rfl dX1_removeArc_35 ?_
    refine lv_iload_n hx hb dX1_removeArc_38 rfl (lv_at hl 2 rfl) ?_
    refine lv_aload_n hx hb dX1_removeArc_39 rfl (lv_at hl 0 rfl) ?_
    refine va_get (D := (dC, dI)) (ci := 1) (v := .ref (ad 3)) (C := RX1) (T := TX1) (N := 4) hx hb hw in_X1 hown hK hP 1 rfl rfl 1 (by decide) (hw _ mq_fl_X1_15) (fun _ h9 => h9) rfl dX1_removeArc_40 ?_
    refine lv_iload_n hx hb dX1_removeArc_43 rfl (lv_at hl 2 rfl) ?_
    refine lv_iconst (v := 1) hx hb dX1_removeArc_44 (by decide) ?_
    refine lv_iadd hx hb dX1_removeArc_45 ?_
    refine lv_topi (fun z9 e9 => ?_)
    obtain rfl : z9 = nI (i + 1) := e9.trans (nI_1 i)
    refine va_iald hx hb hK hP 3 0 rfl rfl (vp_in_nI (by omega) (by decide)) dX1_removeArc_46 ?_
    refine lv_topi (fun z9 e9 => ?_)
    obtain rfl : z9 = nI (rm_f H j i (i + 1)) := e9.trans (ar_at _ (by omega))
    refine va_iast hx hb hK hP hD hS 3 0 rfl rfl (vp_in_nI (by omega) (by decide)) dX1_removeArc_47 (fun Hp locs hP hD hS => ?_)
    rw [nI_clamp (show i < 2 ^ 31 by omega), ar_up, rm_s hi.1] at hP hD
    have hP : va_P (dC, dI) classes (cw ad cI n (a - 1) (rm_f T j (i + 1)) (rm_f H j (i + 1)) b R st O S) Hp := hP
    have hD : va_D A (cw ad cI n (a - 1) (rm_f T j (i + 1)) (rm_f H j (i + 1)) b R st O S) := hD
    refine lv_iinc (k := 2) (v := nI (i + 1)) (lv' := [(2, .int (nI (i + 1))), (0, .ref (ad 1)), (1, .int (nI j))]) hx hb dX1_removeArc_48 hl rfl (ii_1 _) (by decide) rfl (fun ls hl => ?_)
    refine lv_goto (tgt := 12) hx hb dX1_removeArc_51 (by decide) ?_
    exact ih_12 _ _ _ _ (by omega) ⟨i + 1, rfl, by omega, lv_sub hl [1, 2, 0] rfl, hP, hD, hS⟩

/-! BranchPacker's own methods -/
def bc1 (x : Int32) : Int32 := x - ((x.toUInt32 >>> ((1 : Int32).toUInt32 &&& Int32.toUInt32 31)).toInt32 &&& 1431655765)
def bc2 (x : Int32) : Int32 := (x &&& 858993459) + ((x.toUInt32 >>> ((2 : Int32).toUInt32 &&& Int32.toUInt32 31)).toInt32 &&& 858993459)
def bc3 (x : Int32) : Int32 := (x + (x.toUInt32 >>> ((4 : Int32).toUInt32 &&& Int32.toUInt32 31)).toInt32) &&& 252645135
def bc4 (x : Int32) : Int32 := x + (x.toUInt32 >>> ((8 : Int32).toUInt32 &&& Int32.toUInt32 31)).toInt32
def bc5 (x : Int32) : Int32 := x + (x.toUInt32 >>> ((16 : Int32).toUInt32 &&& Int32.toUInt32 31)).toInt32
theorem bc_ok : ∀ X, X < 128 → bc5 (bc4 (bc3 (bc2 (bc1 (nI X))))) &&& 63 = nI (or_pop X) := by decide +kernel
theorem ts_ne {x : Bool} (h : ¬ x = false) : x = true := by cases x <;> first | rfl | exact absurd rfl h
theorem rho0_pos {T H : Nat → Nat} {a X j : Nat} (hj : j < a) (h : ed_en T H X j = true) : 0 < rho0 T H a X := ed_ct_pos hj h
theorem tb_out {x : Int32} (z0 : ¬ x = 0) (z1 : ¬ x = 1) (z2 : ¬ x = 2) : x.toInt < 0 ∨ 2 < x.toInt := by
  have h0 : ¬ x.toInt = 0 := fun z => z0 (Int32.toInt_inj.mp (z.trans (by decide)))
  have h1 : ¬ x.toInt = 1 := fun z => z1 (Int32.toInt_inj.mp (z.trans (by decide)))
  have h2 : ¬ x.toInt = 2 := fun z => z2 (Int32.toInt_inj.mp (z.trans (by decide)))
  omega
theorem y_one {y : Int32} (h0 : ¬ y < 0) (h1 : y ≤ 1) (h2 : ¬ y = 0) : y = 1 := by
  obtain ⟨j, hj, rfl⟩ := nI_of2 (x := y) (M := 1) (n := 1) (by decide) h0 h1
  rcases Nat.lt_or_ge j 1 with z | z
  · exact absurd (by rw [show j = 0 by omega]; exact nI_0) h2
  · rw [show j = 1 by omega]
    rfl
theorem mo_s (T H : Nat → Nat) (a Y m : Nat) : mo_at T H a Y (m + 1) = if (m + 1) &&& Y = 0 then min (mo_at T H a Y m) (rho0 T H a (m + 1)) else mo_at T H a Y m := rfl
theorem mo_le (T H : Nat → Nat) (a Y m : Nat) : mo_at T H a Y m ≤ 99 := by
  induction m with
  | zero => exact Nat.le_refl _
  | succ m ih =>
    rw [mo_s]
    split
    · omega
    · exact ih
theorem mn_nI {u v : Nat} (hu : u < 2 ^ 31) (hv : v < 2 ^ 31) : (if nI v < nI u then nI v else nI u) = nI (min u v) := by
  by_cases h : v < u
  · rw [if_pos (nI_lt h hu), show min u v = v by omega]
  · rw [if_neg (nI_nlt (by omega) hv), show min u v = u by omega]
set_option maxHeartbeats 4000000 in
set_option maxRecDepth 100000 in
theorem c_J6_bitCount (l : Launch) (dC : Nat → ClassId) (dI : Nat → Nat → Nat) (cI : ClassId) (ad : Nat → Nat) (n a : Nat) (T H : Nat → Nat) (b : Nat) (R : Nat → Nat) (st : Int32) (O S : Nat → Int32) (X : Nat) (hX : X < 128) : Met l yJ6_bitCount (wq yJ6_bitCount cJ6_bitCount 1 (some .int)) ({ frames := 0, cells := 0, slots := 0, locals := 0 }) (ro_P (dC, dI) classes [(cI, .int)] (cw ad cI n a T H b R st O S) [.int (nI X)]) (vp_Si (fun r => r = nI (or_pop X))) 0 0 (fun _ => False) := by
  refine Met.ofW (cc := cJ6_bitCount) (maxL := 1) (ret := (some .int)) (by decide) rfl ?_
  intro p e s m args below meth c s₁ B hml hv
  obtain ⟨rfl, hP, hK, hN⟩ := hv
  have hx := B.exec
  have hb := B.bytes
  have hr := B.returns
  have hlocks := B.notSynchronized
  have hts := atoms_spec (ws := (wq yJ6_bitCount cJ6_bitCount 1 (some .int))) B.pre
  have hw : ∀ w ∈ bigW, w.before _ s = true := fun w h => hts w (List.mem_cons_of_mem _ h)
  have hown : s.vm.findClass RJ6 = some m.cls := findClass_of_methodNamed B.named
  have hl := lv_entry ([.int (nI X)]) (n := 1) (Nat.le_of_ble_eq_true rfl)
  rw [lg_entry_eq]
  generalize (lg_sl ([.int (nI X)]) ++ List.replicate (1 - (lg_sl ([.int (nI X)])).length) Slot.unset).toArray = ls at hl ⊢
  have hl : lv_has ls 1 [(0, .int (nI X))] := hl
  refine lv_iload_n hx hb dJ6_bitCount_0 rfl (lv_at hl 0 rfl) ?_
  refine lv_iload_n hx hb dJ6_bitCount_1 rfl (lv_at hl 0 rfl) ?_
  refine lv_iconst (v := 1) hx hb dJ6_bitCount_2 (by decide) ?_
  refine lv_iushr hx hb dJ6_bitCount_3 rfl ?_
  refine lv_ldcw (v := 1431655765) hx hb hown (hw _ mq_k_J6_265) dJ6_bitCount_4 ?_
  refine lv_iand hx hb dJ6_bitCount_7 ?_
  refine lv_isub hx hb dJ6_bitCount_8 ?_
  refine lv_topi (fun z9 e9 => ?_)
  obtain rfl : z9 = bc1 (nI X) := e9.trans (rfl)
  refine lv_istore_n (lv' := [(0, .int (bc1 (nI X)))]) hx hb dJ6_bitCount_9 rfl hl (by decide) rfl (fun ls hl => ?_)
  refine lv_iload_n hx hb dJ6_bitCount_10 rfl (lv_at hl 0 rfl) ?_
  refine lv_ldcw (v := 858993459) hx hb hown (hw _ mq_k_J6_266) dJ6_bitCount_11 ?_
  refine lv_iand hx hb dJ6_bitCount_14 ?_
  refine lv_iload_n hx hb dJ6_bitCount_15 rfl (lv_at hl 0 rfl) ?_
  refine lv_iconst (v := 2) hx hb dJ6_bitCount_16 (by decide) ?_
  refine lv_iushr hx hb dJ6_bitCount_17 rfl ?_
  refine lv_ldcw (v := 858993459) hx hb hown (hw _ mq_k_J6_266) dJ6_bitCount_18 ?_
  refine lv_iand hx hb dJ6_bitCount_21 ?_
  refine lv_iadd hx hb dJ6_bitCount_22 ?_
  refine lv_topi (fun z9 e9 => ?_)
  obtain rfl : z9 = bc2 (bc1 (nI X)) := e9.trans (rfl)
  refine lv_istore_n (lv' := [(0, .int (bc2 (bc1 (nI X))))]) hx hb dJ6_bitCount_23 rfl hl (by decide) rfl (fun ls hl => ?_)
  refine lv_iload_n hx hb dJ6_bitCount_24 rfl (lv_at hl 0 rfl) ?_
  refine lv_iload_n hx hb dJ6_bitCount_25 rfl (lv_at hl 0 rfl) ?_
  refine lv_iconst (v := 4) hx hb dJ6_bitCount_26 (by decide) ?_
  refine lv_iushr hx hb dJ6_bitCount_27 rfl ?_
  refine lv_iadd hx hb dJ6_bitCount_28 ?_
  refine lv_ldcw (v := 252645135) hx hb hown (hw _ mq_k_J6_267) dJ6_bitCount_29 ?_
  refine lv_iand hx hb dJ6_bitCount_32 ?_
  refine lv_topi (fun z9 e9 => ?_)
  obtain rfl : z9 = bc3 (bc2 (bc1 (nI X))) := e9.trans (rfl)
  refine lv_istore_n (lv' := [(0, .int (bc3 (bc2 (bc1 (nI X)))))]) hx hb dJ6_bitCount_33 rfl hl (by decide) rfl (fun ls hl => ?_)
  refine lv_iload_n hx hb dJ6_bitCount_34 rfl (lv_at hl 0 rfl) ?_
  refine lv_iload_n hx hb dJ6_bitCount_35 rfl (lv_at hl 0 rfl) ?_
  refine lv_bipush (v := 8) hx hb dJ6_bitCount_36 (by decide) ?_
  refine lv_iushr hx hb dJ6_bitCount_38 rfl ?_
  refine lv_iadd hx hb dJ6_bitCount_39 ?_
  refine lv_topi (fun z9 e9 => ?_)
  obtain rfl : z9 = bc4 (bc3 (bc2 (bc1 (nI X)))) := e9.trans (rfl)
  refine lv_istore_n (lv' := [(0, .int (bc4 (bc3 (bc2 (bc1 (nI X))))))]) hx hb dJ6_bitCount_40 rfl hl (by decide) rfl (fun ls hl => ?_)
  refine lv_iload_n hx hb dJ6_bitCount_41 rfl (lv_at hl 0 rfl) ?_
  refine lv_iload_n hx hb dJ6_bitCount_42 rfl (lv_at hl 0 rfl) ?_
  refine lv_bipush (v := 16) hx hb dJ6_bitCount_43 (by decide) ?_
  refine lv_iushr hx hb dJ6_bitCount_45 rfl ?_
  refine lv_iadd hx hb dJ6_bitCount_46 ?_
  refine lv_topi (fun z9 e9 => ?_)
  obtain rfl : z9 = bc5 (bc4 (bc3 (bc2 (bc1 (nI X))))) := e9.trans (rfl)
  refine lv_istore_n (lv' := [(0, .int (bc5 (bc4 (bc3 (bc2 (bc1 (nI X)))))))]) hx hb dJ6_bitCount_47 rfl hl (by decide) rfl (fun ls hl => ?_)
  refine lv_iload_n hx hb dJ6_bitCount_48 rfl (lv_at hl 0 rfl) ?_
  refine lv_bipush (v := 63) hx hb dJ6_bitCount_49 (by decide) ?_
  refine lv_iand hx hb dJ6_bitCount_51 ?_
  refine lv_topi (fun z9 e9 => ?_)
  obtain rfl : z9 = nI (or_pop X) := e9.trans (bc_ok X hX)
  exact W.iret (v := nI (or_pop X)) hx hb hr (fun t ht hW => ⟨_, rfl, rfl, ht⟩) (fun _ h => by cases h) dJ6_bitCount_52
set_option maxHeartbeats 4000000 in
set_option maxRecDepth 100000 in
theorem c_X3_comesBefore (l : Launch) (dC : Nat → ClassId) (dI : Nat → Nat → Nat) (cI : ClassId) (ad : Nat → Nat) (n a : Nat) (T H : Nat → Nat) (b : Nat) (R : Nat → Nat) (st : Int32) (O S : Nat → Int32) (X Y : Nat) (hX : X < 128) (hY : Y < 128) : Met l yX3_comesBefore (wq yX3_comesBefore cX3_comesBefore 6 (some .boolean)) ({ frames := 1, cells := 0, slots := 0, locals := 20 }) (ro_P (dC, dI) classes [(cI, .int)] (cw ad cI n a T H b R st O S) [.int (nI X), .int (nI Y)]) (vp_Si (fun r => r = nI (ed_b (or_bf X Y)))) 0 0 (fun _ => False) := by
  have zX : or_pop X ≤ 7 := ed_ct_le _ _
  have zY : or_pop Y ≤ 7 := ed_ct_le _ _
  refine Met.ofW (cc := cX3_comesBefore) (maxL := 6) (ret := (some .boolean)) (by decide) rfl ?_
  intro p e s m args below meth c s₁ B hml hv
  obtain ⟨rfl, hP, hK, hN⟩ := hv
  have hx := B.exec
  have hb := B.bytes
  have hr := B.returns
  have hlocks := B.notSynchronized
  have hts := atoms_spec (ws := (wq yX3_comesBefore cX3_comesBefore 6 (some .boolean))) B.pre
  have hw : ∀ w ∈ bigW, w.before _ s = true := fun w h => hts w (List.mem_cons_of_mem _ h)
  have hown : s.vm.findClass RX3 = some m.cls := findClass_of_methodNamed B.named
  have hl := lv_entry ([.int (nI X), .int (nI Y)]) (n := 6) (Nat.le_of_ble_eq_true rfl)
  rw [lg_entry_eq]
  generalize (lg_sl ([.int (nI X), .int (nI Y)]) ++ List.replicate (6 - (lg_sl ([.int (nI X), .int (nI Y)])).length) Slot.unset).toArray = ls at hl ⊢
  have hl : lv_has ls 6 [(0, .int (nI X)), (1, .int (nI Y))] := hl
  refine lv_iload_n hx hb dX3_comesBefore_0 rfl (lv_at hl 0 rfl) ?_
  refine ro_S (As := [.int (nI X)]) (rest := []) ⟨hx, hb, hml, hown, hts⟩ (c_J6_bitCount l dC dI cI ad n a T H b R st O S X hX) ⟨callB_of 1 hts (bw_c mq_co_J6_bitCount) rfl rfl rfl (hw _ mq_in_J6) (hw _ mq_ml_X3_112) (by decide +kernel) ⟨Nat.le_of_ble_eq_true rfl, Nat.le_of_ble_eq_true rfl⟩, hw _ mq_st_J6_bitCount⟩ hP hK hN rfl hl.1 rfl (Nat.le_of_ble_eq_true rfl) dX3_comesBefore_1 ⟨Nat.zero_le _, Nat.zero_le _⟩ (fun r9 h9 => ?_)
  obtain rfl : r9 = nI (or_pop X) := h9
  refine lv_istore_n (lv' := [(2, .int (nI (or_pop X))), (0, .int (nI X)), (1, .int (nI Y))]) hx hb dX3_comesBefore_4 rfl hl (by decide) rfl (fun ls hl => ?_)
  refine lv_iload_n hx hb dX3_comesBefore_5 rfl (lv_at hl 2 rfl) ?_
  refine ro_S (As := [.int (nI Y)]) (rest := []) ⟨hx, hb, hml, hown, hts⟩ (c_J6_bitCount l dC dI cI ad n a T H b R st O S Y hY) ⟨callB_of 1 hts (bw_c mq_co_J6_bitCount) rfl rfl rfl (hw _ mq_in_J6) (hw _ mq_ml_X3_112) (by decide +kernel) ⟨Nat.le_of_ble_eq_true rfl, Nat.le_of_ble_eq_true rfl⟩, hw _ mq_st_J6_bitCount⟩ hP hK hN rfl hl.1 rfl (Nat.le_of_ble_eq_true rfl) dX3_comesBefore_6 ⟨Nat.zero_le _, Nat.zero_le _⟩ (fun r9 h9 => ?_)
  obtain rfl : r9 = nI (or_pop Y) := h9
  refine lv_istore_n (lv' := [(3, .int (nI (or_pop Y))), (2, .int (nI (or_pop X))), (0, .int (nI X)), (1, .int (nI Y))]) hx hb dX3_comesBefore_9 rfl hl (by decide) rfl (fun ls hl => ?_)
  refine lv_iload_n hx hb dX3_comesBefore_10 rfl (lv_at hl 1 rfl) ?_
  refine lv_iload_n hx hb dX3_comesBefore_11 rfl (lv_at hl 0 rfl) ?_
  refine lv_icmp_eq (tgt := 26) hx hb dX3_comesBefore_12 (by decide) (fun b12 => ?_) (fun b12 => ?_)
  -- if_icmpeq at 12, t
  · have t12 := (nI_eq (by omega) (by omega)).mp b12
    refine lv_iload_n hx hb dX3_comesBefore_26 rfl (lv_at hl 2 rfl) ?_
    refine lv_iload_n hx hb dX3_comesBefore_27 rfl (lv_at hl 3 rfl) ?_
    refine lv_ixor hx hb dX3_comesBefore_28 ?_
    refine lv_istore (lv' := [(4, .int ((nI X) ^^^ (nI Y))), (3, .int (nI (or_pop Y))), (2, .int (nI (or_pop X))), (0, .int (nI X)), (1, .int (nI Y))]) hx hb dX3_comesBefore_29 hl (by decide) rfl (fun ls hl => ?_)
    refine lv_iload hx hb dX3_comesBefore_31 (lv_at hl 0 rfl) ?_
    refine lv_iload hx hb dX3_comesBefore_33 (lv_at hl 0 rfl) ?_
    refine lv_ineg hx hb dX3_comesBefore_35 ?_
    refine lv_iand hx hb dX3_comesBefore_36 ?_
    refine lv_istore (lv' := [(5, .int (((nI X) ^^^ (nI Y)) &&& (-((nI X) ^^^ (nI Y))))), (4, .int ((nI X) ^^^ (nI Y))), (3, .int (nI (or_pop Y))), (2, .int (nI (or_pop X))), (0, .int (nI X)), (1, .int (nI Y))]) hx hb dX3_comesBefore_37 hl (by decide) rfl (fun ls hl => ?_)
    refine lv_iload_n hx hb dX3_comesBefore_39 rfl (lv_at hl 4 rfl) ?_
    refine lv_iload hx hb dX3_comesBefore_40 (lv_at hl 0 rfl) ?_
    refine lv_iand hx hb dX3_comesBefore_42 ?_
    refine lv_if_eq (tgt := 50) hx hb dX3_comesBefore_43 (by decide) (fun b43 => ?_) (fun b43 => ?_)
    -- ifeq at 43, t
    · have t43 := (or_same hX hY).mp b43
      refine lv_iconst (v := 0) hx hb dX3_comesBefore_50 (by decide) ?_
      exact W.zret (v := 0) hx hb hr rfl (fun t ht hW => ⟨_, rfl, zb_F (by rw [or_bf, if_pos t12]; exact t43), ht⟩) (fun _ h => by cases h) dX3_comesBefore_51
    -- ifeq at 43, f
    · have t43 := ts_ne (fun z => b43 ((or_same hX hY).mpr z))
      refine lv_iconst (v := 1) hx hb dX3_comesBefore_46 (by decide) ?_
      refine lv_goto (tgt := 51) hx hb dX3_comesBefore_47 (by decide) ?_
      exact W.zret (v := 1) hx hb hr rfl (fun t ht hW => ⟨_, rfl, zb_T (by rw [or_bf, if_pos t12]; exact t43), ht⟩) (fun _ h => by cases h) dX3_comesBefore_51
  -- if_icmpeq at 12, f
  · have t12 : ¬ or_pop X = or_pop Y := fun z => b12 (by rw [z])
    refine lv_iload_n hx hb dX3_comesBefore_15 rfl (lv_at hl 1 rfl) ?_
    refine lv_iload_n hx hb dX3_comesBefore_16 rfl (lv_at hl 0 rfl) ?_
    refine lv_icmp_ge (tgt := 24) hx hb dX3_comesBefore_17 (by decide) (fun b17 => ?_) (fun b17 => ?_)
    -- if_icmpge at 17, t
    · have t17 := (nI_leI (by omega) (by omega)).mp b17
      refine lv_iconst (v := 0) hx hb dX3_comesBefore_24 (by decide) ?_
      exact W.zret (v := 0) hx hb hr rfl (fun t ht hW => ⟨_, rfl, zb_F (by rw [or_bf, if_neg t12, decide_eq_false (by omega)]), ht⟩) (fun _ h => by cases h) dX3_comesBefore_25
    -- if_icmpge at 17, f
    · have t17 := Nat.lt_of_not_le (fun z => b17 (nI_le z (by omega)))
      refine lv_iconst (v := 1) hx hb dX3_comesBefore_20 (by decide) ?_
      refine lv_goto (tgt := 25) hx hb dX3_comesBefore_21 (by decide) ?_
      exact W.zret (v := 1) hx hb hr rfl (fun t ht hW => ⟨_, rfl, zb_T (by rw [or_bf, if_neg t12, decide_eq_true t17]), ht⟩) (fun _ h => by cases h) dX3_comesBefore_25
set_option maxHeartbeats 4000000 in
set_option maxRecDepth 100000 in
theorem c_X3_stops_N (l : Launch) (dC : Nat → ClassId) (dI : Nat → Nat → Nat) (cI : ClassId) (ad : Nat → Nat) (n a : Nat) (T H : Nat → Nat) (b : Nat) (R : Nat → Nat) (st : Int32) (O S : Nat → Int32) (X : Nat) (hI : st_I n a T H b R) (hX : X < 128) : Met l yX3_stops (wq yX3_stops cX3_stops 4 (some .boolean)) ({ frames := 2, cells := 0, slots := 0, locals := 45 }) (ro_P (dC, dI) classes [(cI, .int)] (cw ad cI n a T H b R st O S) [.ref (ad 0), .int (nI X), .int (-1)]) (vp_Si (fun r => r = nI (ed_b (stp T H a R b X)))) 0 0 (fun _ => False) := by
  obtain ⟨n1, n7, a14, hT, hT2, hb3, hR3, hR⟩ := hI
  have p7 := bi_p7 n7
  have p0 := Nat.two_pow_pos n
  have z9 : rho0 T H a X ≤ a := ed_ct_le _ _
  have z8 : ed_mis R b X ≤ b := ed_ct_le _ _
  refine Met.ofW (cc := cX3_stops) (maxL := 4) (ret := (some .boolean)) (by decide) rfl ?_
  intro p e s m args below meth c s₁ B hml hv
  obtain ⟨rfl, hP, hK, hN⟩ := hv
  have hx := B.exec
  have hb := B.bytes
  have hr := B.returns
  have hlocks := B.notSynchronized
  have hts := atoms_spec (ws := (wq yX3_stops cX3_stops 4 (some .boolean))) B.pre
  have hw : ∀ w ∈ bigW, w.before _ s = true := fun w h => hts w (List.mem_cons_of_mem _ h)
  have hown : s.vm.findClass RX3 = some m.cls := findClass_of_methodNamed B.named
  have hl := lv_entry ([.ref (ad 0), .int (nI X), .int (-1)]) (n := 4) (Nat.le_of_ble_eq_true rfl)
  rw [lg_entry_eq]
  generalize (lg_sl ([.ref (ad 0), .int (nI X), .int (-1)]) ++ List.replicate (4 - (lg_sl ([.ref (ad 0), .int (nI X), .int (-1)])).length) Slot.unset).toArray = ls at hl ⊢
  have hl : lv_has ls 4 [(0, .ref (ad 0)), (1, .int (nI X)), (2, .int (-1))] := hl
  refine lv_aload_n hx hb dX3_stops_0 rfl (lv_at hl 0 rfl) ?_
  refine va_get (D := (dC, dI)) (ci := 3) (v := .ref (ad 1)) (C := RX3) (T := TX3) (N := 3) hx hb hw in_X3 hown hK hP 0 rfl rfl 0 (by decide) (hw _ mq_fl_X3_10) (fun _ h9 => h9) rfl dX3_stops_1 ?_
  refine lv_iload_n hx hb dX3_stops_4 rfl (lv_at hl 1 rfl) ?_
  refine ro_V (As := [.int (nI X)]) (rest := []) (b := ad 1) ⟨hx, hb, hml, hown, hts⟩ (c_X1_entrySize l dC dI cI ad n a T H b R st O S X a14 hX hT) (cwV 1 hts (bw_V mq_ml_X3_75 mq_im_X1_entrySize mq_se_X1_entrySize mq_in_X1 mq_co_X1_entrySize) rfl rfl rfl (by decide +kernel) ⟨Nat.le_of_ble_eq_true rfl, Nat.le_of_ble_eq_true rfl⟩) hP hK hN 1 rfl rfl rfl hl.1 rfl (Nat.le_of_ble_eq_true rfl) dX3_stops_5 ⟨Nat.zero_le _, Nat.zero_le _⟩ (fun r9 h9 => ?_)
  obtain rfl : r9 = nI (rho0 T H a X) := h9
  refine lv_istore_n (lv' := [(3, .int (nI (rho0 T H a X))), (0, .ref (ad 0)), (1, .int (nI X)), (2, .int (-1))]) hx hb dX3_stops_8 rfl hl (by decide) rfl (fun ls hl => ?_)
  refine lv_iload_n hx hb dX3_stops_9 rfl (lv_at hl 3 rfl) ?_
  refine lv_iconst (v := -1) hx hb dX3_stops_10 (by decide) ?_
  refine lv_icmp_eq (tgt := 29) hx hb dX3_stops_11 (by decide) (fun _ => ?_) (fun b9 => absurd (rfl) b9)
  refine lv_iload_n hx hb dX3_stops_29 rfl (lv_at hl 0 rfl) ?_
  refine lv_aload_n hx hb dX3_stops_30 rfl (lv_at hl 1 rfl) ?_
  refine va_get (D := (dC, dI)) (ci := 3) (v := .ref (ad 4)) (C := RX3) (T := TX3) (N := 3) hx hb hw in_X3 hown hK hP 0 rfl rfl 1 (by decide) (hw _ mq_fl_X3_19) (fun _ h9 => h9) rfl dX3_stops_31 ?_
  refine lv_iload_n hx hb dX3_stops_34 rfl (lv_at hl 2 rfl) ?_
  refine ro_V (As := [.int (nI X)]) (rest := [.int (nI (rho0 T H a X))]) (b := ad 4) ⟨hx, hb, hml, hown, hts⟩ (c_X0_missing l dC dI cI ad n a T H b R st O S X hb3 hR) (cwV 1 hts (bw_V mq_ml_X3_79 mq_im_X0_missing mq_se_X0_missing mq_in_X0 mq_co_X0_missing) rfl rfl rfl (by decide +kernel) ⟨Nat.le_of_ble_eq_true rfl, Nat.le_of_ble_eq_true rfl⟩) hP hK hN 4 rfl rfl rfl hl.1 rfl (Nat.le_of_ble_eq_true rfl) dX3_stops_35 ⟨Nat.zero_le _, Nat.zero_le _⟩ (fun r9 h9 => ?_)
  obtain rfl : r9 = nI (ed_mis R b X) := h9
  refine lv_icmp_ge (tgt := 45) hx hb dX3_stops_38 (by decide) (fun b38 => ?_) (fun b38 => ?_)
  -- if_icmpge at 38, t
  · have t38 := Nat.not_lt.mpr ((nI_leI (by omega) (by omega)).mp b38)
    refine lv_iconst (v := 0) hx hb dX3_stops_45 (by decide) ?_
    exact W.zret (v := 0) hx hb hr rfl (fun t ht hW => ⟨_, rfl, zb_F (by rw [stp, decide_eq_false (by omega)]), ht⟩) (fun _ h => by cases h) dX3_stops_46
  -- if_icmpge at 38, f
  · have t38 := Nat.lt_of_not_le (fun z => b38 (nI_le z (by omega)))
    refine lv_iconst (v := 1) hx hb dX3_stops_41 (by decide) ?_
    refine lv_goto (tgt := 46) hx hb dX3_stops_42 (by decide) ?_
    exact W.zret (v := 1) hx hb hr rfl (fun t ht hW => ⟨_, rfl, zb_T (by rw [stp, decide_eq_true t38]), ht⟩) (fun _ h => by cases h) dX3_stops_46
set_option maxHeartbeats 4000000 in
set_option maxRecDepth 100000 in
theorem c_X3_stops_J (l : Launch) (dC : Nat → ClassId) (dI : Nat → Nat → Nat) (cI : ClassId) (ad : Nat → Nat) (n a : Nat) (T H : Nat → Nat) (b : Nat) (R : Nat → Nat) (st : Int32) (O S : Nat → Int32) (X : Nat) (j : Nat) (hj : j < a) (hI : st_I n a T H b R) (hX : X < 128) : Met l yX3_stops (wq yX3_stops cX3_stops 4 (some .boolean)) ({ frames := 2, cells := 0, slots := 0, locals := 45 }) (ro_P (dC, dI) classes [(cI, .int)] (cw ad cI n a T H b R st O S) [.ref (ad 0), .int (nI X), .int (nI j)]) (vp_Si (fun r => r = nI (ed_b (stpL T H a R b j X)))) 0 0 (fun _ => False) := by
  obtain ⟨n1, n7, a14, hT, hT2, hb3, hR3, hR⟩ := hI
  have p7 := bi_p7 n7
  have p0 := Nat.two_pow_pos n
  have z9 : rho0 T H a X ≤ a := ed_ct_le _ _
  have z8 : ed_mis R b X ≤ b := ed_ct_le _ _
  refine Met.ofW (cc := cX3_stops) (maxL := 4) (ret := (some .boolean)) (by decide) rfl ?_
  intro p e s m args below meth c s₁ B hml hv
  obtain ⟨rfl, hP, hK, hN⟩ := hv
  have hx := B.exec
  have hb := B.bytes
  have hr := B.returns
  have hlocks := B.notSynchronized
  have hts := atoms_spec (ws := (wq yX3_stops cX3_stops 4 (some .boolean))) B.pre
  have hw : ∀ w ∈ bigW, w.before _ s = true := fun w h => hts w (List.mem_cons_of_mem _ h)
  have hown : s.vm.findClass RX3 = some m.cls := findClass_of_methodNamed B.named
  have hl := lv_entry ([.ref (ad 0), .int (nI X), .int (nI j)]) (n := 4) (Nat.le_of_ble_eq_true rfl)
  rw [lg_entry_eq]
  generalize (lg_sl ([.ref (ad 0), .int (nI X), .int (nI j)]) ++ List.replicate (4 - (lg_sl ([.ref (ad 0), .int (nI X), .int (nI j)])).length) Slot.unset).toArray = ls at hl ⊢
  have hl : lv_has ls 4 [(0, .ref (ad 0)), (1, .int (nI X)), (2, .int (nI j))] := hl
  refine lv_aload_n hx hb dX3_stops_0 rfl (lv_at hl 0 rfl) ?_
  refine va_get (D := (dC, dI)) (ci := 3) (v := .ref (ad 1)) (C := RX3) (T := TX3) (N := 3) hx hb hw in_X3 hown hK hP 0 rfl rfl 0 (by decide) (hw _ mq_fl_X3_10) (fun _ h9 => h9) rfl dX3_stops_1 ?_
  refine lv_iload_n hx hb dX3_stops_4 rfl (lv_at hl 1 rfl) ?_
  refine ro_V (As := [.int (nI X)]) (rest := []) (b := ad 1) ⟨hx, hb, hml, hown, hts⟩ (c_X1_entrySize l dC dI cI ad n a T H b R st O S X a14 hX hT) (cwV 1 hts (bw_V mq_ml_X3_75 mq_im_X1_entrySize mq_se_X1_entrySize mq_in_X1 mq_co_X1_entrySize) rfl rfl rfl (by decide +kernel) ⟨Nat.le_of_ble_eq_true rfl, Nat.le_of_ble_eq_true rfl⟩) hP hK hN 1 rfl rfl rfl hl.1 rfl (Nat.le_of_ble_eq_true rfl) dX3_stops_5 ⟨Nat.zero_le _, Nat.zero_le _⟩ (fun r9 h9 => ?_)
  obtain rfl : r9 = nI (rho0 T H a X) := h9
  refine lv_istore_n (lv' := [(3, .int (nI (rho0 T H a X))), (0, .ref (ad 0)), (1, .int (nI X)), (2, .int (nI j))]) hx hb dX3_stops_8 rfl hl (by decide) rfl (fun ls hl => ?_)
  refine lv_iload_n hx hb dX3_stops_9 rfl (lv_at hl 3 rfl) ?_
  refine lv_iconst (v := -1) hx hb dX3_stops_10 (by decide) ?_
  refine lv_icmp_eq (tgt := 29) hx hb dX3_stops_11 (by decide) (fun b9 => absurd b9 (ow_n14 j (by omega))) (fun _ => ?_)
  refine lv_aload_n hx hb dX3_stops_14 rfl (lv_at hl 1 rfl) ?_
  refine va_get (D := (dC, dI)) (ci := 3) (v := .ref (ad 1)) (C := RX3) (T := TX3) (N := 3) hx hb hw in_X3 hown hK hP 0 rfl rfl 0 (by decide) (hw _ mq_fl_X3_10) (fun _ h9 => h9) rfl dX3_stops_15 ?_
  refine lv_iload_n hx hb dX3_stops_18 rfl (lv_at hl 3 rfl) ?_
  refine lv_iload_n hx hb dX3_stops_19 rfl (lv_at hl 2 rfl) ?_
  refine ro_V (As := [.int (nI j), .int (nI X)]) (rest := []) (b := ad 1) ⟨hx, hb, hml, hown, hts⟩ (c_X1_enters l dC dI cI ad n a T H b R st O S j X (by omega) hX hT) (cwV 2 hts (bw_V mq_ml_X3_109 mq_im_X1_enters mq_se_X1_enters mq_in_X1 mq_co_X1_enters) rfl rfl rfl (by decide +kernel) ⟨Nat.le_of_ble_eq_true rfl, Nat.le_of_ble_eq_true rfl⟩) hP hK hN 1 rfl rfl rfl hl.1 rfl (Nat.le_of_ble_eq_true rfl) dX3_stops_20 ⟨Nat.zero_le _, Nat.zero_le _⟩ (fun r9 h9 => ?_)
  obtain rfl : r9 = nI (ed_b (ed_en T H X j)) := h9
  refine lv_if_eq (tgt := 29) hx hb dX3_stops_23 (by decide) (fun b23 => ?_) (fun b23 => ?_)
  -- ifeq at 23, t
  · have t23 := zb_0.mp b23
    refine lv_iload_n hx hb dX3_stops_29 rfl (lv_at hl 0 rfl) ?_
    refine lv_aload_n hx hb dX3_stops_30 rfl (lv_at hl 1 rfl) ?_
    refine va_get (D := (dC, dI)) (ci := 3) (v := .ref (ad 4)) (C := RX3) (T := TX3) (N := 3) hx hb hw in_X3 hown hK hP 0 rfl rfl 1 (by decide) (hw _ mq_fl_X3_19) (fun _ h9 => h9) rfl dX3_stops_31 ?_
    refine lv_iload_n hx hb dX3_stops_34 rfl (lv_at hl 2 rfl) ?_
    refine ro_V (As := [.int (nI X)]) (rest := [.int (nI (rho0 T H a X))]) (b := ad 4) ⟨hx, hb, hml, hown, hts⟩ (c_X0_missing l dC dI cI ad n a T H b R st O S X hb3 hR) (cwV 1 hts (bw_V mq_ml_X3_79 mq_im_X0_missing mq_se_X0_missing mq_in_X0 mq_co_X0_missing) rfl rfl rfl (by decide +kernel) ⟨Nat.le_of_ble_eq_true rfl, Nat.le_of_ble_eq_true rfl⟩) hP hK hN 4 rfl rfl rfl hl.1 rfl (Nat.le_of_ble_eq_true rfl) dX3_stops_35 ⟨Nat.zero_le _, Nat.zero_le _⟩ (fun r9 h9 => ?_)
    obtain rfl : r9 = nI (ed_mis R b X) := h9
    refine lv_icmp_ge (tgt := 45) hx hb dX3_stops_38 (by decide) (fun b38 => ?_) (fun b38 => ?_)
    -- if_icmpge at 38, t
    · have t38 := Nat.not_lt.mpr ((nI_leI (by omega) (by omega)).mp b38)
      refine lv_iconst (v := 0) hx hb dX3_stops_45 (by decide) ?_
      exact W.zret (v := 0) hx hb hr rfl (fun t ht hW => ⟨_, rfl, zb_F (by rw [stpL, t23]; exact decide_eq_false (by show ¬ _ - _ < _; first | exact t38 | (rw [ed_bf]; exact t38) | (rw [ed_bt]; exact t38))), ht⟩) (fun _ h => by cases h) dX3_stops_46
    -- if_icmpge at 38, f
    · have t38 := Nat.lt_of_not_le (fun z => b38 (nI_le z (by omega)))
      refine lv_iconst (v := 1) hx hb dX3_stops_41 (by decide) ?_
      refine lv_goto (tgt := 46) hx hb dX3_stops_42 (by decide) ?_
      exact W.zret (v := 1) hx hb hr rfl (fun t ht hW => ⟨_, rfl, zb_T (by rw [stpL, t23]; exact decide_eq_true t38), ht⟩) (fun _ h => by cases h) dX3_stops_46
  -- ifeq at 23, f
  · have t23 := zb_n0.mp b23
    have z7 := rho0_pos hj t23
    refine lv_iinc (k := 0) (v := nI (rho0 T H a X - 1)) (lv' := [(3, .int (nI (rho0 T H a X - 1))), (0, .ref (ad 0)), (1, .int (nI X)), (2, .int (nI j))]) hx hb dX3_stops_26 hl rfl (ii_m1 z7) (by decide) rfl (fun ls hl => ?_)
    refine lv_iload_n hx hb dX3_stops_29 rfl (lv_at hl 0 rfl) ?_
    refine lv_aload_n hx hb dX3_stops_30 rfl (lv_at hl 1 rfl) ?_
    refine va_get (D := (dC, dI)) (ci := 3) (v := .ref (ad 4)) (C := RX3) (T := TX3) (N := 3) hx hb hw in_X3 hown hK hP 0 rfl rfl 1 (by decide) (hw _ mq_fl_X3_19) (fun _ h9 => h9) rfl dX3_stops_31 ?_
    refine lv_iload_n hx hb dX3_stops_34 rfl (lv_at hl 2 rfl) ?_
    refine ro_V (As := [.int (nI X)]) (rest := [.int (nI (rho0 T H a X - 1))]) (b := ad 4) ⟨hx, hb, hml, hown, hts⟩ (c_X0_missing l dC dI cI ad n a T H b R st O S X hb3 hR) (cwV 1 hts (bw_V mq_ml_X3_79 mq_im_X0_missing mq_se_X0_missing mq_in_X0 mq_co_X0_missing) rfl rfl rfl (by decide +kernel) ⟨Nat.le_of_ble_eq_true rfl, Nat.le_of_ble_eq_true rfl⟩) hP hK hN 4 rfl rfl rfl hl.1 rfl (Nat.le_of_ble_eq_true rfl) dX3_stops_35 ⟨Nat.zero_le _, Nat.zero_le _⟩ (fun r9 h9 => ?_)
    obtain rfl : r9 = nI (ed_mis R b X) := h9
    refine lv_icmp_ge (tgt := 45) hx hb dX3_stops_38 (by decide) (fun b38 => ?_) (fun b38 => ?_)
    -- if_icmpge at 38, t
    · have t38 := Nat.not_lt.mpr ((nI_leI (by omega) (by omega)).mp b38)
      refine lv_iconst (v := 0) hx hb dX3_stops_45 (by decide) ?_
      exact W.zret (v := 0) hx hb hr rfl (fun t ht hW => ⟨_, rfl, zb_F (by rw [stpL, t23]; exact decide_eq_false (by show ¬ _ - _ < _; first | exact t38 | (rw [ed_bf]; exact t38) | (rw [ed_bt]; exact t38))), ht⟩) (fun _ h => by cases h) dX3_stops_46
    -- if_icmpge at 38, f
    · have t38 := Nat.lt_of_not_le (fun z => b38 (nI_le z (by omega)))
      refine lv_iconst (v := 1) hx hb dX3_stops_41 (by decide) ?_
      refine lv_goto (tgt := 46) hx hb dX3_stops_42 (by decide) ?_
      exact W.zret (v := 1) hx hb hr rfl (fun t ht hW => ⟨_, rfl, zb_T (by rw [stpL, t23]; exact decide_eq_true t38), ht⟩) (fun _ h => by cases h) dX3_stops_46
set_option maxHeartbeats 4000000 in
set_option maxRecDepth 100000 in
theorem c_X3_firstStopper_N (l : Launch) (dC : Nat → ClassId) (dI : Nat → Nat → Nat) (cI : ClassId) (ad : Nat → Nat) (n a : Nat) (T H : Nat → Nat) (b : Nat) (R : Nat → Nat) (st : Int32) (O S : Nat → Int32) (hI : st_I n a T H b R) : Met l yX3_firstStopper (wq yX3_firstStopper cX3_firstStopper 4 (some .int)) ({ frames := 3, cells := 0, slots := 0, locals := 68 }) (ro_P (dC, dI) classes [(cI, .int)] (cw ad cI n a T H b R st O S) [.ref (ad 0), .int (-1)]) (vp_Si (fun r => r = nI (fs_at (stp T H a R b) (2 ^ n - 1)))) 0 0 (fun _ => False) := by
  have hI0 := hI
  obtain ⟨n1, n7, a14, hT, hT2, hb3, hR3, hR⟩ := hI
  have p7 := bi_p7 n7
  have p0 := Nat.two_pow_pos n
  refine Met.ofW (cc := cX3_firstStopper) (maxL := 4) (ret := (some .int)) (by decide) rfl ?_
  intro p e s m args below meth c s₁ B hml hv
  obtain ⟨rfl, hP, hK, hN⟩ := hv
  have hx := B.exec
  have hb := B.bytes
  have hr := B.returns
  have hlocks := B.notSynchronized
  have hts := atoms_spec (ws := (wq yX3_firstStopper cX3_firstStopper 4 (some .int))) B.pre
  have hw : ∀ w ∈ bigW, w.before _ s = true := fun w h => hts w (List.mem_cons_of_mem _ h)
  have hown : s.vm.findClass RX3 = some m.cls := findClass_of_methodNamed B.named
  have hl := lv_entry ([.ref (ad 0), .int (-1)]) (n := 4) (Nat.le_of_ble_eq_true rfl)
  rw [lg_entry_eq]
  generalize (lg_sl ([.ref (ad 0), .int (-1)]) ++ List.replicate (4 - (lg_sl ([.ref (ad 0), .int (-1)])).length) Slot.unset).toArray = ls at hl ⊢
  have hl : lv_has ls 4 [(0, .ref (ad 0)), (1, .int (-1))] := hl
  refine lv_iconst (v := nI (fs_at (stp T H a R b) 0)) hx hb dX3_firstStopper_0 rfl ?_
  refine lv_istore_n (lv' := [(2, .int (nI (fs_at (stp T H a R b) 0))), (0, .ref (ad 0)), (1, .int (-1))]) hx hb dX3_firstStopper_1 rfl hl (by decide) rfl (fun ls hl => ?_)
  refine lv_iconst (v := nI (0 + 1)) hx hb dX3_firstStopper_2 (by decide) ?_
  refine lv_istore_n (lv' := [(3, .int (nI (0 + 1))), (2, .int (nI (fs_at (stp T H a R b) 0))), (0, .ref (ad 0)), (1, .int (-1))]) hx hb dX3_firstStopper_3 rfl hl (by decide) rfl (fun ls hl => ?_)
  refine wl_loop (fun k9 ls => ∃ (i : Nat), 2 ^ n - i = k9 ∧ (i ≤ 2 ^ n - 1) ∧ lv_has ls 4 [(0, .ref (ad 0)), (1, .int (-1)), (2, .int (nI (fs_at (stp T H a R b) i))), (3, .int (nI (i + 1)))]) ?_ _ ⟨0, rfl, by omega, lv_sub hl [2, 3, 1, 0] rfl⟩
  clear hl
  intro k9 ls ih9 h9
  obtain ⟨i, k9e, hi, hl⟩ := h9
  have ih_4 := ih9
  clear ih9
  subst k9e
  have z9 := fs_le (stp T H a R b) i
  refine lv_iload_n hx hb dX3_firstStopper_4 rfl (lv_at hl 3 rfl) ?_
  refine lv_aload_n hx hb dX3_firstStopper_5 rfl (lv_at hl 0 rfl) ?_
  refine va_get (D := (dC, dI)) (ci := 3) (v := .ref (ad 1)) (C := RX3) (T := TX3) (N := 3) hx hb hw in_X3 hown hK hP 0 rfl rfl 0 (by decide) (hw _ mq_fl_X3_10) (fun _ h9 => h9) rfl dX3_firstStopper_6 ?_
  refine ro_V (As := []) (rest := [.int (nI (i + 1))]) (b := ad 1) ⟨hx, hb, hml, hown, hts⟩ (c_X1_allVertices l dC dI cI ad n a T H b R st O S n7) (cwV 0 hts (bw_V mq_ml_X3_92 mq_im_X1_allVertices mq_se_X1_allVertices mq_in_X1 mq_co_X1_allVertices) rfl rfl rfl (by decide +kernel) ⟨Nat.le_of_ble_eq_true rfl, Nat.le_of_ble_eq_true rfl⟩) hP hK hN 1 rfl rfl rfl hl.1 rfl (Nat.le_of_ble_eq_true rfl) dX3_firstStopper_9 ⟨Nat.zero_le _, Nat.zero_le _⟩ (fun r9 h9 => ?_)
  obtain rfl : r9 = nI (2 ^ n - 1) := h9
  refine lv_icmp_gt (tgt := 44) hx hb dX3_firstStopper_12 (by decide) (fun b12 => ?_) (fun b12 => ?_)
  -- if_icmpgt at 12, t
  · have t12 := (nI_ltI (by omega) (by omega)).mp b12
    have e12 : i = 2 ^ n - 1 := by omega
    refine lv_iload_n hx hb dX3_firstStopper_44 rfl (lv_at hl 2 rfl) ?_
    exact W.iret (v := nI (fs_at (stp T H a R b) i)) hx hb hr (fun t ht hW => ⟨_, rfl, (by rw [e12]), ht⟩) (fun _ h => by cases h) dX3_firstStopper_45
  -- if_icmpgt at 12, f
  · have t12 : i + 1 ≤ 2 ^ n - 1 := Nat.le_of_not_lt (fun z => b12 (nI_lt z (by omega)))
    refine lv_iload_n hx hb dX3_firstStopper_15 rfl (lv_at hl 2 rfl) ?_
    refine lv_if_eq (tgt := 27) hx hb dX3_firstStopper_16 (by decide) (fun b16 => ?_) (fun b16 => ?_)
    -- ifeq at 16, t
    · have t16 : fs_at (stp T H a R b) i = 0 := (nI_eq (by omega) (by decide)).mp (b16.trans nI_0.symm)
      refine lv_aload_n hx hb dX3_firstStopper_27 rfl (lv_at hl 0 rfl) ?_
      refine lv_iload_n hx hb dX3_firstStopper_28 rfl (lv_at hl 3 rfl) ?_
      refine lv_iload_n hx hb dX3_firstStopper_29 rfl (lv_at hl 1 rfl) ?_
      refine ro_V (As := [.int (nI (i + 1)), .int (-1)]) (rest := []) (b := ad 0) ⟨hx, hb, hml, hown, hts⟩ (c_X3_stops_N l dC dI cI ad n a T H b R st O S (i + 1) hI0 (by omega)) (cwV 2 hts (bw_V mq_ml_X3_106 mq_im_X3_stops mq_se_X3_stops mq_in_X3 mq_co_X3_stops) rfl rfl rfl (by decide +kernel) ⟨Nat.le_of_ble_eq_true rfl, Nat.le_of_ble_eq_true rfl⟩) hP hK hN 0 rfl rfl rfl hl.1 rfl (Nat.le_of_ble_eq_true rfl) dX3_firstStopper_30 ⟨Nat.zero_le _, Nat.zero_le _⟩ (fun r9 h9 => ?_)
      obtain rfl : r9 = nI (ed_b ((stp T H a R b) (i + 1))) := h9
      refine lv_if_eq (tgt := 38) hx hb dX3_firstStopper_33 (by decide) (fun b33 => ?_) (fun b33 => ?_)
      -- ifeq at 33, t
      · have t33 := zb_0.mp b33
        refine lv_iinc (k := 3) (v := nI (i + 1 + 1)) (lv' := [(3, .int (nI (i + 1 + 1))), (0, .ref (ad 0)), (1, .int (-1)), (2, .int (nI (fs_at (stp T H a R b) i)))]) hx hb dX3_firstStopper_38 hl rfl (ii_1 _) (by decide) rfl (fun ls hl => ?_)
        refine lv_goto (tgt := 4) hx hb dX3_firstStopper_41 (by decide) ?_
        have e8 : fs_at (stp T H a R b) (i + 1) = fs_at (stp T H a R b) i := by rw [fs_s, t33, Bool.and_false, if_neg (by decide)]
        replace hl := lv_sub hl [1, 2, 3, 0] rfl
        have hl : lv_has ls 4 [(0, .ref (ad 0)), (1, .int (-1)), (2, .int (nI (fs_at (stp T H a R b) (i + 1)))), (3, .int (nI (i + 1 + 1)))] := by rw [e8]; exact hl
        exact ih_4 _ _ (by omega) ⟨i + 1, rfl, by omega, lv_sub hl [0, 1, 2, 3] rfl⟩
      -- ifeq at 33, f
      · have t33 := zb_n0.mp b33
        refine lv_iload_n hx hb dX3_firstStopper_36 rfl (lv_at hl 3 rfl) ?_
        refine lv_istore_n (lv' := [(2, .int (nI (i + 1))), (0, .ref (ad 0)), (1, .int (-1)), (3, .int (nI (i + 1)))]) hx hb dX3_firstStopper_37 rfl hl (by decide) rfl (fun ls hl => ?_)
        refine lv_iinc (k := 3) (v := nI (i + 1 + 1)) (lv' := [(3, .int (nI (i + 1 + 1))), (2, .int (nI (i + 1))), (0, .ref (ad 0)), (1, .int (-1))]) hx hb dX3_firstStopper_38 hl rfl (ii_1 _) (by decide) rfl (fun ls hl => ?_)
        refine lv_goto (tgt := 4) hx hb dX3_firstStopper_41 (by decide) ?_
        have e8 : fs_at (stp T H a R b) (i + 1) = i + 1 := by rw [fs_s, t33, beq_iff_eq.mpr t16, Bool.true_or, Bool.true_and, if_pos rfl]
        replace hl := lv_sub hl [2, 3, 1, 0] rfl
        have hl : lv_has ls 4 [(0, .ref (ad 0)), (1, .int (-1)), (2, .int (nI (fs_at (stp T H a R b) (i + 1)))), (3, .int (nI (i + 1 + 1)))] := by rw [e8]; exact hl
        exact ih_4 _ _ (by omega) ⟨i + 1, rfl, by omega, lv_sub hl [0, 1, 2, 3] rfl⟩
    -- ifeq at 16, f
    · have t16 : ¬ fs_at (stp T H a R b) i = 0 := fun z => b16 (by rw [z]; exact nI_0)
      refine lv_iload_n hx hb dX3_firstStopper_19 rfl (lv_at hl 3 rfl) ?_
      refine lv_iload_n hx hb dX3_firstStopper_20 rfl (lv_at hl 2 rfl) ?_
      refine ro_S (As := [.int (nI (i + 1)), .int (nI (fs_at (stp T H a R b) i))]) (rest := []) ⟨hx, hb, hml, hown, hts⟩ (c_X3_comesBefore l dC dI cI ad n a T H b R st O S (i + 1) (fs_at (stp T H a R b) i) (by omega) (by omega)) (cwS 2 hts (bw_S mq_ml_X3_102 mq_st_X3_comesBefore mq_in_X3 mq_co_X3_comesBefore) rfl rfl rfl (by decide +kernel) ⟨Nat.le_of_ble_eq_true rfl, Nat.le_of_ble_eq_true rfl⟩) hP hK hN rfl hl.1 rfl (Nat.le_of_ble_eq_true rfl) dX3_firstStopper_21 ⟨Nat.zero_le _, Nat.zero_le _⟩ (fun r9 h9 => ?_)
      obtain rfl : r9 = nI (ed_b (or_bf (i + 1) (fs_at (stp T H a R b) i))) := h9
      refine lv_if_eq (tgt := 38) hx hb dX3_firstStopper_24 (by decide) (fun b24 => ?_) (fun b24 => ?_)
      -- ifeq at 24, t
      · have t24 := zb_0.mp b24
        refine lv_iinc (k := 3) (v := nI (i + 1 + 1)) (lv' := [(3, .int (nI (i + 1 + 1))), (0, .ref (ad 0)), (1, .int (-1)), (2, .int (nI (fs_at (stp T H a R b) i)))]) hx hb dX3_firstStopper_38 hl rfl (ii_1 _) (by decide) rfl (fun ls hl => ?_)
        refine lv_goto (tgt := 4) hx hb dX3_firstStopper_41 (by decide) ?_
        have e8 : fs_at (stp T H a R b) (i + 1) = fs_at (stp T H a R b) i := by rw [fs_s, t24, beq_false_of_ne t16, Bool.or_false, Bool.false_and, if_neg (by decide)]
        replace hl := lv_sub hl [1, 2, 3, 0] rfl
        have hl : lv_has ls 4 [(0, .ref (ad 0)), (1, .int (-1)), (2, .int (nI (fs_at (stp T H a R b) (i + 1)))), (3, .int (nI (i + 1 + 1)))] := by rw [e8]; exact hl
        exact ih_4 _ _ (by omega) ⟨i + 1, rfl, by omega, lv_sub hl [0, 1, 2, 3] rfl⟩
      -- ifeq at 24, f
      · have t24 := zb_n0.mp b24
        refine lv_aload_n hx hb dX3_firstStopper_27 rfl (lv_at hl 0 rfl) ?_
        refine lv_iload_n hx hb dX3_firstStopper_28 rfl (lv_at hl 3 rfl) ?_
        refine lv_iload_n hx hb dX3_firstStopper_29 rfl (lv_at hl 1 rfl) ?_
        refine ro_V (As := [.int (nI (i + 1)), .int (-1)]) (rest := []) (b := ad 0) ⟨hx, hb, hml, hown, hts⟩ (c_X3_stops_N l dC dI cI ad n a T H b R st O S (i + 1) hI0 (by omega)) (cwV 2 hts (bw_V mq_ml_X3_106 mq_im_X3_stops mq_se_X3_stops mq_in_X3 mq_co_X3_stops) rfl rfl rfl (by decide +kernel) ⟨Nat.le_of_ble_eq_true rfl, Nat.le_of_ble_eq_true rfl⟩) hP hK hN 0 rfl rfl rfl hl.1 rfl (Nat.le_of_ble_eq_true rfl) dX3_firstStopper_30 ⟨Nat.zero_le _, Nat.zero_le _⟩ (fun r9 h9 => ?_)
        obtain rfl : r9 = nI (ed_b ((stp T H a R b) (i + 1))) := h9
        refine lv_if_eq (tgt := 38) hx hb dX3_firstStopper_33 (by decide) (fun b33 => ?_) (fun b33 => ?_)
        -- ifeq at 33, t
        · have t33 := zb_0.mp b33
          refine lv_iinc (k := 3) (v := nI (i + 1 + 1)) (lv' := [(3, .int (nI (i + 1 + 1))), (0, .ref (ad 0)), (1, .int (-1)), (2, .int (nI (fs_at (stp T H a R b) i)))]) hx hb dX3_firstStopper_38 hl rfl (ii_1 _) (by decide) rfl (fun ls hl => ?_)
          refine lv_goto (tgt := 4) hx hb dX3_firstStopper_41 (by decide) ?_
          have e8 : fs_at (stp T H a R b) (i + 1) = fs_at (stp T H a R b) i := by rw [fs_s, t33, Bool.and_false, if_neg (by decide)]
          replace hl := lv_sub hl [1, 2, 3, 0] rfl
          have hl : lv_has ls 4 [(0, .ref (ad 0)), (1, .int (-1)), (2, .int (nI (fs_at (stp T H a R b) (i + 1)))), (3, .int (nI (i + 1 + 1)))] := by rw [e8]; exact hl
          exact ih_4 _ _ (by omega) ⟨i + 1, rfl, by omega, lv_sub hl [0, 1, 2, 3] rfl⟩
        -- ifeq at 33, f
        · have t33 := zb_n0.mp b33
          refine lv_iload_n hx hb dX3_firstStopper_36 rfl (lv_at hl 3 rfl) ?_
          refine lv_istore_n (lv' := [(2, .int (nI (i + 1))), (0, .ref (ad 0)), (1, .int (-1)), (3, .int (nI (i + 1)))]) hx hb dX3_firstStopper_37 rfl hl (by decide) rfl (fun ls hl => ?_)
          refine lv_iinc (k := 3) (v := nI (i + 1 + 1)) (lv' := [(3, .int (nI (i + 1 + 1))), (2, .int (nI (i + 1))), (0, .ref (ad 0)), (1, .int (-1))]) hx hb dX3_firstStopper_38 hl rfl (ii_1 _) (by decide) rfl (fun ls hl => ?_)
          refine lv_goto (tgt := 4) hx hb dX3_firstStopper_41 (by decide) ?_
          have e8 : fs_at (stp T H a R b) (i + 1) = i + 1 := by rw [fs_s, t33, t24, Bool.or_true, Bool.true_and, if_pos rfl]
          replace hl := lv_sub hl [2, 3, 1, 0] rfl
          have hl : lv_has ls 4 [(0, .ref (ad 0)), (1, .int (-1)), (2, .int (nI (fs_at (stp T H a R b) (i + 1)))), (3, .int (nI (i + 1 + 1)))] := by rw [e8]; exact hl
          exact ih_4 _ _ (by omega) ⟨i + 1, rfl, by omega, lv_sub hl [0, 1, 2, 3] rfl⟩
set_option maxHeartbeats 4000000 in
set_option maxRecDepth 100000 in
theorem c_X3_firstStopper_J (l : Launch) (dC : Nat → ClassId) (dI : Nat → Nat → Nat) (cI : ClassId) (ad : Nat → Nat) (n a : Nat) (T H : Nat → Nat) (b : Nat) (R : Nat → Nat) (st : Int32) (O S : Nat → Int32) (j : Nat) (hj : j < a) (hI : st_I n a T H b R) : Met l yX3_firstStopper (wq yX3_firstStopper cX3_firstStopper 4 (some .int)) ({ frames := 3, cells := 0, slots := 0, locals := 68 }) (ro_P (dC, dI) classes [(cI, .int)] (cw ad cI n a T H b R st O S) [.ref (ad 0), .int (nI j)]) (vp_Si (fun r => r = nI (fs_at (stpL T H a R b j) (2 ^ n - 1)))) 0 0 (fun _ => False) := by
  have hI0 := hI
  obtain ⟨n1, n7, a14, hT, hT2, hb3, hR3, hR⟩ := hI
  have p7 := bi_p7 n7
  have p0 := Nat.two_pow_pos n
  refine Met.ofW (cc := cX3_firstStopper) (maxL := 4) (ret := (some .int)) (by decide) rfl ?_
  intro p e s m args below meth c s₁ B hml hv
  obtain ⟨rfl, hP, hK, hN⟩ := hv
  have hx := B.exec
  have hb := B.bytes
  have hr := B.returns
  have hlocks := B.notSynchronized
  have hts := atoms_spec (ws := (wq yX3_firstStopper cX3_firstStopper 4 (some .int))) B.pre
  have hw : ∀ w ∈ bigW, w.before _ s = true := fun w h => hts w (List.mem_cons_of_mem _ h)
  have hown : s.vm.findClass RX3 = some m.cls := findClass_of_methodNamed B.named
  have hl := lv_entry ([.ref (ad 0), .int (nI j)]) (n := 4) (Nat.le_of_ble_eq_true rfl)
  rw [lg_entry_eq]
  generalize (lg_sl ([.ref (ad 0), .int (nI j)]) ++ List.replicate (4 - (lg_sl ([.ref (ad 0), .int (nI j)])).length) Slot.unset).toArray = ls at hl ⊢
  have hl : lv_has ls 4 [(0, .ref (ad 0)), (1, .int (nI j))] := hl
  refine lv_iconst (v := nI (fs_at (stpL T H a R b j) 0)) hx hb dX3_firstStopper_0 rfl ?_
  refine lv_istore_n (lv' := [(2, .int (nI (fs_at (stpL T H a R b j) 0))), (0, .ref (ad 0)), (1, .int (nI j))]) hx hb dX3_firstStopper_1 rfl hl (by decide) rfl (fun ls hl => ?_)
  refine lv_iconst (v := nI (0 + 1)) hx hb dX3_firstStopper_2 (by decide) ?_
  refine lv_istore_n (lv' := [(3, .int (nI (0 + 1))), (2, .int (nI (fs_at (stpL T H a R b j) 0))), (0, .ref (ad 0)), (1, .int (nI j))]) hx hb dX3_firstStopper_3 rfl hl (by decide) rfl (fun ls hl => ?_)
  refine wl_loop (fun k9 ls => ∃ (i : Nat), 2 ^ n - i = k9 ∧ (i ≤ 2 ^ n - 1) ∧ lv_has ls 4 [(0, .ref (ad 0)), (1, .int (nI j)), (2, .int (nI (fs_at (stpL T H a R b j) i))), (3, .int (nI (i + 1)))]) ?_ _ ⟨0, rfl, by omega, lv_sub hl [2, 3, 1, 0] rfl⟩
  clear hl
  intro k9 ls ih9 h9
  obtain ⟨i, k9e, hi, hl⟩ := h9
  have ih_4 := ih9
  clear ih9
  subst k9e
  have z9 := fs_le (stpL T H a R b j) i
  refine lv_iload_n hx hb dX3_firstStopper_4 rfl (lv_at hl 3 rfl) ?_
  refine lv_aload_n hx hb dX3_firstStopper_5 rfl (lv_at hl 0 rfl) ?_
  refine va_get (D := (dC, dI)) (ci := 3) (v := .ref (ad 1)) (C := RX3) (T := TX3) (N := 3) hx hb hw in_X3 hown hK hP 0 rfl rfl 0 (by decide) (hw _ mq_fl_X3_10) (fun _ h9 => h9) rfl dX3_firstStopper_6 ?_
  refine ro_V (As := []) (rest := [.int (nI (i + 1))]) (b := ad 1) ⟨hx, hb, hml, hown, hts⟩ (c_X1_allVertices l dC dI cI ad n a T H b R st O S n7) (cwV 0 hts (bw_V mq_ml_X3_92 mq_im_X1_allVertices mq_se_X1_allVertices mq_in_X1 mq_co_X1_allVertices) rfl rfl rfl (by decide +kernel) ⟨Nat.le_of_ble_eq_true rfl, Nat.le_of_ble_eq_true rfl⟩) hP hK hN 1 rfl rfl rfl hl.1 rfl (Nat.le_of_ble_eq_true rfl) dX3_firstStopper_9 ⟨Nat.zero_le _, Nat.zero_le _⟩ (fun r9 h9 => ?_)
  obtain rfl : r9 = nI (2 ^ n - 1) := h9
  refine lv_icmp_gt (tgt := 44) hx hb dX3_firstStopper_12 (by decide) (fun b12 => ?_) (fun b12 => ?_)
  -- if_icmpgt at 12, t
  · have t12 := (nI_ltI (by omega) (by omega)).mp b12
    have e12 : i = 2 ^ n - 1 := by omega
    refine lv_iload_n hx hb dX3_firstStopper_44 rfl (lv_at hl 2 rfl) ?_
    exact W.iret (v := nI (fs_at (stpL T H a R b j) i)) hx hb hr (fun t ht hW => ⟨_, rfl, (by rw [e12]), ht⟩) (fun _ h => by cases h) dX3_firstStopper_45
  -- if_icmpgt at 12, f
  · have t12 : i + 1 ≤ 2 ^ n - 1 := Nat.le_of_not_lt (fun z => b12 (nI_lt z (by omega)))
    refine lv_iload_n hx hb dX3_firstStopper_15 rfl (lv_at hl 2 rfl) ?_
    refine lv_if_eq (tgt := 27) hx hb dX3_firstStopper_16 (by decide) (fun b16 => ?_) (fun b16 => ?_)
    -- ifeq at 16, t
    · have t16 : fs_at (stpL T H a R b j) i = 0 := (nI_eq (by omega) (by decide)).mp (b16.trans nI_0.symm)
      refine lv_aload_n hx hb dX3_firstStopper_27 rfl (lv_at hl 0 rfl) ?_
      refine lv_iload_n hx hb dX3_firstStopper_28 rfl (lv_at hl 3 rfl) ?_
      refine lv_iload_n hx hb dX3_firstStopper_29 rfl (lv_at hl 1 rfl) ?_
      refine ro_V (As := [.int (nI (i + 1)), .int (nI j)]) (rest := []) (b := ad 0) ⟨hx, hb, hml, hown, hts⟩ (c_X3_stops_J l dC dI cI ad n a T H b R st O S (i + 1) j hj hI0 (by omega)) (cwV 2 hts (bw_V mq_ml_X3_106 mq_im_X3_stops mq_se_X3_stops mq_in_X3 mq_co_X3_stops) rfl rfl rfl (by decide +kernel) ⟨Nat.le_of_ble_eq_true rfl, Nat.le_of_ble_eq_true rfl⟩) hP hK hN 0 rfl rfl rfl hl.1 rfl (Nat.le_of_ble_eq_true rfl) dX3_firstStopper_30 ⟨Nat.zero_le _, Nat.zero_le _⟩ (fun r9 h9 => ?_)
      obtain rfl : r9 = nI (ed_b ((stpL T H a R b j) (i + 1))) := h9
      refine lv_if_eq (tgt := 38) hx hb dX3_firstStopper_33 (by decide) (fun b33 => ?_) (fun b33 => ?_)
      -- ifeq at 33, t
      · have t33 := zb_0.mp b33
        refine lv_iinc (k := 3) (v := nI (i + 1 + 1)) (lv' := [(3, .int (nI (i + 1 + 1))), (0, .ref (ad 0)), (1, .int (nI j)), (2, .int (nI (fs_at (stpL T H a R b j) i)))]) hx hb dX3_firstStopper_38 hl rfl (ii_1 _) (by decide) rfl (fun ls hl => ?_)
        refine lv_goto (tgt := 4) hx hb dX3_firstStopper_41 (by decide) ?_
        have e8 : fs_at (stpL T H a R b j) (i + 1) = fs_at (stpL T H a R b j) i := by rw [fs_s, t33, Bool.and_false, if_neg (by decide)]
        replace hl := lv_sub hl [1, 2, 3, 0] rfl
        have hl : lv_has ls 4 [(0, .ref (ad 0)), (1, .int (nI j)), (2, .int (nI (fs_at (stpL T H a R b j) (i + 1)))), (3, .int (nI (i + 1 + 1)))] := by rw [e8]; exact hl
        exact ih_4 _ _ (by omega) ⟨i + 1, rfl, by omega, lv_sub hl [0, 1, 2, 3] rfl⟩
      -- ifeq at 33, f
      · have t33 := zb_n0.mp b33
        refine lv_iload_n hx hb dX3_firstStopper_36 rfl (lv_at hl 3 rfl) ?_
        refine lv_istore_n (lv' := [(2, .int (nI (i + 1))), (0, .ref (ad 0)), (1, .int (nI j)), (3, .int (nI (i + 1)))]) hx hb dX3_firstStopper_37 rfl hl (by decide) rfl (fun ls hl => ?_)
        refine lv_iinc (k := 3) (v := nI (i + 1 + 1)) (lv' := [(3, .int (nI (i + 1 + 1))), (2, .int (nI (i + 1))), (0, .ref (ad 0)), (1, .int (nI j))]) hx hb dX3_firstStopper_38 hl rfl (ii_1 _) (by decide) rfl (fun ls hl => ?_)
        refine lv_goto (tgt := 4) hx hb dX3_firstStopper_41 (by decide) ?_
        have e8 : fs_at (stpL T H a R b j) (i + 1) = i + 1 := by rw [fs_s, t33, beq_iff_eq.mpr t16, Bool.true_or, Bool.true_and, if_pos rfl]
        replace hl := lv_sub hl [2, 3, 1, 0] rfl
        have hl : lv_has ls 4 [(0, .ref (ad 0)), (1, .int (nI j)), (2, .int (nI (fs_at (stpL T H a R b j) (i + 1)))), (3, .int (nI (i + 1 + 1)))] := by rw [e8]; exact hl
        exact ih_4 _ _ (by omega) ⟨i + 1, rfl, by omega, lv_sub hl [0, 1, 2, 3] rfl⟩
    -- ifeq at 16, f
    · have t16 : ¬ fs_at (stpL T H a R b j) i = 0 := fun z => b16 (by rw [z]; exact nI_0)
      refine lv_iload_n hx hb dX3_firstStopper_19 rfl (lv_at hl 3 rfl) ?_
      refine lv_iload_n hx hb dX3_firstStopper_20 rfl (lv_at hl 2 rfl) ?_
      refine ro_S (As := [.int (nI (i + 1)), .int (nI (fs_at (stpL T H a R b j) i))]) (rest := []) ⟨hx, hb, hml, hown, hts⟩ (c_X3_comesBefore l dC dI cI ad n a T H b R st O S (i + 1) (fs_at (stpL T H a R b j) i) (by omega) (by omega)) (cwS 2 hts (bw_S mq_ml_X3_102 mq_st_X3_comesBefore mq_in_X3 mq_co_X3_comesBefore) rfl rfl rfl (by decide +kernel) ⟨Nat.le_of_ble_eq_true rfl, Nat.le_of_ble_eq_true rfl⟩) hP hK hN rfl hl.1 rfl (Nat.le_of_ble_eq_true rfl) dX3_firstStopper_21 ⟨Nat.zero_le _, Nat.zero_le _⟩ (fun r9 h9 => ?_)
      obtain rfl : r9 = nI (ed_b (or_bf (i + 1) (fs_at (stpL T H a R b j) i))) := h9
      refine lv_if_eq (tgt := 38) hx hb dX3_firstStopper_24 (by decide) (fun b24 => ?_) (fun b24 => ?_)
      -- ifeq at 24, t
      · have t24 := zb_0.mp b24
        refine lv_iinc (k := 3) (v := nI (i + 1 + 1)) (lv' := [(3, .int (nI (i + 1 + 1))), (0, .ref (ad 0)), (1, .int (nI j)), (2, .int (nI (fs_at (stpL T H a R b j) i)))]) hx hb dX3_firstStopper_38 hl rfl (ii_1 _) (by decide) rfl (fun ls hl => ?_)
        refine lv_goto (tgt := 4) hx hb dX3_firstStopper_41 (by decide) ?_
        have e8 : fs_at (stpL T H a R b j) (i + 1) = fs_at (stpL T H a R b j) i := by rw [fs_s, t24, beq_false_of_ne t16, Bool.or_false, Bool.false_and, if_neg (by decide)]
        replace hl := lv_sub hl [1, 2, 3, 0] rfl
        have hl : lv_has ls 4 [(0, .ref (ad 0)), (1, .int (nI j)), (2, .int (nI (fs_at (stpL T H a R b j) (i + 1)))), (3, .int (nI (i + 1 + 1)))] := by rw [e8]; exact hl
        exact ih_4 _ _ (by omega) ⟨i + 1, rfl, by omega, lv_sub hl [0, 1, 2, 3] rfl⟩
      -- ifeq at 24, f
      · have t24 := zb_n0.mp b24
        refine lv_aload_n hx hb dX3_firstStopper_27 rfl (lv_at hl 0 rfl) ?_
        refine lv_iload_n hx hb dX3_firstStopper_28 rfl (lv_at hl 3 rfl) ?_
        refine lv_iload_n hx hb dX3_firstStopper_29 rfl (lv_at hl 1 rfl) ?_
        refine ro_V (As := [.int (nI (i + 1)), .int (nI j)]) (rest := []) (b := ad 0) ⟨hx, hb, hml, hown, hts⟩ (c_X3_stops_J l dC dI cI ad n a T H b R st O S (i + 1) j hj hI0 (by omega)) (cwV 2 hts (bw_V mq_ml_X3_106 mq_im_X3_stops mq_se_X3_stops mq_in_X3 mq_co_X3_stops) rfl rfl rfl (by decide +kernel) ⟨Nat.le_of_ble_eq_true rfl, Nat.le_of_ble_eq_true rfl⟩) hP hK hN 0 rfl rfl rfl hl.1 rfl (Nat.le_of_ble_eq_true rfl) dX3_firstStopper_30 ⟨Nat.zero_le _, Nat.zero_le _⟩ (fun r9 h9 => ?_)
        obtain rfl : r9 = nI (ed_b ((stpL T H a R b j) (i + 1))) := h9
        refine lv_if_eq (tgt := 38) hx hb dX3_firstStopper_33 (by decide) (fun b33 => ?_) (fun b33 => ?_)
        -- ifeq at 33, t
        · have t33 := zb_0.mp b33
          refine lv_iinc (k := 3) (v := nI (i + 1 + 1)) (lv' := [(3, .int (nI (i + 1 + 1))), (0, .ref (ad 0)), (1, .int (nI j)), (2, .int (nI (fs_at (stpL T H a R b j) i)))]) hx hb dX3_firstStopper_38 hl rfl (ii_1 _) (by decide) rfl (fun ls hl => ?_)
          refine lv_goto (tgt := 4) hx hb dX3_firstStopper_41 (by decide) ?_
          have e8 : fs_at (stpL T H a R b j) (i + 1) = fs_at (stpL T H a R b j) i := by rw [fs_s, t33, Bool.and_false, if_neg (by decide)]
          replace hl := lv_sub hl [1, 2, 3, 0] rfl
          have hl : lv_has ls 4 [(0, .ref (ad 0)), (1, .int (nI j)), (2, .int (nI (fs_at (stpL T H a R b j) (i + 1)))), (3, .int (nI (i + 1 + 1)))] := by rw [e8]; exact hl
          exact ih_4 _ _ (by omega) ⟨i + 1, rfl, by omega, lv_sub hl [0, 1, 2, 3] rfl⟩
        -- ifeq at 33, f
        · have t33 := zb_n0.mp b33
          refine lv_iload_n hx hb dX3_firstStopper_36 rfl (lv_at hl 3 rfl) ?_
          refine lv_istore_n (lv' := [(2, .int (nI (i + 1))), (0, .ref (ad 0)), (1, .int (nI j)), (3, .int (nI (i + 1)))]) hx hb dX3_firstStopper_37 rfl hl (by decide) rfl (fun ls hl => ?_)
          refine lv_iinc (k := 3) (v := nI (i + 1 + 1)) (lv' := [(3, .int (nI (i + 1 + 1))), (2, .int (nI (i + 1))), (0, .ref (ad 0)), (1, .int (nI j))]) hx hb dX3_firstStopper_38 hl rfl (ii_1 _) (by decide) rfl (fun ls hl => ?_)
          refine lv_goto (tgt := 4) hx hb dX3_firstStopper_41 (by decide) ?_
          have e8 : fs_at (stpL T H a R b j) (i + 1) = i + 1 := by rw [fs_s, t33, t24, Bool.or_true, Bool.true_and, if_pos rfl]
          replace hl := lv_sub hl [2, 3, 1, 0] rfl
          have hl : lv_has ls 4 [(0, .ref (ad 0)), (1, .int (nI j)), (2, .int (nI (fs_at (stpL T H a R b j) (i + 1)))), (3, .int (nI (i + 1 + 1)))] := by rw [e8]; exact hl
          exact ih_4 _ _ (by omega) ⟨i + 1, rfl, by omega, lv_sub hl [0, 1, 2, 3] rfl⟩
set_option maxHeartbeats 4000000 in
set_option maxRecDepth 100000 in
theorem c_X3_packs (l : Launch) (dC : Nat → ClassId) (dI : Nat → Nat → Nat) (cI : ClassId) (ad : Nat → Nat) (n a : Nat) (T H : Nat → Nat) (b : Nat) (R : Nat → Nat) (st : Int32) (O S : Nat → Int32) (hI : st_I n a T H b R) : Met l yX3_packs (wq yX3_packs cX3_packs 1 (some .boolean)) ({ frames := 4, cells := 0, slots := 0, locals := 91 }) (ro_P (dC, dI) classes [(cI, .int)] (cw ad cI n a T H b R st O S) [.ref (ad 0)]) (vp_Si (fun r => r = nI (ed_b (paF n a T H b R)))) 0 0 (fun _ => False) := by
  have hI0 := hI
  obtain ⟨n1, n7, a14, hT, hT2, hb3, hR3, hR⟩ := hI
  have p7 := bi_p7 n7
  have p0 := Nat.two_pow_pos n
  have z9 : spF n a T H b R ≤ 2 ^ n - 1 := fs_le _ _
  refine Met.ofW (cc := cX3_packs) (maxL := 1) (ret := (some .boolean)) (by decide) rfl ?_
  intro p e s m args below meth c s₁ B hml hv
  obtain ⟨rfl, hP, hK, hN⟩ := hv
  have hx := B.exec
  have hb := B.bytes
  have hr := B.returns
  have hlocks := B.notSynchronized
  have hts := atoms_spec (ws := (wq yX3_packs cX3_packs 1 (some .boolean))) B.pre
  have hw : ∀ w ∈ bigW, w.before _ s = true := fun w h => hts w (List.mem_cons_of_mem _ h)
  have hown : s.vm.findClass RX3 = some m.cls := findClass_of_methodNamed B.named
  have hl := lv_entry ([.ref (ad 0)]) (n := 1) (Nat.le_of_ble_eq_true rfl)
  rw [lg_entry_eq]
  generalize (lg_sl ([.ref (ad 0)]) ++ List.replicate (1 - (lg_sl ([.ref (ad 0)])).length) Slot.unset).toArray = ls at hl ⊢
  have hl : lv_has ls 1 [(0, .ref (ad 0))] := hl
  refine lv_aload_n hx hb dX3_packs_0 rfl (lv_at hl 0 rfl) ?_
  refine lv_iconst (v := -1) hx hb dX3_packs_1 (by decide) ?_
  refine ro_V (As := [.int (-1)]) (rest := []) (b := ad 0) ⟨hx, hb, hml, hown, hts⟩ (c_X3_firstStopper_N l dC dI cI ad n a T H b R st O S hI0) (cwV 1 hts (bw_V mq_ml_X3_82 mq_im_X3_firstStopper mq_se_X3_firstStopper mq_in_X3 mq_co_X3_firstStopper) rfl rfl rfl (by decide +kernel) ⟨Nat.le_of_ble_eq_true rfl, Nat.le_of_ble_eq_true rfl⟩) hP hK hN 0 rfl rfl rfl hl.1 rfl (Nat.le_of_ble_eq_true rfl) dX3_packs_2 ⟨Nat.zero_le _, Nat.zero_le _⟩ (fun r9 h9 => ?_)
  obtain rfl : r9 = nI (spF n a T H b R) := h9
  refine lv_if_ne (tgt := 12) hx hb dX3_packs_5 (by decide) (fun b5 => ?_) (fun b5 => ?_)
  -- ifne at 5, t
  · have t5 : ¬ spF n a T H b R = 0 := fun z => b5 (by rw [z]; exact nI_0)
    refine lv_iconst (v := 0) hx hb dX3_packs_12 (by decide) ?_
    exact W.zret (v := 0) hx hb hr rfl (fun t ht hW => ⟨_, rfl, zb_F (by rw [paF, decide_eq_false t5]), ht⟩) (fun _ h => by cases h) dX3_packs_13
  -- ifne at 5, f
  · have t5 : spF n a T H b R = 0 := (nI_eq (by omega) (by decide)).mp (b5.trans nI_0.symm)
    refine lv_iconst (v := 1) hx hb dX3_packs_8 (by decide) ?_
    refine lv_goto (tgt := 13) hx hb dX3_packs_9 (by decide) ?_
    exact W.zret (v := 1) hx hb hr rfl (fun t ht hW => ⟨_, rfl, zb_T (by rw [paF, decide_eq_true t5]), ht⟩) (fun _ h => by cases h) dX3_packs_13
set_option maxHeartbeats 4000000 in
set_option maxRecDepth 100000 in
theorem c_X3_stopper (l : Launch) (dC : Nat → ClassId) (dI : Nat → Nat → Nat) (cI : ClassId) (ad : Nat → Nat) (n a : Nat) (T H : Nat → Nat) (b : Nat) (R : Nat → Nat) (st : Int32) (O S : Nat → Int32) (hI : st_I n a T H b R) : Met l yX3_stopper (wq yX3_stopper cX3_stopper 1 (some .int)) ({ frames := 4, cells := 0, slots := 0, locals := 91 }) (ro_P (dC, dI) classes [(cI, .int)] (cw ad cI n a T H b R st O S) [.ref (ad 0)]) (vp_Si (fun r => r = nI (spF n a T H b R))) 0 0 (fun _ => False) := by
  have hI0 := hI
  refine Met.ofW (cc := cX3_stopper) (maxL := 1) (ret := (some .int)) (by decide) rfl ?_
  intro p e s m args below meth c s₁ B hml hv
  obtain ⟨rfl, hP, hK, hN⟩ := hv
  have hx := B.exec
  have hb := B.bytes
  have hr := B.returns
  have hlocks := B.notSynchronized
  have hts := atoms_spec (ws := (wq yX3_stopper cX3_stopper 1 (some .int))) B.pre
  have hw : ∀ w ∈ bigW, w.before _ s = true := fun w h => hts w (List.mem_cons_of_mem _ h)
  have hown : s.vm.findClass RX3 = some m.cls := findClass_of_methodNamed B.named
  have hl := lv_entry ([.ref (ad 0)]) (n := 1) (Nat.le_of_ble_eq_true rfl)
  rw [lg_entry_eq]
  generalize (lg_sl ([.ref (ad 0)]) ++ List.replicate (1 - (lg_sl ([.ref (ad 0)])).length) Slot.unset).toArray = ls at hl ⊢
  have hl : lv_has ls 1 [(0, .ref (ad 0))] := hl
  refine lv_aload_n hx hb dX3_stopper_0 rfl (lv_at hl 0 rfl) ?_
  refine lv_iconst (v := -1) hx hb dX3_stopper_1 (by decide) ?_
  refine ro_V (As := [.int (-1)]) (rest := []) (b := ad 0) ⟨hx, hb, hml, hown, hts⟩ (c_X3_firstStopper_N l dC dI cI ad n a T H b R st O S hI0) (cwV 1 hts (bw_V mq_ml_X3_82 mq_im_X3_firstStopper mq_se_X3_firstStopper mq_in_X3 mq_co_X3_firstStopper) rfl rfl rfl (by decide +kernel) ⟨Nat.le_of_ble_eq_true rfl, Nat.le_of_ble_eq_true rfl⟩) hP hK hN 0 rfl rfl rfl hl.1 rfl (Nat.le_of_ble_eq_true rfl) dX3_stopper_2 ⟨Nat.zero_le _, Nat.zero_le _⟩ (fun r9 h9 => ?_)
  obtain rfl : r9 = nI (spF n a T H b R) := h9
  exact W.iret (v := nI (spF n a T H b R)) hx hb hr (fun t ht hW => ⟨_, rfl, rfl, ht⟩) (fun _ h => by cases h) dX3_stopper_5
set_option maxHeartbeats 4000000 in
set_option maxRecDepth 100000 in
theorem c_X3_count (l : Launch) (dC : Nat → ClassId) (dI : Nat → Nat → Nat) (cI : ClassId) (ad : Nat → Nat) (n a : Nat) (T H : Nat → Nat) (b : Nat) (R : Nat → Nat) (st : Int32) (O S : Nat → Int32) (x : Int32) : Met l yX3_count (wq yX3_count cX3_count 2 (some .int)) ({ frames := 0, cells := 0, slots := 0, locals := 0 }) (ro_P (dC, dI) classes [(cI, .int)] (cw ad cI n a T H b R st O S) [.ref (ad 0), .int x]) (vp_Si (fun r => r = coF n a b x)) 0 0 (fun _ => False) := by
  refine Met.ofW (cc := cX3_count) (maxL := 2) (ret := (some .int)) (by decide) rfl ?_
  intro p e s m args below meth c s₁ B hml hv
  obtain ⟨rfl, hP, hK, hN⟩ := hv
  have hx := B.exec
  have hb := B.bytes
  have hr := B.returns
  have hlocks := B.notSynchronized
  have hts := atoms_spec (ws := (wq yX3_count cX3_count 2 (some .int))) B.pre
  have hw : ∀ w ∈ bigW, w.before _ s = true := fun w h => hts w (List.mem_cons_of_mem _ h)
  have hown : s.vm.findClass RX3 = some m.cls := findClass_of_methodNamed B.named
  have hl := lv_entry ([.ref (ad 0), .int x]) (n := 2) (Nat.le_of_ble_eq_true rfl)
  rw [lg_entry_eq]
  generalize (lg_sl ([.ref (ad 0), .int x]) ++ List.replicate (2 - (lg_sl ([.ref (ad 0), .int x])).length) Slot.unset).toArray = ls at hl ⊢
  have hl : lv_has ls 2 [(0, .ref (ad 0)), (1, .int x)] := hl
  refine lv_iload_n hx hb dX3_count_0 rfl (lv_at hl 1 rfl) ?_
  by_cases z0 : x = 0
  · subst z0
    refine lv_tableIn (off := 27) (tgt := 28) hx hb dX3_count_1 (by decide) (by decide) rfl (by decide) ?_
    refine lv_aload_n hx hb dX3_count_28 rfl (lv_at hl 0 rfl) ?_
    refine va_get (D := (dC, dI)) (ci := 3) (v := .ref (ad 1)) (C := RX3) (T := TX3) (N := 3) hx hb hw in_X3 hown hK hP 0 rfl rfl 0 (by decide) (hw _ mq_fl_X3_10) (fun _ h9 => h9) rfl dX3_count_29 ?_
    refine va_getN (D := (dC, dI)) (ci := 1) (v := .int (nI n)) (C := RX1) (T := TX1) (N := 4) hx hb hw in_X1 hown hK hP 1 rfl rfl 2 (by decide) (nf_X3_65 hN) (fun _ h9 => h9) rfl dX3_count_32 ?_
    exact W.iret (v := nI n) hx hb hr (fun t ht hW => ⟨_, rfl, (by rw [coF, if_pos rfl]), ht⟩) (fun _ h => by cases h) dX3_count_35
  · by_cases z1 : x = 1
    · subst z1
      refine lv_tableIn (off := 35) (tgt := 36) hx hb dX3_count_1 (by decide) (by decide) rfl (by decide) ?_
      refine lv_aload_n hx hb dX3_count_36 rfl (lv_at hl 0 rfl) ?_
      refine va_get (D := (dC, dI)) (ci := 3) (v := .ref (ad 1)) (C := RX3) (T := TX3) (N := 3) hx hb hw in_X3 hown hK hP 0 rfl rfl 0 (by decide) (hw _ mq_fl_X3_10) (fun _ h9 => h9) rfl dX3_count_37 ?_
      refine va_getN (D := (dC, dI)) (ci := 1) (v := .int (nI a)) (C := RX1) (T := TX1) (N := 4) hx hb hw in_X1 hown hK hP 1 rfl rfl 3 (by decide) (nf_X3_42 hN) (fun _ h9 => h9) rfl dX3_count_40 ?_
      exact W.iret (v := nI a) hx hb hr (fun t ht hW => ⟨_, rfl, (by rw [coF, if_neg (by decide), if_pos rfl]), ht⟩) (fun _ h => by cases h) dX3_count_43
    · by_cases z2 : x = 2
      · subst z2
        refine lv_tableIn (off := 43) (tgt := 44) hx hb dX3_count_1 (by decide) (by decide) rfl (by decide) ?_
        refine lv_aload_n hx hb dX3_count_44 rfl (lv_at hl 0 rfl) ?_
        refine va_get (D := (dC, dI)) (ci := 3) (v := .ref (ad 4)) (C := RX3) (T := TX3) (N := 3) hx hb hw in_X3 hown hK hP 0 rfl rfl 1 (by decide) (hw _ mq_fl_X3_19) (fun _ h9 => h9) rfl dX3_count_45 ?_
        refine va_getN (D := (dC, dI)) (ci := 0) (v := .int (nI b)) (C := RX0) (T := TX0) (N := 2) hx hb hw in_X0 hown hK hP 4 rfl rfl 1 (by decide) (nf_X3_34 hN) (fun _ h9 => h9) rfl dX3_count_48 ?_
        exact W.iret (v := nI b) hx hb hr (fun t ht hW => ⟨_, rfl, (by rw [coF, if_neg (by decide), if_neg (by decide), if_pos rfl]), ht⟩) (fun _ h => by cases h) dX3_count_51
      · refine lv_tableOut (tgt := 52) hx hb dX3_count_1 (tb_out z0 z1 z2) (by decide) ?_
        refine lv_iconst (v := -1) hx hb dX3_count_52 (by decide) ?_
        exact W.iret (v := -1) hx hb hr (fun t ht hW => ⟨_, rfl, (by rw [coF, if_neg z0, if_neg z1, if_neg z2]), ht⟩) (fun _ h => by cases h) dX3_count_53
set_option maxHeartbeats 4000000 in
set_option maxRecDepth 100000 in
theorem c_X3_entry (l : Launch) (dC : Nat → ClassId) (dI : Nat → Nat → Nat) (cI : ClassId) (ad : Nat → Nat) (n a : Nat) (T H : Nat → Nat) (b : Nat) (R : Nat → Nat) (st : Int32) (O S : Nat → Int32) (x : Int32) (hI : st_I n a T H b R) : Met l yX3_entry (wq yX3_entry cX3_entry 2 (some .int)) ({ frames := 2, cells := 0, slots := 0, locals := 45 }) (ro_P (dC, dI) classes [(cI, .int)] (cw ad cI n a T H b R st O S) [.ref (ad 0), .int x]) (vp_Si (fun r => r = etF n a T H x)) 0 0 (fun _ => False) := by
  obtain ⟨n1, n7, a14, hT, hT2, hb3, hR3, hR⟩ := hI
  have p7 := bi_p7 n7
  have p0 := Nat.two_pow_pos n
  refine Met.ofW (cc := cX3_entry) (maxL := 2) (ret := (some .int)) (by decide) rfl ?_
  intro p e s m args below meth c s₁ B hml hv
  obtain ⟨rfl, hP, hK, hN⟩ := hv
  have hx := B.exec
  have hb := B.bytes
  have hr := B.returns
  have hlocks := B.notSynchronized
  have hts := atoms_spec (ws := (wq yX3_entry cX3_entry 2 (some .int))) B.pre
  have hw : ∀ w ∈ bigW, w.before _ s = true := fun w h => hts w (List.mem_cons_of_mem _ h)
  have hown : s.vm.findClass RX3 = some m.cls := findClass_of_methodNamed B.named
  have hl := lv_entry ([.ref (ad 0), .int x]) (n := 2) (Nat.le_of_ble_eq_true rfl)
  rw [lg_entry_eq]
  generalize (lg_sl ([.ref (ad 0), .int x]) ++ List.replicate (2 - (lg_sl ([.ref (ad 0), .int x])).length) Slot.unset).toArray = ls at hl ⊢
  have hl : lv_has ls 2 [(0, .ref (ad 0)), (1, .int x)] := hl
  refine lv_aload_n hx hb dX3_entry_0 rfl (lv_at hl 0 rfl) ?_
  refine va_get (D := (dC, dI)) (ci := 3) (v := .ref (ad 1)) (C := RX3) (T := TX3) (N := 3) hx hb hw in_X3 hown hK hP 0 rfl rfl 0 (by decide) (hw _ mq_fl_X3_10) (fun _ h9 => h9) rfl dX3_entry_1 ?_
  refine lv_iload_n hx hb dX3_entry_4 rfl (lv_at hl 1 rfl) ?_
  refine ro_V (As := [.int x]) (rest := []) (b := ad 1) ⟨hx, hb, hml, hown, hts⟩ (c_X1_hasSet l dC dI cI ad n a T H b R st O S n7 x) (cwV 1 hts (bw_V mq_ml_X3_59 mq_im_X1_hasSet mq_se_X1_hasSet mq_in_X1 mq_co_X1_hasSet) rfl rfl rfl (by decide +kernel) ⟨Nat.le_of_ble_eq_true rfl, Nat.le_of_ble_eq_true rfl⟩) hP hK hN 1 rfl rfl rfl hl.1 rfl (Nat.le_of_ble_eq_true rfl) dX3_entry_5 ⟨Nat.zero_le _, Nat.zero_le _⟩ (fun r9 h9 => ?_)
  obtain rfl : r9 = nI (ed_b (decide (0 ≤ x ∧ x ≤ nI (2 ^ n - 1)))) := h9
  refine lv_if_eq (tgt := 22) hx hb dX3_entry_8 (by decide) (fun b8 => ?_) (fun b8 => ?_)
  -- ifeq at 8, t
  · have t8 := decide_eq_false_iff_not.mp (zb_0.mp b8)
    refine lv_iconst (v := -1) hx hb dX3_entry_22 (by decide) ?_
    exact W.iret (v := -1) hx hb hr (fun t ht hW => ⟨_, rfl, (by rw [etF, if_neg t8]), ht⟩) (fun _ h => by cases h) dX3_entry_23
  -- ifeq at 8, f
  · have t8 := decide_eq_true_eq.mp (zb_n0.mp b8)
    obtain ⟨X, hX, rfl⟩ := is_in_of ((is_set_in n7).mp t8) (by omega)
    refine lv_aload_n hx hb dX3_entry_11 rfl (lv_at hl 0 rfl) ?_
    refine va_get (D := (dC, dI)) (ci := 3) (v := .ref (ad 1)) (C := RX3) (T := TX3) (N := 3) hx hb hw in_X3 hown hK hP 0 rfl rfl 0 (by decide) (hw _ mq_fl_X3_10) (fun _ h9 => h9) rfl dX3_entry_12 ?_
    refine lv_iload_n hx hb dX3_entry_15 rfl (lv_at hl 1 rfl) ?_
    refine ro_V (As := [.int (nI X)]) (rest := []) (b := ad 1) ⟨hx, hb, hml, hown, hts⟩ (c_X1_entrySize l dC dI cI ad n a T H b R st O S X a14 (by omega) hT) (cwV 1 hts (bw_V mq_ml_X3_75 mq_im_X1_entrySize mq_se_X1_entrySize mq_in_X1 mq_co_X1_entrySize) rfl rfl rfl (by decide +kernel) ⟨Nat.le_of_ble_eq_true rfl, Nat.le_of_ble_eq_true rfl⟩) hP hK hN 1 rfl rfl rfl hl.1 rfl (Nat.le_of_ble_eq_true rfl) dX3_entry_16 ⟨Nat.zero_le _, Nat.zero_le _⟩ (fun r9 h9 => ?_)
    obtain rfl : r9 = nI (rho0 T H a X) := h9
    refine lv_goto (tgt := 23) hx hb dX3_entry_19 (by decide) ?_
    exact W.iret (v := nI (rho0 T H a X)) hx hb hr (fun t ht hW => ⟨_, rfl, (by rw [etF, if_pos t8, nI_clamp (by omega)]), ht⟩) (fun _ h => by cases h) dX3_entry_23
set_option maxHeartbeats 4000000 in
set_option maxRecDepth 100000 in
theorem c_X3_missed (l : Launch) (dC : Nat → ClassId) (dI : Nat → Nat → Nat) (cI : ClassId) (ad : Nat → Nat) (n a : Nat) (T H : Nat → Nat) (b : Nat) (R : Nat → Nat) (st : Int32) (O S : Nat → Int32) (x : Int32) (hI : st_I n a T H b R) : Met l yX3_missed (wq yX3_missed cX3_missed 2 (some .int)) ({ frames := 2, cells := 0, slots := 0, locals := 41 }) (ro_P (dC, dI) classes [(cI, .int)] (cw ad cI n a T H b R st O S) [.ref (ad 0), .int x]) (vp_Si (fun r => r = miF n b R x)) 0 0 (fun _ => False) := by
  obtain ⟨n1, n7, a14, hT, hT2, hb3, hR3, hR⟩ := hI
  have p7 := bi_p7 n7
  have p0 := Nat.two_pow_pos n
  refine Met.ofW (cc := cX3_missed) (maxL := 2) (ret := (some .int)) (by decide) rfl ?_
  intro p e s m args below meth c s₁ B hml hv
  obtain ⟨rfl, hP, hK, hN⟩ := hv
  have hx := B.exec
  have hb := B.bytes
  have hr := B.returns
  have hlocks := B.notSynchronized
  have hts := atoms_spec (ws := (wq yX3_missed cX3_missed 2 (some .int))) B.pre
  have hw : ∀ w ∈ bigW, w.before _ s = true := fun w h => hts w (List.mem_cons_of_mem _ h)
  have hown : s.vm.findClass RX3 = some m.cls := findClass_of_methodNamed B.named
  have hl := lv_entry ([.ref (ad 0), .int x]) (n := 2) (Nat.le_of_ble_eq_true rfl)
  rw [lg_entry_eq]
  generalize (lg_sl ([.ref (ad 0), .int x]) ++ List.replicate (2 - (lg_sl ([.ref (ad 0), .int x])).length) Slot.unset).toArray = ls at hl ⊢
  have hl : lv_has ls 2 [(0, .ref (ad 0)), (1, .int x)] := hl
  refine lv_aload_n hx hb dX3_missed_0 rfl (lv_at hl 0 rfl) ?_
  refine va_get (D := (dC, dI)) (ci := 3) (v := .ref (ad 1)) (C := RX3) (T := TX3) (N := 3) hx hb hw in_X3 hown hK hP 0 rfl rfl 0 (by decide) (hw _ mq_fl_X3_10) (fun _ h9 => h9) rfl dX3_missed_1 ?_
  refine lv_iload_n hx hb dX3_missed_4 rfl (lv_at hl 1 rfl) ?_
  refine ro_V (As := [.int x]) (rest := []) (b := ad 1) ⟨hx, hb, hml, hown, hts⟩ (c_X1_hasSet l dC dI cI ad n a T H b R st O S n7 x) (cwV 1 hts (bw_V mq_ml_X3_59 mq_im_X1_hasSet mq_se_X1_hasSet mq_in_X1 mq_co_X1_hasSet) rfl rfl rfl (by decide +kernel) ⟨Nat.le_of_ble_eq_true rfl, Nat.le_of_ble_eq_true rfl⟩) hP hK hN 1 rfl rfl rfl hl.1 rfl (Nat.le_of_ble_eq_true rfl) dX3_missed_5 ⟨Nat.zero_le _, Nat.zero_le _⟩ (fun r9 h9 => ?_)
  obtain rfl : r9 = nI (ed_b (decide (0 ≤ x ∧ x ≤ nI (2 ^ n - 1)))) := h9
  refine lv_if_eq (tgt := 22) hx hb dX3_missed_8 (by decide) (fun b8 => ?_) (fun b8 => ?_)
  -- ifeq at 8, t
  · have t8 := decide_eq_false_iff_not.mp (zb_0.mp b8)
    refine lv_iconst (v := -1) hx hb dX3_missed_22 (by decide) ?_
    exact W.iret (v := -1) hx hb hr (fun t ht hW => ⟨_, rfl, (by rw [miF, if_neg t8]), ht⟩) (fun _ h => by cases h) dX3_missed_23
  -- ifeq at 8, f
  · have t8 := decide_eq_true_eq.mp (zb_n0.mp b8)
    obtain ⟨X, hX, rfl⟩ := is_in_of ((is_set_in n7).mp t8) (by omega)
    refine lv_aload_n hx hb dX3_missed_11 rfl (lv_at hl 0 rfl) ?_
    refine va_get (D := (dC, dI)) (ci := 3) (v := .ref (ad 4)) (C := RX3) (T := TX3) (N := 3) hx hb hw in_X3 hown hK hP 0 rfl rfl 1 (by decide) (hw _ mq_fl_X3_19) (fun _ h9 => h9) rfl dX3_missed_12 ?_
    refine lv_iload_n hx hb dX3_missed_15 rfl (lv_at hl 1 rfl) ?_
    refine ro_V (As := [.int (nI X)]) (rest := []) (b := ad 4) ⟨hx, hb, hml, hown, hts⟩ (c_X0_missing l dC dI cI ad n a T H b R st O S X hb3 hR) (cwV 1 hts (bw_V mq_ml_X3_79 mq_im_X0_missing mq_se_X0_missing mq_in_X0 mq_co_X0_missing) rfl rfl rfl (by decide +kernel) ⟨Nat.le_of_ble_eq_true rfl, Nat.le_of_ble_eq_true rfl⟩) hP hK hN 4 rfl rfl rfl hl.1 rfl (Nat.le_of_ble_eq_true rfl) dX3_missed_16 ⟨Nat.zero_le _, Nat.zero_le _⟩ (fun r9 h9 => ?_)
    obtain rfl : r9 = nI (ed_mis R b X) := h9
    refine lv_goto (tgt := 23) hx hb dX3_missed_19 (by decide) ?_
    exact W.iret (v := nI (ed_mis R b X)) hx hb hr (fun t ht hW => ⟨_, rfl, (by rw [miF, if_pos t8, nI_clamp (by omega)]), ht⟩) (fun _ h => by cases h) dX3_missed_23
set_option maxHeartbeats 4000000 in
set_option maxRecDepth 100000 in
theorem c_X3_end (l : Launch) (dC : Nat → ClassId) (dI : Nat → Nat → Nat) (cI : ClassId) (ad : Nat → Nat) (n a : Nat) (T H : Nat → Nat) (b : Nat) (R : Nat → Nat) (st : Int32) (O S : Nat → Int32) (x y : Int32) (hI : st_I n a T H b R) : Met l yX3_end (wq yX3_end cX3_end 3 (some .int)) ({ frames := 1, cells := 0, slots := 0, locals := 21 }) (ro_P (dC, dI) classes [(cI, .int)] (cw ad cI n a T H b R st O S) [.ref (ad 0), .int x, .int y]) (vp_Si (fun r => r = enF a T H x y)) 0 0 (fun _ => False) := by
  obtain ⟨n1, n7, a14, hT, hT2, hb3, hR3, hR⟩ := hI
  have p7 := bi_p7 n7
  have p0 := Nat.two_pow_pos n
  refine Met.ofW (cc := cX3_end) (maxL := 3) (ret := (some .int)) (by decide) rfl ?_
  intro p e s m args below meth c s₁ B hml hv
  obtain ⟨rfl, hP, hK, hN⟩ := hv
  have hx := B.exec
  have hb := B.bytes
  have hr := B.returns
  have hlocks := B.notSynchronized
  have hts := atoms_spec (ws := (wq yX3_end cX3_end 3 (some .int))) B.pre
  have hw : ∀ w ∈ bigW, w.before _ s = true := fun w h => hts w (List.mem_cons_of_mem _ h)
  have hown : s.vm.findClass RX3 = some m.cls := findClass_of_methodNamed B.named
  have hl := lv_entry ([.ref (ad 0), .int x, .int y]) (n := 3) (Nat.le_of_ble_eq_true rfl)
  rw [lg_entry_eq]
  generalize (lg_sl ([.ref (ad 0), .int x, .int y]) ++ List.replicate (3 - (lg_sl ([.ref (ad 0), .int x, .int y])).length) Slot.unset).toArray = ls at hl ⊢
  have hl : lv_has ls 3 [(0, .ref (ad 0)), (1, .int x), (2, .int y)] := hl
  refine lv_aload_n hx hb dX3_end_0 rfl (lv_at hl 0 rfl) ?_
  refine va_get (D := (dC, dI)) (ci := 3) (v := .ref (ad 1)) (C := RX3) (T := TX3) (N := 3) hx hb hw in_X3 hown hK hP 0 rfl rfl 0 (by decide) (hw _ mq_fl_X3_10) (fun _ h9 => h9) rfl dX3_end_1 ?_
  refine lv_iload_n hx hb dX3_end_4 rfl (lv_at hl 1 rfl) ?_
  refine ro_V (As := [.int x]) (rest := []) (b := ad 1) ⟨hx, hb, hml, hown, hts⟩ (c_X1_hasArc l dC dI cI ad n a T H b R st O S x) (cwV 1 hts (bw_V mq_ml_X3_53 mq_im_X1_hasArc mq_se_X1_hasArc mq_in_X1 mq_co_X1_hasArc) rfl rfl rfl (by decide +kernel) ⟨Nat.le_of_ble_eq_true rfl, Nat.le_of_ble_eq_true rfl⟩) hP hK hN 1 rfl rfl rfl hl.1 rfl (Nat.le_of_ble_eq_true rfl) dX3_end_5 ⟨Nat.zero_le _, Nat.zero_le _⟩ (fun r9 h9 => ?_)
  obtain rfl : r9 = nI (ed_b (decide (0 ≤ x ∧ x < nI a))) := h9
  refine lv_if_eq (tgt := 20) hx hb dX3_end_8 (by decide) (fun b8 => ?_) (fun b8 => ?_)
  -- ifeq at 8, t
  · have t8 := decide_eq_false_iff_not.mp (zb_0.mp b8)
    refine lv_iconst (v := -1) hx hb dX3_end_20 (by decide) ?_
    exact W.iret (v := -1) hx hb hr (fun t ht hW => ⟨_, rfl, (by rw [enF, if_neg (fun h => t8 h.1)]), ht⟩) (fun _ h => by cases h) dX3_end_21
  -- ifeq at 8, f
  · have t8 := decide_eq_true_eq.mp (zb_n0.mp b8)
    obtain ⟨j, hj, rfl⟩ := is_in_of t8 (by omega)
    refine lv_iload_n hx hb dX3_end_11 rfl (lv_at hl 2 rfl) ?_
    refine lv_if_lt (tgt := 20) hx hb dX3_end_12 (by decide) (fun b12 => ?_) (fun b12 => ?_)
    -- iflt at 12, t
    · refine lv_iconst (v := -1) hx hb dX3_end_20 (by decide) ?_
      exact W.iret (v := -1) hx hb hr (fun t ht hW => ⟨_, rfl, (by rw [enF, if_neg (fun h => by rcases h.2 with z | z <;> (rw [z] at b12; exact absurd b12 (by decide)))]), ht⟩) (fun _ h => by cases h) dX3_end_21
    -- iflt at 12, f
    · refine lv_iload_n hx hb dX3_end_15 rfl (lv_at hl 2 rfl) ?_
      refine lv_iconst (v := 1) hx hb dX3_end_16 (by decide) ?_
      refine lv_icmp_le (tgt := 22) hx hb dX3_end_17 (by decide) (fun b17 => ?_) (fun b17 => ?_)
      -- if_icmple at 17, t
      · refine lv_iload_n hx hb dX3_end_22 rfl (lv_at hl 2 rfl) ?_
        refine lv_if_ne (tgt := 38) hx hb dX3_end_23 (by decide) (fun b23 => ?_) (fun b23 => ?_)
        -- ifne at 23, t
        · refine lv_aload_n hx hb dX3_end_38 rfl (lv_at hl 0 rfl) ?_
          refine va_get (D := (dC, dI)) (ci := 3) (v := .ref (ad 1)) (C := RX3) (T := TX3) (N := 3) hx hb hw in_X3 hown hK hP 0 rfl rfl 0 (by decide) (hw _ mq_fl_X3_10) (fun _ h9 => h9) rfl dX3_end_39 ?_
          refine va_getN (D := (dC, dI)) (ci := 1) (v := .ref (ad 3)) (C := RX1) (T := TX1) (N := 4) hx hb hw in_X1 hown hK hP 1 rfl rfl 1 (by decide) (nf_X3_72 hN) (fun _ h9 => h9) rfl dX3_end_42 ?_
          refine lv_iload_n hx hb dX3_end_45 rfl (lv_at hl 1 rfl) ?_
          refine va_iald hx hb hK hP 3 0 rfl rfl (vp_in_nI (by omega) (by decide)) dX3_end_46 ?_
          refine lv_topi (fun z9 e9 => ?_)
          obtain rfl : z9 = nI (H j) := e9.trans (ar_at H (by omega))
          exact W.iret (v := nI (H j)) hx hb hr (fun t ht hW => ⟨_, rfl, (by rw [enF, if_pos ⟨t8, Or.inr (y_one b12 b17 b23)⟩, if_neg b23, nI_clamp (by omega)]), ht⟩) (fun _ h => by cases h) dX3_end_47
        -- ifne at 23, f
        · refine lv_aload_n hx hb dX3_end_26 rfl (lv_at hl 0 rfl) ?_
          refine va_get (D := (dC, dI)) (ci := 3) (v := .ref (ad 1)) (C := RX3) (T := TX3) (N := 3) hx hb hw in_X3 hown hK hP 0 rfl rfl 0 (by decide) (hw _ mq_fl_X3_10) (fun _ h9 => h9) rfl dX3_end_27 ?_
          refine va_getN (D := (dC, dI)) (ci := 1) (v := .ref (ad 2)) (C := RX1) (T := TX1) (N := 4) hx hb hw in_X1 hown hK hP 1 rfl rfl 0 (by decide) (nf_X3_68 hN) (fun _ h9 => h9) rfl dX3_end_30 ?_
          refine lv_iload_n hx hb dX3_end_33 rfl (lv_at hl 1 rfl) ?_
          refine va_iald hx hb hK hP 2 0 rfl rfl (vp_in_nI (by omega) (by decide)) dX3_end_34 ?_
          refine lv_topi (fun z9 e9 => ?_)
          obtain rfl : z9 = nI (T j) := e9.trans (ar_at T (by omega))
          refine lv_goto (tgt := 47) hx hb dX3_end_35 (by decide) ?_
          exact W.iret (v := nI (T j)) hx hb hr (fun t ht hW => ⟨_, rfl, (by rw [enF, if_pos ⟨t8, Or.inl b23⟩, if_pos b23, nI_clamp (by omega)]), ht⟩) (fun _ h => by cases h) dX3_end_47
      -- if_icmple at 17, f
      · refine lv_iconst (v := -1) hx hb dX3_end_20 (by decide) ?_
        exact W.iret (v := -1) hx hb hr (fun t ht hW => ⟨_, rfl, (by rw [enF, if_neg (fun h => by rcases h.2 with z | z <;> (rw [z] at b17; exact b17 (by decide)))]), ht⟩) (fun _ h => by cases h) dX3_end_21
set_option maxHeartbeats 4000000 in
set_option maxRecDepth 100000 in
theorem c_X3_spare (l : Launch) (dC : Nat → ClassId) (dI : Nat → Nat → Nat) (cI : ClassId) (ad : Nat → Nat) (n a : Nat) (T H : Nat → Nat) (b : Nat) (R : Nat → Nat) (st : Int32) (O S : Nat → Int32) (x : Int32) (hI : st_I n a T H b R) : Met l yX3_spare (wq yX3_spare cX3_spare 2 (some .boolean)) ({ frames := 4, cells := 0, slots := 0, locals := 91 }) (ro_P (dC, dI) classes [(cI, .int)] (cw ad cI n a T H b R st O S) [.ref (ad 0), .int x]) (vp_Si (fun r => r = nI (ed_b (srF n a T H b R x)))) 0 0 (fun _ => False) := by
  have hI0 := hI
  obtain ⟨n1, n7, a14, hT, hT2, hb3, hR3, hR⟩ := hI
  have p7 := bi_p7 n7
  have p0 := Nat.two_pow_pos n
  refine Met.ofW (cc := cX3_spare) (maxL := 2) (ret := (some .boolean)) (by decide) rfl ?_
  intro p e s m args below meth c s₁ B hml hv
  obtain ⟨rfl, hP, hK, hN⟩ := hv
  have hx := B.exec
  have hb := B.bytes
  have hr := B.returns
  have hlocks := B.notSynchronized
  have hts := atoms_spec (ws := (wq yX3_spare cX3_spare 2 (some .boolean))) B.pre
  have hw : ∀ w ∈ bigW, w.before _ s = true := fun w h => hts w (List.mem_cons_of_mem _ h)
  have hown : s.vm.findClass RX3 = some m.cls := findClass_of_methodNamed B.named
  have hl := lv_entry ([.ref (ad 0), .int x]) (n := 2) (Nat.le_of_ble_eq_true rfl)
  rw [lg_entry_eq]
  generalize (lg_sl ([.ref (ad 0), .int x]) ++ List.replicate (2 - (lg_sl ([.ref (ad 0), .int x])).length) Slot.unset).toArray = ls at hl ⊢
  have hl : lv_has ls 2 [(0, .ref (ad 0)), (1, .int x)] := hl
  refine lv_aload_n hx hb dX3_spare_0 rfl (lv_at hl 0 rfl) ?_
  refine va_get (D := (dC, dI)) (ci := 3) (v := .ref (ad 1)) (C := RX3) (T := TX3) (N := 3) hx hb hw in_X3 hown hK hP 0 rfl rfl 0 (by decide) (hw _ mq_fl_X3_10) (fun _ h9 => h9) rfl dX3_spare_1 ?_
  refine lv_iload_n hx hb dX3_spare_4 rfl (lv_at hl 1 rfl) ?_
  refine ro_V (As := [.int x]) (rest := []) (b := ad 1) ⟨hx, hb, hml, hown, hts⟩ (c_X1_hasArc l dC dI cI ad n a T H b R st O S x) (cwV 1 hts (bw_V mq_ml_X3_53 mq_im_X1_hasArc mq_se_X1_hasArc mq_in_X1 mq_co_X1_hasArc) rfl rfl rfl (by decide +kernel) ⟨Nat.le_of_ble_eq_true rfl, Nat.le_of_ble_eq_true rfl⟩) hP hK hN 1 rfl rfl rfl hl.1 rfl (Nat.le_of_ble_eq_true rfl) dX3_spare_5 ⟨Nat.zero_le _, Nat.zero_le _⟩ (fun r9 h9 => ?_)
  obtain rfl : r9 = nI (ed_b (decide (0 ≤ x ∧ x < nI a))) := h9
  refine lv_if_eq (tgt := 23) hx hb dX3_spare_8 (by decide) (fun b8 => ?_) (fun b8 => ?_)
  -- ifeq at 8, t
  · have t8 := decide_eq_false_iff_not.mp (zb_0.mp b8)
    refine lv_iconst (v := 0) hx hb dX3_spare_23 (by decide) ?_
    exact W.zret (v := 0) hx hb hr rfl (fun t ht hW => ⟨_, rfl, zb_F (by rw [srF, if_neg t8]), ht⟩) (fun _ h => by cases h) dX3_spare_24
  -- ifeq at 8, f
  · have t8 := decide_eq_true_eq.mp (zb_n0.mp b8)
    obtain ⟨j, hj, rfl⟩ := is_in_of t8 (by omega)
    have z9 := fs_le (stpL T H a R b j) (2 ^ n - 1)
    refine lv_aload_n hx hb dX3_spare_11 rfl (lv_at hl 0 rfl) ?_
    refine lv_iload_n hx hb dX3_spare_12 rfl (lv_at hl 1 rfl) ?_
    refine ro_V (As := [.int (nI j)]) (rest := []) (b := ad 0) ⟨hx, hb, hml, hown, hts⟩ (c_X3_firstStopper_J l dC dI cI ad n a T H b R st O S j hj hI0) (cwV 1 hts (bw_V mq_ml_X3_82 mq_im_X3_firstStopper mq_se_X3_firstStopper mq_in_X3 mq_co_X3_firstStopper) rfl rfl rfl (by decide +kernel) ⟨Nat.le_of_ble_eq_true rfl, Nat.le_of_ble_eq_true rfl⟩) hP hK hN 0 rfl rfl rfl hl.1 rfl (Nat.le_of_ble_eq_true rfl) dX3_spare_13 ⟨Nat.zero_le _, Nat.zero_le _⟩ (fun r9 h9 => ?_)
    obtain rfl : r9 = nI (fs_at (stpL T H a R b j) (2 ^ n - 1)) := h9
    refine lv_if_ne (tgt := 23) hx hb dX3_spare_16 (by decide) (fun b16 => ?_) (fun b16 => ?_)
    -- ifne at 16, t
    · have t16 : ¬ fs_at (stpL T H a R b j) (2 ^ n - 1) = 0 := fun z => b16 (by rw [z]; exact nI_0)
      refine lv_iconst (v := 0) hx hb dX3_spare_23 (by decide) ?_
      exact W.zret (v := 0) hx hb hr rfl (fun t ht hW => ⟨_, rfl, zb_F (by rw [srF, if_pos t8, nI_clamp (by omega), decide_eq_false t16]), ht⟩) (fun _ h => by cases h) dX3_spare_24
    -- ifne at 16, f
    · have t16 : fs_at (stpL T H a R b j) (2 ^ n - 1) = 0 := (nI_eq (by omega) (by decide)).mp (b16.trans nI_0.symm)
      refine lv_iconst (v := 1) hx hb dX3_spare_19 (by decide) ?_
      refine lv_goto (tgt := 24) hx hb dX3_spare_20 (by decide) ?_
      exact W.zret (v := 1) hx hb hr rfl (fun t ht hW => ⟨_, rfl, zb_T (by rw [srF, if_pos t8, nI_clamp (by omega), decide_eq_true t16]), ht⟩) (fun _ h => by cases h) dX3_spare_24
set_option maxHeartbeats 4000000 in
set_option maxRecDepth 100000 in
theorem c_X3_most (l : Launch) (dC : Nat → ClassId) (dI : Nat → Nat → Nat) (cI : ClassId) (ad : Nat → Nat) (n a : Nat) (T H : Nat → Nat) (b : Nat) (R : Nat → Nat) (st : Int32) (O S : Nat → Int32) (x : Int32) (hI : st_I n a T H b R) : Met l yX3_most (wq yX3_most cX3_most 4 (some .int)) ({ frames := 2, cells := 0, slots := 0, locals := 45 }) (ro_P (dC, dI) classes [(cI, .int)] (cw ad cI n a T H b R st O S) [.ref (ad 0), .int x]) (vp_Si (fun r => r = moF n a T H x)) 0 0 (fun _ => False) := by
  obtain ⟨n1, n7, a14, hT, hT2, hb3, hR3, hR⟩ := hI
  have p7 := bi_p7 n7
  have p0 := Nat.two_pow_pos n
  refine Met.ofW (cc := cX3_most) (maxL := 4) (ret := (some .int)) (by decide) rfl ?_
  intro p e s m args below meth c s₁ B hml hv
  obtain ⟨rfl, hP, hK, hN⟩ := hv
  have hx := B.exec
  have hb := B.bytes
  have hr := B.returns
  have hlocks := B.notSynchronized
  have hts := atoms_spec (ws := (wq yX3_most cX3_most 4 (some .int))) B.pre
  have hw : ∀ w ∈ bigW, w.before _ s = true := fun w h => hts w (List.mem_cons_of_mem _ h)
  have hown : s.vm.findClass RX3 = some m.cls := findClass_of_methodNamed B.named
  have hl := lv_entry ([.ref (ad 0), .int x]) (n := 4) (Nat.le_of_ble_eq_true rfl)
  rw [lg_entry_eq]
  generalize (lg_sl ([.ref (ad 0), .int x]) ++ List.replicate (4 - (lg_sl ([.ref (ad 0), .int x])).length) Slot.unset).toArray = ls at hl ⊢
  have hl : lv_has ls 4 [(0, .ref (ad 0)), (1, .int x)] := hl
  refine lv_iload_n hx hb dX3_most_0 rfl (lv_at hl 1 rfl) ?_
  refine lv_if_eq (tgt := 15) hx hb dX3_most_1 (by decide) (fun b1 => ?_) (fun b1 => ?_)
  -- ifeq at 1, t
  · refine lv_iconst (v := -1) hx hb dX3_most_15 (by decide) ?_
    exact W.iret (v := -1) hx hb hr (fun t ht hW => ⟨_, rfl, (by rw [moF, if_neg (fun h => h.1 b1)]), ht⟩) (fun _ h => by cases h) dX3_most_16
  -- ifeq at 1, f
  · refine lv_aload_n hx hb dX3_most_4 rfl (lv_at hl 0 rfl) ?_
    refine va_get (D := (dC, dI)) (ci := 3) (v := .ref (ad 1)) (C := RX3) (T := TX3) (N := 3) hx hb hw in_X3 hown hK hP 0 rfl rfl 0 (by decide) (hw _ mq_fl_X3_10) (fun _ h9 => h9) rfl dX3_most_5 ?_
    refine lv_iload_n hx hb dX3_most_8 rfl (lv_at hl 1 rfl) ?_
    refine ro_V (As := [.int x]) (rest := []) (b := ad 1) ⟨hx, hb, hml, hown, hts⟩ (c_X1_hasSet l dC dI cI ad n a T H b R st O S n7 x) (cwV 1 hts (bw_V mq_ml_X3_59 mq_im_X1_hasSet mq_se_X1_hasSet mq_in_X1 mq_co_X1_hasSet) rfl rfl rfl (by decide +kernel) ⟨Nat.le_of_ble_eq_true rfl, Nat.le_of_ble_eq_true rfl⟩) hP hK hN 1 rfl rfl rfl hl.1 rfl (Nat.le_of_ble_eq_true rfl) dX3_most_9 ⟨Nat.zero_le _, Nat.zero_le _⟩ (fun r9 h9 => ?_)
    obtain rfl : r9 = nI (ed_b (decide (0 ≤ x ∧ x ≤ nI (2 ^ n - 1)))) := h9
    refine lv_if_ne (tgt := 17) hx hb dX3_most_12 (by decide) (fun b12 => ?_) (fun b12 => ?_)
    -- ifne at 12, t
    · have t12 := decide_eq_true_eq.mp (zb_n0.mp b12)
      obtain ⟨X, hX, rfl⟩ := is_in_of ((is_set_in n7).mp t12) (by omega)
      refine lv_bipush (v := nI (mo_at T H a X 0)) hx hb dX3_most_17 rfl ?_
      refine lv_istore_n (lv' := [(2, .int (nI (mo_at T H a X 0))), (0, .ref (ad 0)), (1, .int (nI X))]) hx hb dX3_most_19 rfl hl (by decide) rfl (fun ls hl => ?_)
      refine lv_iconst (v := nI (0 + 1)) hx hb dX3_most_20 (by decide) ?_
      refine lv_istore_n (lv' := [(3, .int (nI (0 + 1))), (2, .int (nI (mo_at T H a X 0))), (0, .ref (ad 0)), (1, .int (nI X))]) hx hb dX3_most_21 rfl hl (by decide) rfl (fun ls hl => ?_)
      refine wl_loop (fun k9 ls => ∃ (i : Nat), 2 ^ n - i = k9 ∧ (i ≤ 2 ^ n - 1) ∧ lv_has ls 4 [(0, .ref (ad 0)), (1, .int (nI X)), (2, .int (nI (mo_at T H a X i))), (3, .int (nI (i + 1)))]) ?_ _ ⟨0, rfl, by omega, lv_sub hl [2, 3, 1, 0] rfl⟩
      clear hl
      intro k9 ls ih9 h9
      obtain ⟨i, k9e, hi, hl⟩ := h9
      have ih_22 := ih9
      clear ih9
      subst k9e
      have z8 := mo_le T H a X i
      refine lv_iload_n hx hb dX3_most_22 rfl (lv_at hl 3 rfl) ?_
      refine lv_aload_n hx hb dX3_most_23 rfl (lv_at hl 0 rfl) ?_
      refine va_get (D := (dC, dI)) (ci := 3) (v := .ref (ad 1)) (C := RX3) (T := TX3) (N := 3) hx hb hw in_X3 hown hK hP 0 rfl rfl 0 (by decide) (hw _ mq_fl_X3_10) (fun _ h9 => h9) rfl dX3_most_24 ?_
      refine ro_V (As := []) (rest := [.int (nI (i + 1))]) (b := ad 1) ⟨hx, hb, hml, hown, hts⟩ (c_X1_allVertices l dC dI cI ad n a T H b R st O S n7) (cwV 0 hts (bw_V mq_ml_X3_92 mq_im_X1_allVertices mq_se_X1_allVertices mq_in_X1 mq_co_X1_allVertices) rfl rfl rfl (by decide +kernel) ⟨Nat.le_of_ble_eq_true rfl, Nat.le_of_ble_eq_true rfl⟩) hP hK hN 1 rfl rfl rfl hl.1 rfl (Nat.le_of_ble_eq_true rfl) dX3_most_27 ⟨Nat.zero_le _, Nat.zero_le _⟩ (fun r9 h9 => ?_)
      obtain rfl : r9 = nI (2 ^ n - 1) := h9
      refine lv_icmp_gt (tgt := 58) hx hb dX3_most_30 (by decide) (fun b30 => ?_) (fun b30 => ?_)
      -- if_icmpgt at 30, t
      · have t30 := (nI_ltI (by omega) (by omega)).mp b30
        have e30 : i = 2 ^ n - 1 := by omega
        refine lv_iload_n hx hb dX3_most_58 rfl (lv_at hl 2 rfl) ?_
        exact W.iret (v := nI (mo_at T H a X i)) hx hb hr (fun t ht hW => ⟨_, rfl, (by rw [moF, if_pos ⟨b1, t12⟩, nI_clamp (by omega), e30]), ht⟩) (fun _ h => by cases h) dX3_most_59
      -- if_icmpgt at 30, f
      · have t30 : i + 1 ≤ 2 ^ n - 1 := Nat.le_of_not_lt (fun z => b30 (nI_lt z (by omega)))
        have z9 : rho0 T H a (i + 1) ≤ a := ed_ct_le _ _
        refine lv_iload_n hx hb dX3_most_33 rfl (lv_at hl 3 rfl) ?_
        refine lv_iload_n hx hb dX3_most_34 rfl (lv_at hl 1 rfl) ?_
        refine lv_iand hx hb dX3_most_35 ?_
        refine lv_if_ne (tgt := 52) hx hb dX3_most_36 (by decide) (fun b36 => ?_) (fun b36 => ?_)
        -- ifne at 36, t
        · have t36 : ¬ (i + 1) &&& X = 0 := fun z => b36 ((bi_z (by omega)).mpr z)
          refine lv_iinc (k := 3) (v := nI (i + 1 + 1)) (lv' := [(3, .int (nI (i + 1 + 1))), (0, .ref (ad 0)), (1, .int (nI X)), (2, .int (nI (mo_at T H a X i)))]) hx hb dX3_most_52 hl rfl (ii_1 _) (by decide) rfl (fun ls hl => ?_)
          refine lv_goto (tgt := 22) hx hb dX3_most_55 (by decide) ?_
          have e8 : mo_at T H a X (i + 1) = mo_at T H a X i := by rw [mo_s, if_neg t36]
          rw [← e8] at hl
          exact ih_22 _ _ (by omega) ⟨i + 1, rfl, by omega, lv_sub hl [1, 2, 3, 0] rfl⟩
        -- ifne at 36, f
        · have t36 : (i + 1) &&& X = 0 := (bi_z (by omega)).mp b36
          refine lv_iload_n hx hb dX3_most_39 rfl (lv_at hl 2 rfl) ?_
          refine lv_aload_n hx hb dX3_most_40 rfl (lv_at hl 0 rfl) ?_
          refine va_get (D := (dC, dI)) (ci := 3) (v := .ref (ad 1)) (C := RX3) (T := TX3) (N := 3) hx hb hw in_X3 hown hK hP 0 rfl rfl 0 (by decide) (hw _ mq_fl_X3_10) (fun _ h9 => h9) rfl dX3_most_41 ?_
          refine lv_iload_n hx hb dX3_most_44 rfl (lv_at hl 3 rfl) ?_
          refine ro_V (As := [.int (nI (i + 1))]) (rest := [.int (nI (mo_at T H a X i))]) (b := ad 1) ⟨hx, hb, hml, hown, hts⟩ (c_X1_entrySize l dC dI cI ad n a T H b R st O S (i + 1) a14 (by omega) hT) (cwV 1 hts (bw_V mq_ml_X3_75 mq_im_X1_entrySize mq_se_X1_entrySize mq_in_X1 mq_co_X1_entrySize) rfl rfl rfl (by decide +kernel) ⟨Nat.le_of_ble_eq_true rfl, Nat.le_of_ble_eq_true rfl⟩) hP hK hN 1 rfl rfl rfl hl.1 rfl (Nat.le_of_ble_eq_true rfl) dX3_most_45 ⟨Nat.zero_le _, Nat.zero_le _⟩ (fun r9 h9 => ?_)
          obtain rfl : r9 = nI (rho0 T H a (i + 1)) := h9
          refine va_mmin hx hb (by rw [hml]; exact hl.1.symm) hown (hw _ mq_ml_X3_96) (hw _ mq_st_J9_min) (hw _ mq_in_J9) (hw _ mq_co_J9_min) (Nat.le_of_ble_eq_true rfl) (Nat.le_of_ble_eq_true rfl) (Nat.zero_le _) (Nat.zero_le _) dX3_most_48 ?_
          refine lv_topi (fun z9 e9 => ?_)
          obtain rfl : z9 = nI (min (mo_at T H a X i) (rho0 T H a (i + 1))) := e9.trans (mn_nI (by omega) (by omega))
          refine lv_istore_n (lv' := [(2, .int (nI (min (mo_at T H a X i) (rho0 T H a (i + 1))))), (0, .ref (ad 0)), (1, .int (nI X)), (3, .int (nI (i + 1)))]) hx hb dX3_most_51 rfl hl (by decide) rfl (fun ls hl => ?_)
          refine lv_iinc (k := 3) (v := nI (i + 1 + 1)) (lv' := [(3, .int (nI (i + 1 + 1))), (2, .int (nI (min (mo_at T H a X i) (rho0 T H a (i + 1))))), (0, .ref (ad 0)), (1, .int (nI X))]) hx hb dX3_most_52 hl rfl (ii_1 _) (by decide) rfl (fun ls hl => ?_)
          refine lv_goto (tgt := 22) hx hb dX3_most_55 (by decide) ?_
          have e8 : mo_at T H a X (i + 1) = min (mo_at T H a X i) (rho0 T H a (i + 1)) := by rw [mo_s, if_pos t36]
          rw [← e8] at hl
          exact ih_22 _ _ (by omega) ⟨i + 1, rfl, by omega, lv_sub hl [2, 3, 1, 0] rfl⟩
    -- ifne at 12, f
    · have t12 := decide_eq_false_iff_not.mp (zb_0.mp b12)
      refine lv_iconst (v := -1) hx hb dX3_most_15 (by decide) ?_
      exact W.iret (v := -1) hx hb hr (fun t ht hW => ⟨_, rfl, (by rw [moF, if_neg (fun h => t12 h.2)]), ht⟩) (fun _ h => by cases h) dX3_most_16
set_option maxHeartbeats 4000000 in
set_option maxRecDepth 100000 in
theorem c_X3_begin (l : Launch) (dC : Nat → ClassId) (dI : Nat → Nat → Nat) (cI : ClassId) (ad : Nat → Nat) (n a : Nat) (T H : Nat → Nat) (b : Nat) (R : Nat → Nat) (st : Int32) (O S : Nat → Int32) (sz : Nat) (x : Int32) (hI : st_I n a T H b R) (hst : st = 1 ∨ (st = 0 ∧ O = pg_all n a b T H R)) : Met l yX3_begin (wq yX3_begin cX3_begin 2 (some .boolean)) ({ frames := 1, cells := 0, slots := 0, locals := 21 }) (mu_P (dC, dI) classes [(cI, .int)] (cw ad cI n a T H b R st O S) sz [.ref (ad 0), .int x]) (va_Qi (fun (r : Int32) (u : Int32) => r = (bgF x n a b).1 ∧ (u = 1 ∨ (u = 0 ∧ O = pg_all (bgF x n a b).2.1 (bgF x n a b).2.2.1 (bgF x n a b).2.2.2 T H R))) (mu_B (dC, dI) classes [(cI, .int)] (cw ad cI n a T H b R st O S) sz (fun u => cw ad cI (bgF x n a b).2.1 (bgF x n a b).2.2.1 T H (bgF x n a b).2.2.2 R u O S)) (va_A (cw ad cI n a T H b R st O S) sz)) 0 0 (va_A (cw ad cI n a T H b R st O S) sz) := by
  obtain ⟨n1, n7, a14, hT, hT2, hb3, hR3, hR⟩ := hI
  have p7 := bi_p7 n7
  have p0 := Nat.two_pow_pos n
  refine Met.ofW (cc := cX3_begin) (maxL := 2) (ret := (some .boolean)) (by decide) rfl ?_
  intro p e s m args below meth c s₁ B hml hv
  obtain ⟨rfl, hsz, hP, hK, hN, hD0⟩ := hv
  have hx := B.exec
  have hb := B.bytes
  have hr := B.returns
  have hlocks := B.notSynchronized
  have hts := atoms_spec (ws := (wq yX3_begin cX3_begin 2 (some .boolean))) B.pre
  have hw : ∀ w ∈ bigW, w.before _ s = true := fun w h => hts w (List.mem_cons_of_mem _ h)
  have hown : s.vm.findClass RX3 = some m.cls := findClass_of_methodNamed B.named
  subst hsz
  have hD := hD0.self (sz := s.heap.size)
  generalize hAe : va_A (cw ad cI n a T H b R st O S) s.heap.size = A at hD ⊢
  have hA : ∀ q : Nat, s.heap.size ≤ q → A q := fun q h => by rw [← hAe]; exact Or.inr h
  have hS : va_S A s.heap s.heap [] := va_S.rf
  have hl := lv_entry ([.ref (ad 0), .int x]) (n := 2) (Nat.le_of_ble_eq_true rfl)
  rw [lg_entry_eq]
  generalize (lg_sl ([.ref (ad 0), .int x]) ++ List.replicate (2 - (lg_sl ([.ref (ad 0), .int x])).length) Slot.unset).toArray = ls at hl ⊢
  have hl : lv_has ls 2 [(0, .ref (ad 0)), (1, .int x)] := hl
  refine lv_iload_n hx hb dX3_begin_0 rfl (lv_at hl 1 rfl) ?_
  refine lv_iconst (v := 1) hx hb dX3_begin_1 (by decide) ?_
  refine lv_icmp_lt (tgt := 11) hx hb dX3_begin_2 (by decide) (fun b2 => ?_) (fun b2 => ?_)
  -- if_icmplt at 2, t
  · refine lv_iconst (v := 0) hx hb dX3_begin_11 (by decide) ?_
    have e8 : bgF x n a b = (0, n, a, b) := if_neg (fun h => absurd h.1 (i_le_lt.mpr b2))
    have hP : va_P (dC, dI) classes (cw ad cI (bgF x n a b).2.1 (bgF x n a b).2.2.1 T H (bgF x n a b).2.2.2 R st O S) s.heap := by rw [e8]; exact hP
    have hD : va_D A (cw ad cI (bgF x n a b).2.1 (bgF x n a b).2.2.1 T H (bgF x n a b).2.2.2 R st O S) := by rw [e8]; exact hD
    exact W.zret (v := 0) hx hb hr rfl (fun t ht hW => ⟨⟨_, st, rfl, ⟨by rw [e8], by rw [e8]; exact hst⟩, by rw [ht]; exact hP, va_K.moved hW.alike hK, by rw [hAe]; exact hD⟩, hS.F ht⟩) hS.2.2 dX3_begin_12
  -- if_icmplt at 2, f
  · refine lv_iload_n hx hb dX3_begin_5 rfl (lv_at hl 1 rfl) ?_
    refine lv_bipush (v := 7) hx hb dX3_begin_6 (by decide) ?_
    refine lv_icmp_le (tgt := 13) hx hb dX3_begin_8 (by decide) (fun b8 => ?_) (fun b8 => ?_)
    -- if_icmple at 8, t
    · have hv1 := i_lt_le.mp b2
      obtain ⟨v, hv, rfl⟩ := nI_of2 (x := x) (M := 7) (n := 7) (by decide) (i_lt_le.mpr (Int32.le_trans (by decide) hv1)) b8
      replace hv1 : 1 ≤ v := (nI_leI (a := 1) (by omega) (by omega)).mp hv1
      refine lv_aload_n hx hb dX3_begin_13 rfl (lv_at hl 0 rfl) ?_
      refine va_get (D := (dC, dI)) (ci := 3) (v := .ref (ad 1)) (C := RX3) (T := TX3) (N := 3) hx hb hw in_X3 hown hK hP 0 rfl rfl 0 (by decide) (hw _ mq_fl_X3_10) (fun _ h9 => h9) rfl dX3_begin_14 ?_
      refine lv_iload_n hx hb dX3_begin_17 rfl (lv_at hl 1 rfl) ?_
      refine mu_Vv (As := [.int (nI v)]) (rest := []) (b := ad 1) ⟨hx, hb, hml, hown, hts⟩ (c_X1_restart l dC dI cI ad n a T H b R st O S _ v) (cwV 1 hts (bw_V mq_ml_X3_30 mq_im_X1_restart mq_se_X1_restart mq_in_X1 mq_co_X1_restart) rfl rfl rfl (by decide +kernel) ⟨Nat.le_of_ble_eq_true rfl, Nat.le_of_ble_eq_true rfl⟩) hP hK hN hD hS hA 1 rfl rfl rfl hl.1 rfl (Nat.le_of_ble_eq_true rfl) dX3_begin_18 ⟨Nat.zero_le _, Nat.zero_le _⟩ (fun u9 Hp locs h9 hP hD hS => ?_)
      have hP : va_P (dC, dI) classes (cw ad cI v 0 T H b R st O S) Hp := hP
      have hD : va_D A (cw ad cI v 0 T H b R st O S) := hD
      refine lv_aload_n hx hb dX3_begin_21 rfl (lv_at hl 0 rfl) ?_
      refine va_get (D := (dC, dI)) (ci := 3) (v := .ref (ad 4)) (C := RX3) (T := TX3) (N := 3) hx hb hw in_X3 hown hK hP 0 rfl rfl 1 (by decide) (hw _ mq_fl_X3_19) (fun _ h9 => h9) rfl dX3_begin_22 ?_
      refine lv_iconst (v := nI 0) hx hb dX3_begin_25 (by decide) ?_
      refine va_putN (D := (dC, dI)) (ci := 0) (v := .int (nI 0)) (ty := .int) (C := RX0) (T := TX0) (N := 2) hx hb hw in_X0 tyX0 tyX0_ok nmX0 hown hK hP hD hS 4 rfl rfl 1 (by decide) (nf_X3_34 hN) (fun _ h9 => h9) rfl (by decide +kernel) rfl rfl (Nat.le_of_ble_eq_true rfl) dX3_begin_26 (fun Hp locs hP hD hS => ?_)
      have hP : va_P (dC, dI) classes (cw ad cI v 0 T H 0 R st O S) Hp := hP
      have hD : va_D A (cw ad cI v 0 T H 0 R st O S) := hD
      refine lv_aload_n hx hb dX3_begin_29 rfl (lv_at hl 0 rfl) ?_
      refine va_get (D := (dC, dI)) (ci := 3) (v := .ref (ad 6)) (C := RX3) (T := TX3) (N := 3) hx hb hw in_X3 hown hK hP 0 rfl rfl 2 (by decide) (hw _ mq_fl_X3_26) (fun _ h9 => h9) rfl dX3_begin_30 ?_
      refine lv_iconst (v := 1) hx hb dX3_begin_33 (by decide) ?_
      refine va_putN (D := (dC, dI)) (ci := 2) (v := .int 1) (ty := .boolean) (C := RX2) (T := TX2) (N := 3) hx hb hw in_X2 tyX2 tyX2_ok nmX2 hown hK hP hD hS 6 rfl rfl 2 (by decide) (nf_X3_38 hN) (fun _ h9 => h9) rfl (by decide +kernel) rfl rfl (Nat.le_of_ble_eq_true rfl) dX3_begin_34 (fun Hp locs hP hD hS => ?_)
      have hP : va_P (dC, dI) classes (cw ad cI v 0 T H 0 R 1 O S) Hp := hP
      have hD : va_D A (cw ad cI v 0 T H 0 R 1 O S) := hD
      refine lv_iconst (v := 1) hx hb dX3_begin_37 (by decide) ?_
      have e8 : bgF (nI v) n a b = (1, v, 0, 0) := by rw [bgF, if_pos ⟨nI_le (a := 1) hv1 (by omega), nI_le (b := 7) hv (by omega)⟩, nI_clamp (by omega)]
      have hP : va_P (dC, dI) classes (cw ad cI (bgF (nI v) n a b).2.1 (bgF (nI v) n a b).2.2.1 T H (bgF (nI v) n a b).2.2.2 R 1 O S) Hp := by rw [e8]; exact hP
      have hD : va_D A (cw ad cI (bgF (nI v) n a b).2.1 (bgF (nI v) n a b).2.2.1 T H (bgF (nI v) n a b).2.2.2 R 1 O S) := by rw [e8]; exact hD
      exact W.zret (v := 1) hx hb hr rfl (fun t ht hW => ⟨⟨_, 1, rfl, ⟨by rw [e8], Or.inl rfl⟩, by rw [ht]; exact hP, va_K.moved hW.alike hK, by rw [hAe]; exact hD⟩, hS.F ht⟩) hS.2.2 dX3_begin_38
    -- if_icmple at 8, f
    · refine lv_iconst (v := 0) hx hb dX3_begin_11 (by decide) ?_
      have e8 : bgF x n a b = (0, n, a, b) := if_neg (fun h => absurd h.2 b8)
      have hP : va_P (dC, dI) classes (cw ad cI (bgF x n a b).2.1 (bgF x n a b).2.2.1 T H (bgF x n a b).2.2.2 R st O S) s.heap := by rw [e8]; exact hP
      have hD : va_D A (cw ad cI (bgF x n a b).2.1 (bgF x n a b).2.2.1 T H (bgF x n a b).2.2.2 R st O S) := by rw [e8]; exact hD
      exact W.zret (v := 0) hx hb hr rfl (fun t ht hW => ⟨⟨_, st, rfl, ⟨by rw [e8], by rw [e8]; exact hst⟩, by rw [ht]; exact hP, va_K.moved hW.alike hK, by rw [hAe]; exact hD⟩, hS.F ht⟩) hS.2.2 dX3_begin_12
set_option maxHeartbeats 4000000 in
set_option maxRecDepth 100000 in
theorem c_X3_arc (l : Launch) (dC : Nat → ClassId) (dI : Nat → Nat → Nat) (cI : ClassId) (ad : Nat → Nat) (n a : Nat) (T H : Nat → Nat) (b : Nat) (R : Nat → Nat) (st : Int32) (O S : Nat → Int32) (sz : Nat) (x y : Int32) (hI : st_I n a T H b R) (hst : st = 1 ∨ (st = 0 ∧ O = pg_all n a b T H R)) : Met l yX3_arc (wq yX3_arc cX3_arc 3 (some .int)) ({ frames := 1, cells := 0, slots := 0, locals := 22 }) (mu_P (dC, dI) classes [(cI, .int)] (cw ad cI n a T H b R st O S) sz [.ref (ad 0), .int x, .int y]) (va_Qi (fun (r : Int32) (u : Int32) => r = (arF n a T H x y).1 ∧ (u = 1 ∨ (u = 0 ∧ O = pg_all n (arF n a T H x y).2.1 b (arF n a T H x y).2.2.1 (arF n a T H x y).2.2.2 R))) (mu_B (dC, dI) classes [(cI, .int)] (cw ad cI n a T H b R st O S) sz (fun u => cw ad cI n (arF n a T H x y).2.1 (arF n a T H x y).2.2.1 (arF n a T H x y).2.2.2 b R u O S)) (va_A (cw ad cI n a T H b R st O S) sz)) 0 0 (va_A (cw ad cI n a T H b R st O S) sz) := by
  obtain ⟨n1, n7, a14, hT, hT2, hb3, hR3, hR⟩ := hI
  have p7 := bi_p7 n7
  have p0 := Nat.two_pow_pos n
  refine Met.ofW (cc := cX3_arc) (maxL := 3) (ret := (some .int)) (by decide) rfl ?_
  intro p e s m args below meth c s₁ B hml hv
  obtain ⟨rfl, hsz, hP, hK, hN, hD0⟩ := hv
  have hx := B.exec
  have hb := B.bytes
  have hr := B.returns
  have hlocks := B.notSynchronized
  have hts := atoms_spec (ws := (wq yX3_arc cX3_arc 3 (some .int))) B.pre
  have hw : ∀ w ∈ bigW, w.before _ s = true := fun w h => hts w (List.mem_cons_of_mem _ h)
  have hown : s.vm.findClass RX3 = some m.cls := findClass_of_methodNamed B.named
  subst hsz
  have hD := hD0.self (sz := s.heap.size)
  generalize hAe : va_A (cw ad cI n a T H b R st O S) s.heap.size = A at hD ⊢
  have hA : ∀ q : Nat, s.heap.size ≤ q → A q := fun q h => by rw [← hAe]; exact Or.inr h
  have hS : va_S A s.heap s.heap [] := va_S.rf
  have hl := lv_entry ([.ref (ad 0), .int x, .int y]) (n := 3) (Nat.le_of_ble_eq_true rfl)
  rw [lg_entry_eq]
  generalize (lg_sl ([.ref (ad 0), .int x, .int y]) ++ List.replicate (3 - (lg_sl ([.ref (ad 0), .int x, .int y])).length) Slot.unset).toArray = ls at hl ⊢
  have hl : lv_has ls 3 [(0, .ref (ad 0)), (1, .int x), (2, .int y)] := hl
  refine lv_aload_n hx hb dX3_arc_0 rfl (lv_at hl 0 rfl) ?_
  refine va_get (D := (dC, dI)) (ci := 3) (v := .ref (ad 1)) (C := RX3) (T := TX3) (N := 3) hx hb hw in_X3 hown hK hP 0 rfl rfl 0 (by decide) (hw _ mq_fl_X3_10) (fun _ h9 => h9) rfl dX3_arc_1 ?_
  refine va_getN (D := (dC, dI)) (ci := 1) (v := .int (nI a)) (C := RX1) (T := TX1) (N := 4) hx hb hw in_X1 hown hK hP 1 rfl rfl 3 (by decide) (nf_X3_42 hN) (fun _ h9 => h9) rfl dX3_arc_4 ?_
  refine lv_bipush (v := nI 14) hx hb dX3_arc_7 (by decide) ?_
  refine lv_icmp_ge (tgt := 39) hx hb dX3_arc_9 (by decide) (fun b9 => ?_) (fun b9 => ?_)
  -- if_icmpge at 9, t
  · have t9 := (nI_leI (by omega) (by omega)).mp b9
    refine lv_iconst (v := -1) hx hb dX3_arc_39 (by decide) ?_
    have e8 : arF n a T H x y = (-1, a, T, H) := if_neg (fun h => absurd h.1 (by omega))
    have hP : va_P (dC, dI) classes (cw ad cI n (arF n a T H x y).2.1 (arF n a T H x y).2.2.1 (arF n a T H x y).2.2.2 b R st O S) s.heap := by rw [e8]; exact hP
    have hD : va_D A (cw ad cI n (arF n a T H x y).2.1 (arF n a T H x y).2.2.1 (arF n a T H x y).2.2.2 b R st O S) := by rw [e8]; exact hD
    exact W.iret (v := -1) hx hb hr (fun t ht hW => ⟨⟨_, st, rfl, ⟨by rw [e8], by rw [e8]; exact hst⟩, by rw [ht]; exact hP, va_K.moved hW.alike hK, by rw [hAe]; exact hD⟩, hS.F ht⟩) hS.2.2 dX3_arc_40
  -- if_icmpge at 9, f
  · have t9 : a < 14 := Nat.lt_of_not_le (fun z => b9 (nI_le z (by omega)))
    refine lv_aload_n hx hb dX3_arc_12 rfl (lv_at hl 0 rfl) ?_
    refine va_get (D := (dC, dI)) (ci := 3) (v := .ref (ad 1)) (C := RX3) (T := TX3) (N := 3) hx hb hw in_X3 hown hK hP 0 rfl rfl 0 (by decide) (hw _ mq_fl_X3_10) (fun _ h9 => h9) rfl dX3_arc_13 ?_
    refine lv_iload_n hx hb dX3_arc_16 rfl (lv_at hl 1 rfl) ?_
    refine ro_V (As := [.int x]) (rest := []) (b := ad 1) ⟨hx, hb, hml, hown, hts⟩ (c_X1_hasVertex l dC dI cI ad n a T H b R st O S x) (cwV 1 hts (bw_V mq_ml_X3_45 mq_im_X1_hasVertex mq_se_X1_hasVertex mq_in_X1 mq_co_X1_hasVertex) rfl rfl rfl (by decide +kernel) ⟨Nat.le_of_ble_eq_true rfl, Nat.le_of_ble_eq_true rfl⟩) hP hK hN 1 rfl rfl rfl hl.1 rfl (Nat.le_of_ble_eq_true rfl) dX3_arc_17 ⟨Nat.zero_le _, Nat.zero_le _⟩ (fun r9 h9 => ?_)
    obtain rfl : r9 = nI (ed_b (decide (0 ≤ x ∧ x < nI n))) := h9
    refine lv_if_eq (tgt := 39) hx hb dX3_arc_20 (by decide) (fun b20 => ?_) (fun b20 => ?_)
    -- ifeq at 20, t
    · have t20 := decide_eq_false_iff_not.mp (zb_0.mp b20)
      refine lv_iconst (v := -1) hx hb dX3_arc_39 (by decide) ?_
      have e8 : arF n a T H x y = (-1, a, T, H) := if_neg (fun h => t20 h.2.1)
      have hP : va_P (dC, dI) classes (cw ad cI n (arF n a T H x y).2.1 (arF n a T H x y).2.2.1 (arF n a T H x y).2.2.2 b R st O S) s.heap := by rw [e8]; exact hP
      have hD : va_D A (cw ad cI n (arF n a T H x y).2.1 (arF n a T H x y).2.2.1 (arF n a T H x y).2.2.2 b R st O S) := by rw [e8]; exact hD
      exact W.iret (v := -1) hx hb hr (fun t ht hW => ⟨⟨_, st, rfl, ⟨by rw [e8], by rw [e8]; exact hst⟩, by rw [ht]; exact hP, va_K.moved hW.alike hK, by rw [hAe]; exact hD⟩, hS.F ht⟩) hS.2.2 dX3_arc_40
    -- ifeq at 20, f
    · have t20 := decide_eq_true_eq.mp (zb_n0.mp b20)
      refine lv_aload_n hx hb dX3_arc_23 rfl (lv_at hl 0 rfl) ?_
      refine va_get (D := (dC, dI)) (ci := 3) (v := .ref (ad 1)) (C := RX3) (T := TX3) (N := 3) hx hb hw in_X3 hown hK hP 0 rfl rfl 0 (by decide) (hw _ mq_fl_X3_10) (fun _ h9 => h9) rfl dX3_arc_24 ?_
      refine lv_iload_n hx hb dX3_arc_27 rfl (lv_at hl 2 rfl) ?_
      refine ro_V (As := [.int y]) (rest := []) (b := ad 1) ⟨hx, hb, hml, hown, hts⟩ (c_X1_hasVertex l dC dI cI ad n a T H b R st O S y) (cwV 1 hts (bw_V mq_ml_X3_45 mq_im_X1_hasVertex mq_se_X1_hasVertex mq_in_X1 mq_co_X1_hasVertex) rfl rfl rfl (by decide +kernel) ⟨Nat.le_of_ble_eq_true rfl, Nat.le_of_ble_eq_true rfl⟩) hP hK hN 1 rfl rfl rfl hl.1 rfl (Nat.le_of_ble_eq_true rfl) dX3_arc_28 ⟨Nat.zero_le _, Nat.zero_le _⟩ (fun r9 h9 => ?_)
      obtain rfl : r9 = nI (ed_b (decide (0 ≤ y ∧ y < nI n))) := h9
      refine lv_if_eq (tgt := 39) hx hb dX3_arc_31 (by decide) (fun b31 => ?_) (fun b31 => ?_)
      -- ifeq at 31, t
      · have t31 := decide_eq_false_iff_not.mp (zb_0.mp b31)
        refine lv_iconst (v := -1) hx hb dX3_arc_39 (by decide) ?_
        have e8 : arF n a T H x y = (-1, a, T, H) := if_neg (fun h => t31 h.2.2.1)
        have hP : va_P (dC, dI) classes (cw ad cI n (arF n a T H x y).2.1 (arF n a T H x y).2.2.1 (arF n a T H x y).2.2.2 b R st O S) s.heap := by rw [e8]; exact hP
        have hD : va_D A (cw ad cI n (arF n a T H x y).2.1 (arF n a T H x y).2.2.1 (arF n a T H x y).2.2.2 b R st O S) := by rw [e8]; exact hD
        exact W.iret (v := -1) hx hb hr (fun t ht hW => ⟨⟨_, st, rfl, ⟨by rw [e8], by rw [e8]; exact hst⟩, by rw [ht]; exact hP, va_K.moved hW.alike hK, by rw [hAe]; exact hD⟩, hS.F ht⟩) hS.2.2 dX3_arc_40
      -- ifeq at 31, f
      · have t31 := decide_eq_true_eq.mp (zb_n0.mp b31)
        refine lv_iload_n hx hb dX3_arc_34 rfl (lv_at hl 1 rfl) ?_
        refine lv_iload_n hx hb dX3_arc_35 rfl (lv_at hl 2 rfl) ?_
        refine lv_icmp_ne (tgt := 41) hx hb dX3_arc_36 (by decide) (fun b36 => ?_) (fun b36 => ?_)
        -- if_icmpne at 36, t
        · obtain ⟨j, hj, rfl⟩ := is_in_of t20 (by omega)
          obtain ⟨k, hk, rfl⟩ := is_in_of t31 (by omega)
          refine lv_aload_n hx hb dX3_arc_41 rfl (lv_at hl 0 rfl) ?_
          refine va_get (D := (dC, dI)) (ci := 3) (v := .ref (ad 1)) (C := RX3) (T := TX3) (N := 3) hx hb hw in_X3 hown hK hP 0 rfl rfl 0 (by decide) (hw _ mq_fl_X3_10) (fun _ h9 => h9) rfl dX3_arc_42 ?_
          refine lv_iload_n hx hb dX3_arc_45 rfl (lv_at hl 1 rfl) ?_
          refine lv_iload_n hx hb dX3_arc_46 rfl (lv_at hl 2 rfl) ?_
          refine mu_Vv (As := [.int (nI j), .int (nI k)]) (rest := []) (b := ad 1) ⟨hx, hb, hml, hown, hts⟩ (c_X1_addArc l dC dI cI ad n a T H b R st O S _ j k t9) (cwV 2 hts (bw_V mq_ml_X3_49 mq_im_X1_addArc mq_se_X1_addArc mq_in_X1 mq_co_X1_addArc) rfl rfl rfl (by decide +kernel) ⟨Nat.le_of_ble_eq_true rfl, Nat.le_of_ble_eq_true rfl⟩) hP hK hN hD hS hA 1 rfl rfl rfl hl.1 rfl (Nat.le_of_ble_eq_true rfl) dX3_arc_47 ⟨Nat.zero_le _, Nat.zero_le _⟩ (fun u9 Hp locs h9 hP hD hS => ?_)
          have hP : va_P (dC, dI) classes (cw ad cI n (a + 1) (up T a j) (up H a k) b R st O S) Hp := hP
          have hD : va_D A (cw ad cI n (a + 1) (up T a j) (up H a k) b R st O S) := hD
          refine lv_aload_n hx hb dX3_arc_50 rfl (lv_at hl 0 rfl) ?_
          refine va_get (D := (dC, dI)) (ci := 3) (v := .ref (ad 6)) (C := RX3) (T := TX3) (N := 3) hx hb hw in_X3 hown hK hP 0 rfl rfl 2 (by decide) (hw _ mq_fl_X3_26) (fun _ h9 => h9) rfl dX3_arc_51 ?_
          refine lv_iconst (v := 1) hx hb dX3_arc_54 (by decide) ?_
          refine va_putN (D := (dC, dI)) (ci := 2) (v := .int 1) (ty := .boolean) (C := RX2) (T := TX2) (N := 3) hx hb hw in_X2 tyX2 tyX2_ok nmX2 hown hK hP hD hS 6 rfl rfl 2 (by decide) (nf_X3_38 hN) (fun _ h9 => h9) rfl (by decide +kernel) rfl rfl (Nat.le_of_ble_eq_true rfl) dX3_arc_55 (fun Hp locs hP hD hS => ?_)
          have hP : va_P (dC, dI) classes (cw ad cI n (a + 1) (up T a j) (up H a k) b R 1 O S) Hp := hP
          have hD : va_D A (cw ad cI n (a + 1) (up T a j) (up H a k) b R 1 O S) := hD
          refine lv_aload_n hx hb dX3_arc_58 rfl (lv_at hl 0 rfl) ?_
          refine va_get (D := (dC, dI)) (ci := 3) (v := .ref (ad 1)) (C := RX3) (T := TX3) (N := 3) hx hb hw in_X3 hown hK hP 0 rfl rfl 0 (by decide) (hw _ mq_fl_X3_10) (fun _ h9 => h9) rfl dX3_arc_59 ?_
          refine va_getN (D := (dC, dI)) (ci := 1) (v := .int (nI (a + 1))) (C := RX1) (T := TX1) (N := 4) hx hb hw in_X1 hown hK hP 1 rfl rfl 3 (by decide) (nf_X3_42 hN) (fun _ h9 => h9) rfl dX3_arc_62 ?_
          refine lv_iconst (v := 1) hx hb dX3_arc_65 (by decide) ?_
          refine lv_isub hx hb dX3_arc_66 ?_
          refine lv_topi (fun z9 e9 => ?_)
          obtain rfl : z9 = nI a := e9.trans (nI_pred a)
          have e8 : arF n a T H (nI j) (nI k) = (nI a, a + 1, up T a j, up H a k) := by rw [arF, if_pos ⟨t9, t20, t31, b36⟩, nI_clamp (by omega), nI_clamp (by omega)]
          have hP : va_P (dC, dI) classes (cw ad cI n (arF n a T H (nI j) (nI k)).2.1 (arF n a T H (nI j) (nI k)).2.2.1 (arF n a T H (nI j) (nI k)).2.2.2 b R 1 O S) Hp := by rw [e8]; exact hP
          have hD : va_D A (cw ad cI n (arF n a T H (nI j) (nI k)).2.1 (arF n a T H (nI j) (nI k)).2.2.1 (arF n a T H (nI j) (nI k)).2.2.2 b R 1 O S) := by rw [e8]; exact hD
          exact W.iret (v := nI a) hx hb hr (fun t ht hW => ⟨⟨_, 1, rfl, ⟨by rw [e8], Or.inl rfl⟩, by rw [ht]; exact hP, va_K.moved hW.alike hK, by rw [hAe]; exact hD⟩, hS.F ht⟩) hS.2.2 dX3_arc_67
        -- if_icmpne at 36, f
        · refine lv_iconst (v := -1) hx hb dX3_arc_39 (by decide) ?_
          have e8 : arF n a T H x y = (-1, a, T, H) := if_neg (fun h => h.2.2.2 b36)
          have hP : va_P (dC, dI) classes (cw ad cI n (arF n a T H x y).2.1 (arF n a T H x y).2.2.1 (arF n a T H x y).2.2.2 b R st O S) s.heap := by rw [e8]; exact hP
          have hD : va_D A (cw ad cI n (arF n a T H x y).2.1 (arF n a T H x y).2.2.1 (arF n a T H x y).2.2.2 b R st O S) := by rw [e8]; exact hD
          exact W.iret (v := -1) hx hb hr (fun t ht hW => ⟨⟨_, st, rfl, ⟨by rw [e8], by rw [e8]; exact hst⟩, by rw [ht]; exact hP, va_K.moved hW.alike hK, by rw [hAe]; exact hD⟩, hS.F ht⟩) hS.2.2 dX3_arc_40
set_option maxHeartbeats 4000000 in
set_option maxRecDepth 100000 in
theorem c_X3_drop (l : Launch) (dC : Nat → ClassId) (dI : Nat → Nat → Nat) (cI : ClassId) (ad : Nat → Nat) (n a : Nat) (T H : Nat → Nat) (b : Nat) (R : Nat → Nat) (st : Int32) (O S : Nat → Int32) (sz : Nat) (x : Int32) (hI : st_I n a T H b R) (hst : st = 1 ∨ (st = 0 ∧ O = pg_all n a b T H R)) : Met l yX3_drop (wq yX3_drop cX3_drop 2 (some .boolean)) ({ frames := 1, cells := 0, slots := 0, locals := 22 }) (mu_P (dC, dI) classes [(cI, .int)] (cw ad cI n a T H b R st O S) sz [.ref (ad 0), .int x]) (va_Qi (fun (r : Int32) (u : Int32) => r = (drF a T H x).1 ∧ (u = 1 ∨ (u = 0 ∧ O = pg_all n (drF a T H x).2.1 b (drF a T H x).2.2.1 (drF a T H x).2.2.2 R))) (mu_B (dC, dI) classes [(cI, .int)] (cw ad cI n a T H b R st O S) sz (fun u => cw ad cI n (drF a T H x).2.1 (drF a T H x).2.2.1 (drF a T H x).2.2.2 b R u O S)) (va_A (cw ad cI n a T H b R st O S) sz)) 0 0 (va_A (cw ad cI n a T H b R st O S) sz) := by
  obtain ⟨n1, n7, a14, hT, hT2, hb3, hR3, hR⟩ := hI
  have p7 := bi_p7 n7
  have p0 := Nat.two_pow_pos n
  refine Met.ofW (cc := cX3_drop) (maxL := 2) (ret := (some .boolean)) (by decide) rfl ?_
  intro p e s m args below meth c s₁ B hml hv
  obtain ⟨rfl, hsz, hP, hK, hN, hD0⟩ := hv
  have hx := B.exec
  have hb := B.bytes
  have hr := B.returns
  have hlocks := B.notSynchronized
  have hts := atoms_spec (ws := (wq yX3_drop cX3_drop 2 (some .boolean))) B.pre
  have hw : ∀ w ∈ bigW, w.before _ s = true := fun w h => hts w (List.mem_cons_of_mem _ h)
  have hown : s.vm.findClass RX3 = some m.cls := findClass_of_methodNamed B.named
  subst hsz
  have hD := hD0.self (sz := s.heap.size)
  generalize hAe : va_A (cw ad cI n a T H b R st O S) s.heap.size = A at hD ⊢
  have hA : ∀ q : Nat, s.heap.size ≤ q → A q := fun q h => by rw [← hAe]; exact Or.inr h
  have hS : va_S A s.heap s.heap [] := va_S.rf
  have hl := lv_entry ([.ref (ad 0), .int x]) (n := 2) (Nat.le_of_ble_eq_true rfl)
  rw [lg_entry_eq]
  generalize (lg_sl ([.ref (ad 0), .int x]) ++ List.replicate (2 - (lg_sl ([.ref (ad 0), .int x])).length) Slot.unset).toArray = ls at hl ⊢
  have hl : lv_has ls 2 [(0, .ref (ad 0)), (1, .int x)] := hl
  refine lv_aload_n hx hb dX3_drop_0 rfl (lv_at hl 0 rfl) ?_
  refine va_get (D := (dC, dI)) (ci := 3) (v := .ref (ad 1)) (C := RX3) (T := TX3) (N := 3) hx hb hw in_X3 hown hK hP 0 rfl rfl 0 (by decide) (hw _ mq_fl_X3_10) (fun _ h9 => h9) rfl dX3_drop_1 ?_
  refine lv_iload_n hx hb dX3_drop_4 rfl (lv_at hl 1 rfl) ?_
  refine ro_V (As := [.int x]) (rest := []) (b := ad 1) ⟨hx, hb, hml, hown, hts⟩ (c_X1_hasArc l dC dI cI ad n a T H b R st O S x) (cwV 1 hts (bw_V mq_ml_X3_53 mq_im_X1_hasArc mq_se_X1_hasArc mq_in_X1 mq_co_X1_hasArc) rfl rfl rfl (by decide +kernel) ⟨Nat.le_of_ble_eq_true rfl, Nat.le_of_ble_eq_true rfl⟩) hP hK hN 1 rfl rfl rfl hl.1 rfl (Nat.le_of_ble_eq_true rfl) dX3_drop_5 ⟨Nat.zero_le _, Nat.zero_le _⟩ (fun r9 h9 => ?_)
  obtain rfl : r9 = nI (ed_b (decide (0 ≤ x ∧ x < nI a))) := h9
  refine lv_if_ne (tgt := 13) hx hb dX3_drop_8 (by decide) (fun b8 => ?_) (fun b8 => ?_)
  -- ifne at 8, t
  · have t8 := decide_eq_true_eq.mp (zb_n0.mp b8)
    obtain ⟨j, hj, rfl⟩ := is_in_of t8 (by omega)
    refine lv_aload_n hx hb dX3_drop_13 rfl (lv_at hl 0 rfl) ?_
    refine va_get (D := (dC, dI)) (ci := 3) (v := .ref (ad 1)) (C := RX3) (T := TX3) (N := 3) hx hb hw in_X3 hown hK hP 0 rfl rfl 0 (by decide) (hw _ mq_fl_X3_10) (fun _ h9 => h9) rfl dX3_drop_14 ?_
    refine lv_iload_n hx hb dX3_drop_17 rfl (lv_at hl 1 rfl) ?_
    refine mu_Vv (As := [.int (nI j)]) (rest := []) (b := ad 1) ⟨hx, hb, hml, hown, hts⟩ (c_X1_removeArc l dC dI cI ad n a T H b R st O S _ j hj a14) (cwV 1 hts (bw_V mq_ml_X3_56 mq_im_X1_removeArc mq_se_X1_removeArc mq_in_X1 mq_co_X1_removeArc) rfl rfl rfl (by decide +kernel) ⟨Nat.le_of_ble_eq_true rfl, Nat.le_of_ble_eq_true rfl⟩) hP hK hN hD hS hA 1 rfl rfl rfl hl.1 rfl (Nat.le_of_ble_eq_true rfl) dX3_drop_18 ⟨Nat.zero_le _, Nat.zero_le _⟩ (fun u9 Hp locs h9 hP hD hS => ?_)
    have hP : va_P (dC, dI) classes (cw ad cI n (a - 1) (rm_f T j (a - 1)) (rm_f H j (a - 1)) b R st O S) Hp := hP
    have hD : va_D A (cw ad cI n (a - 1) (rm_f T j (a - 1)) (rm_f H j (a - 1)) b R st O S) := hD
    refine lv_aload_n hx hb dX3_drop_21 rfl (lv_at hl 0 rfl) ?_
    refine va_get (D := (dC, dI)) (ci := 3) (v := .ref (ad 6)) (C := RX3) (T := TX3) (N := 3) hx hb hw in_X3 hown hK hP 0 rfl rfl 2 (by decide) (hw _ mq_fl_X3_26) (fun _ h9 => h9) rfl dX3_drop_22 ?_
    refine lv_iconst (v := 1) hx hb dX3_drop_25 (by decide) ?_
    refine va_putN (D := (dC, dI)) (ci := 2) (v := .int 1) (ty := .boolean) (C := RX2) (T := TX2) (N := 3) hx hb hw in_X2 tyX2 tyX2_ok nmX2 hown hK hP hD hS 6 rfl rfl 2 (by decide) (nf_X3_38 hN) (fun _ h9 => h9) rfl (by decide +kernel) rfl rfl (Nat.le_of_ble_eq_true rfl) dX3_drop_26 (fun Hp locs hP hD hS => ?_)
    have hP : va_P (dC, dI) classes (cw ad cI n (a - 1) (rm_f T j (a - 1)) (rm_f H j (a - 1)) b R 1 O S) Hp := hP
    have hD : va_D A (cw ad cI n (a - 1) (rm_f T j (a - 1)) (rm_f H j (a - 1)) b R 1 O S) := hD
    refine lv_iconst (v := 1) hx hb dX3_drop_29 (by decide) ?_
    have e8 : drF a T H (nI j) = (1, a - 1, rm_f T j (a - 1), rm_f H j (a - 1)) := by rw [drF, if_pos t8, nI_clamp (by omega)]
    have hP : va_P (dC, dI) classes (cw ad cI n (drF a T H (nI j)).2.1 (drF a T H (nI j)).2.2.1 (drF a T H (nI j)).2.2.2 b R 1 O S) Hp := by rw [e8]; exact hP
    have hD : va_D A (cw ad cI n (drF a T H (nI j)).2.1 (drF a T H (nI j)).2.2.1 (drF a T H (nI j)).2.2.2 b R 1 O S) := by rw [e8]; exact hD
    exact W.zret (v := 1) hx hb hr rfl (fun t ht hW => ⟨⟨_, 1, rfl, ⟨by rw [e8], Or.inl rfl⟩, by rw [ht]; exact hP, va_K.moved hW.alike hK, by rw [hAe]; exact hD⟩, hS.F ht⟩) hS.2.2 dX3_drop_30
  -- ifne at 8, f
  · have t8 := decide_eq_false_iff_not.mp (zb_0.mp b8)
    refine lv_iconst (v := 0) hx hb dX3_drop_11 (by decide) ?_
    have e8 : drF a T H x = (0, a, T, H) := if_neg t8
    have hP : va_P (dC, dI) classes (cw ad cI n (drF a T H x).2.1 (drF a T H x).2.2.1 (drF a T H x).2.2.2 b R st O S) s.heap := by rw [e8]; exact hP
    have hD : va_D A (cw ad cI n (drF a T H x).2.1 (drF a T H x).2.2.1 (drF a T H x).2.2.2 b R st O S) := by rw [e8]; exact hD
    exact W.zret (v := 0) hx hb hr rfl (fun t ht hW => ⟨⟨_, st, rfl, ⟨by rw [e8], by rw [e8]; exact hst⟩, by rw [ht]; exact hP, va_K.moved hW.alike hK, by rw [hAe]; exact hD⟩, hS.F ht⟩) hS.2.2 dX3_drop_12
set_option maxHeartbeats 4000000 in
set_option maxRecDepth 100000 in
theorem c_X3_plant (l : Launch) (dC : Nat → ClassId) (dI : Nat → Nat → Nat) (cI : ClassId) (ad : Nat → Nat) (n a : Nat) (T H : Nat → Nat) (b : Nat) (R : Nat → Nat) (st : Int32) (O S : Nat → Int32) (sz : Nat) (x : Int32) (hI : st_I n a T H b R) (hst : st = 1 ∨ (st = 0 ∧ O = pg_all n a b T H R)) : Met l yX3_plant (wq yX3_plant cX3_plant 2 (some .int)) ({ frames := 2, cells := 0, slots := 0, locals := 41 }) (mu_P (dC, dI) classes [(cI, .int)] (cw ad cI n a T H b R st O S) sz [.ref (ad 0), .int x]) (va_Qi (fun (r : Int32) (u : Int32) => r = (plF n b R x).1 ∧ (u = 1 ∨ (u = 0 ∧ O = pg_all n a (plF n b R x).2.1 T H (plF n b R x).2.2))) (mu_B (dC, dI) classes [(cI, .int)] (cw ad cI n a T H b R st O S) sz (fun u => cw ad cI n a T H (plF n b R x).2.1 (plF n b R x).2.2 u O S)) (va_A (cw ad cI n a T H b R st O S) sz)) 0 0 (va_A (cw ad cI n a T H b R st O S) sz) := by
  obtain ⟨n1, n7, a14, hT, hT2, hb3, hR3, hR⟩ := hI
  have p7 := bi_p7 n7
  have p0 := Nat.two_pow_pos n
  refine Met.ofW (cc := cX3_plant) (maxL := 2) (ret := (some .int)) (by decide) rfl ?_
  intro p e s m args below meth c s₁ B hml hv
  obtain ⟨rfl, hsz, hP, hK, hN, hD0⟩ := hv
  have hx := B.exec
  have hb := B.bytes
  have hr := B.returns
  have hlocks := B.notSynchronized
  have hts := atoms_spec (ws := (wq yX3_plant cX3_plant 2 (some .int))) B.pre
  have hw : ∀ w ∈ bigW, w.before _ s = true := fun w h => hts w (List.mem_cons_of_mem _ h)
  have hown : s.vm.findClass RX3 = some m.cls := findClass_of_methodNamed B.named
  subst hsz
  have hD := hD0.self (sz := s.heap.size)
  generalize hAe : va_A (cw ad cI n a T H b R st O S) s.heap.size = A at hD ⊢
  have hA : ∀ q : Nat, s.heap.size ≤ q → A q := fun q h => by rw [← hAe]; exact Or.inr h
  have hS : va_S A s.heap s.heap [] := va_S.rf
  have hl := lv_entry ([.ref (ad 0), .int x]) (n := 2) (Nat.le_of_ble_eq_true rfl)
  rw [lg_entry_eq]
  generalize (lg_sl ([.ref (ad 0), .int x]) ++ List.replicate (2 - (lg_sl ([.ref (ad 0), .int x])).length) Slot.unset).toArray = ls at hl ⊢
  have hl : lv_has ls 2 [(0, .ref (ad 0)), (1, .int x)] := hl
  refine lv_aload_n hx hb dX3_plant_0 rfl (lv_at hl 0 rfl) ?_
  refine va_get (D := (dC, dI)) (ci := 3) (v := .ref (ad 4)) (C := RX3) (T := TX3) (N := 3) hx hb hw in_X3 hown hK hP 0 rfl rfl 1 (by decide) (hw _ mq_fl_X3_19) (fun _ h9 => h9) rfl dX3_plant_1 ?_
  refine va_getN (D := (dC, dI)) (ci := 0) (v := .int (nI b)) (C := RX0) (T := TX0) (N := 2) hx hb hw in_X0 hown hK hP 4 rfl rfl 1 (by decide) (nf_X3_34 hN) (fun _ h9 => h9) rfl dX3_plant_4 ?_
  refine lv_iconst (v := nI 3) hx hb dX3_plant_7 (by decide) ?_
  refine lv_icmp_ge (tgt := 26) hx hb dX3_plant_8 (by decide) (fun b8 => ?_) (fun b8 => ?_)
  -- if_icmpge at 8, t
  · have t8 := (nI_leI (by omega) (by omega)).mp b8
    refine lv_iconst (v := -1) hx hb dX3_plant_26 (by decide) ?_
    have e8 : plF n b R x = (-1, b, R) := if_neg (fun h => absurd h.1 (by omega))
    have hP : va_P (dC, dI) classes (cw ad cI n a T H (plF n b R x).2.1 (plF n b R x).2.2 st O S) s.heap := by rw [e8]; exact hP
    have hD : va_D A (cw ad cI n a T H (plF n b R x).2.1 (plF n b R x).2.2 st O S) := by rw [e8]; exact hD
    exact W.iret (v := -1) hx hb hr (fun t ht hW => ⟨⟨_, st, rfl, ⟨by rw [e8], by rw [e8]; exact hst⟩, by rw [ht]; exact hP, va_K.moved hW.alike hK, by rw [hAe]; exact hD⟩, hS.F ht⟩) hS.2.2 dX3_plant_27
  -- if_icmpge at 8, f
  · have t8 : b < 3 := Nat.lt_of_not_le (fun z => b8 (nI_le z (by omega)))
    refine lv_iload_n hx hb dX3_plant_11 rfl (lv_at hl 1 rfl) ?_
    refine lv_if_eq (tgt := 26) hx hb dX3_plant_12 (by decide) (fun b12 => ?_) (fun b12 => ?_)
    -- ifeq at 12, t
    · refine lv_iconst (v := -1) hx hb dX3_plant_26 (by decide) ?_
      have e8 : plF n b R x = (-1, b, R) := if_neg (fun h => h.2.1 b12)
      have hP : va_P (dC, dI) classes (cw ad cI n a T H (plF n b R x).2.1 (plF n b R x).2.2 st O S) s.heap := by rw [e8]; exact hP
      have hD : va_D A (cw ad cI n a T H (plF n b R x).2.1 (plF n b R x).2.2 st O S) := by rw [e8]; exact hD
      exact W.iret (v := -1) hx hb hr (fun t ht hW => ⟨⟨_, st, rfl, ⟨by rw [e8], by rw [e8]; exact hst⟩, by rw [ht]; exact hP, va_K.moved hW.alike hK, by rw [hAe]; exact hD⟩, hS.F ht⟩) hS.2.2 dX3_plant_27
    -- ifeq at 12, f
    · refine lv_aload_n hx hb dX3_plant_15 rfl (lv_at hl 0 rfl) ?_
      refine va_get (D := (dC, dI)) (ci := 3) (v := .ref (ad 1)) (C := RX3) (T := TX3) (N := 3) hx hb hw in_X3 hown hK hP 0 rfl rfl 0 (by decide) (hw _ mq_fl_X3_10) (fun _ h9 => h9) rfl dX3_plant_16 ?_
      refine lv_iload_n hx hb dX3_plant_19 rfl (lv_at hl 1 rfl) ?_
      refine ro_V (As := [.int x]) (rest := []) (b := ad 1) ⟨hx, hb, hml, hown, hts⟩ (c_X1_hasSet l dC dI cI ad n a T H b R st O S n7 x) (cwV 1 hts (bw_V mq_ml_X3_59 mq_im_X1_hasSet mq_se_X1_hasSet mq_in_X1 mq_co_X1_hasSet) rfl rfl rfl (by decide +kernel) ⟨Nat.le_of_ble_eq_true rfl, Nat.le_of_ble_eq_true rfl⟩) hP hK hN 1 rfl rfl rfl hl.1 rfl (Nat.le_of_ble_eq_true rfl) dX3_plant_20 ⟨Nat.zero_le _, Nat.zero_le _⟩ (fun r9 h9 => ?_)
      obtain rfl : r9 = nI (ed_b (decide (0 ≤ x ∧ x ≤ nI (2 ^ n - 1)))) := h9
      refine lv_if_ne (tgt := 28) hx hb dX3_plant_23 (by decide) (fun b23 => ?_) (fun b23 => ?_)
      -- ifne at 23, t
      · have t23 := decide_eq_true_eq.mp (zb_n0.mp b23)
        obtain ⟨X, hX, rfl⟩ := is_in_of ((is_set_in n7).mp t23) (by omega)
        refine lv_aload_n hx hb dX3_plant_28 rfl (lv_at hl 0 rfl) ?_
        refine va_get (D := (dC, dI)) (ci := 3) (v := .ref (ad 4)) (C := RX3) (T := TX3) (N := 3) hx hb hw in_X3 hown hK hP 0 rfl rfl 1 (by decide) (hw _ mq_fl_X3_19) (fun _ h9 => h9) rfl dX3_plant_29 ?_
        refine lv_iload_n hx hb dX3_plant_32 rfl (lv_at hl 1 rfl) ?_
        refine mu_Vv (As := [.int (nI X)]) (rest := []) (b := ad 4) ⟨hx, hb, hml, hown, hts⟩ (c_X0_add l dC dI cI ad n a T H b R st O S _ X t8) (cwV 1 hts (bw_V mq_ml_X3_62 mq_im_X0_add mq_se_X0_add mq_in_X0 mq_co_X0_add) rfl rfl rfl (by decide +kernel) ⟨Nat.le_of_ble_eq_true rfl, Nat.le_of_ble_eq_true rfl⟩) hP hK hN hD hS hA 4 rfl rfl rfl hl.1 rfl (Nat.le_of_ble_eq_true rfl) dX3_plant_33 ⟨Nat.zero_le _, Nat.zero_le _⟩ (fun u9 Hp locs h9 hP hD hS => ?_)
        have hP : va_P (dC, dI) classes (cw ad cI n a T H (b + 1) (up R b X) st O S) Hp := hP
        have hD : va_D A (cw ad cI n a T H (b + 1) (up R b X) st O S) := hD
        refine lv_aload_n hx hb dX3_plant_36 rfl (lv_at hl 0 rfl) ?_
        refine va_get (D := (dC, dI)) (ci := 3) (v := .ref (ad 6)) (C := RX3) (T := TX3) (N := 3) hx hb hw in_X3 hown hK hP 0 rfl rfl 2 (by decide) (hw _ mq_fl_X3_26) (fun _ h9 => h9) rfl dX3_plant_37 ?_
        refine lv_iconst (v := 1) hx hb dX3_plant_40 (by decide) ?_
        refine va_putN (D := (dC, dI)) (ci := 2) (v := .int 1) (ty := .boolean) (C := RX2) (T := TX2) (N := 3) hx hb hw in_X2 tyX2 tyX2_ok nmX2 hown hK hP hD hS 6 rfl rfl 2 (by decide) (nf_X3_38 hN) (fun _ h9 => h9) rfl (by decide +kernel) rfl rfl (Nat.le_of_ble_eq_true rfl) dX3_plant_41 (fun Hp locs hP hD hS => ?_)
        have hP : va_P (dC, dI) classes (cw ad cI n a T H (b + 1) (up R b X) 1 O S) Hp := hP
        have hD : va_D A (cw ad cI n a T H (b + 1) (up R b X) 1 O S) := hD
        refine lv_aload_n hx hb dX3_plant_44 rfl (lv_at hl 0 rfl) ?_
        refine va_get (D := (dC, dI)) (ci := 3) (v := .ref (ad 4)) (C := RX3) (T := TX3) (N := 3) hx hb hw in_X3 hown hK hP 0 rfl rfl 1 (by decide) (hw _ mq_fl_X3_19) (fun _ h9 => h9) rfl dX3_plant_45 ?_
        refine va_getN (D := (dC, dI)) (ci := 0) (v := .int (nI (b + 1))) (C := RX0) (T := TX0) (N := 2) hx hb hw in_X0 hown hK hP 4 rfl rfl 1 (by decide) (nf_X3_34 hN) (fun _ h9 => h9) rfl dX3_plant_48 ?_
        refine lv_iconst (v := 1) hx hb dX3_plant_51 (by decide) ?_
        refine lv_isub hx hb dX3_plant_52 ?_
        refine lv_topi (fun z9 e9 => ?_)
        obtain rfl : z9 = nI b := e9.trans (nI_pred b)
        have e8 : plF n b R (nI X) = (nI b, b + 1, up R b X) := by rw [plF, if_pos ⟨t8, b12, t23⟩, nI_clamp (by omega)]
        have hP : va_P (dC, dI) classes (cw ad cI n a T H (plF n b R (nI X)).2.1 (plF n b R (nI X)).2.2 1 O S) Hp := by rw [e8]; exact hP
        have hD : va_D A (cw ad cI n a T H (plF n b R (nI X)).2.1 (plF n b R (nI X)).2.2 1 O S) := by rw [e8]; exact hD
        exact W.iret (v := nI b) hx hb hr (fun t ht hW => ⟨⟨_, 1, rfl, ⟨by rw [e8], Or.inl rfl⟩, by rw [ht]; exact hP, va_K.moved hW.alike hK, by rw [hAe]; exact hD⟩, hS.F ht⟩) hS.2.2 dX3_plant_53
      -- ifne at 23, f
      · have t23 := decide_eq_false_iff_not.mp (zb_0.mp b23)
        refine lv_iconst (v := -1) hx hb dX3_plant_26 (by decide) ?_
        have e8 : plF n b R x = (-1, b, R) := if_neg (fun h => t23 h.2.2)
        have hP : va_P (dC, dI) classes (cw ad cI n a T H (plF n b R x).2.1 (plF n b R x).2.2 st O S) s.heap := by rw [e8]; exact hP
        have hD : va_D A (cw ad cI n a T H (plF n b R x).2.1 (plF n b R x).2.2 st O S) := by rw [e8]; exact hD
        exact W.iret (v := -1) hx hb hr (fun t ht hW => ⟨⟨_, st, rfl, ⟨by rw [e8], by rw [e8]; exact hst⟩, by rw [ht]; exact hP, va_K.moved hW.alike hK, by rw [hAe]; exact hD⟩, hS.F ht⟩) hS.2.2 dX3_plant_27
set_option maxHeartbeats 4000000 in
set_option maxRecDepth 100000 in
theorem c_X3_fell (l : Launch) (dC : Nat → ClassId) (dI : Nat → Nat → Nat) (cI : ClassId) (ad : Nat → Nat) (n a : Nat) (T H : Nat → Nat) (b : Nat) (R : Nat → Nat) (st : Int32) (O S : Nat → Int32) (sz : Nat) (hI : st_I n a T H b R) (hst : st = 1 ∨ (st = 0 ∧ O = pg_all n a b T H R)) : Met l yX3_fell (wq yX3_fell cX3_fell 1 (some .int)) ({ frames := 0, cells := 0, slots := 0, locals := 0 }) (mu_P (dC, dI) classes [(cI, .int)] (cw ad cI n a T H b R st O S) sz [.ref (ad 0)]) (va_Qi (fun (r : Int32) (u : Int32) => r = (feF b).1 ∧ (u = 1 ∨ (u = 0 ∧ O = pg_all n a (feF b).2 T H R))) (mu_B (dC, dI) classes [(cI, .int)] (cw ad cI n a T H b R st O S) sz (fun u => cw ad cI n a T H (feF b).2 R u O S)) (va_A (cw ad cI n a T H b R st O S) sz)) 0 0 (va_A (cw ad cI n a T H b R st O S) sz) := by
  obtain ⟨n1, n7, a14, hT, hT2, hb3, hR3, hR⟩ := hI
  have p7 := bi_p7 n7
  have p0 := Nat.two_pow_pos n
  refine Met.ofW (cc := cX3_fell) (maxL := 1) (ret := (some .int)) (by decide) rfl ?_
  intro p e s m args below meth c s₁ B hml hv
  obtain ⟨rfl, hsz, hP, hK, hN, hD0⟩ := hv
  have hx := B.exec
  have hb := B.bytes
  have hr := B.returns
  have hlocks := B.notSynchronized
  have hts := atoms_spec (ws := (wq yX3_fell cX3_fell 1 (some .int))) B.pre
  have hw : ∀ w ∈ bigW, w.before _ s = true := fun w h => hts w (List.mem_cons_of_mem _ h)
  have hown : s.vm.findClass RX3 = some m.cls := findClass_of_methodNamed B.named
  subst hsz
  have hD := hD0.self (sz := s.heap.size)
  generalize hAe : va_A (cw ad cI n a T H b R st O S) s.heap.size = A at hD ⊢
  have hA : ∀ q : Nat, s.heap.size ≤ q → A q := fun q h => by rw [← hAe]; exact Or.inr h
  have hS : va_S A s.heap s.heap [] := va_S.rf
  have hl := lv_entry ([.ref (ad 0)]) (n := 1) (Nat.le_of_ble_eq_true rfl)
  rw [lg_entry_eq]
  generalize (lg_sl ([.ref (ad 0)]) ++ List.replicate (1 - (lg_sl ([.ref (ad 0)])).length) Slot.unset).toArray = ls at hl ⊢
  have hl : lv_has ls 1 [(0, .ref (ad 0))] := hl
  refine lv_aload_n hx hb dX3_fell_0 rfl (lv_at hl 0 rfl) ?_
  refine va_get (D := (dC, dI)) (ci := 3) (v := .ref (ad 4)) (C := RX3) (T := TX3) (N := 3) hx hb hw in_X3 hown hK hP 0 rfl rfl 1 (by decide) (hw _ mq_fl_X3_19) (fun _ h9 => h9) rfl dX3_fell_1 ?_
  refine va_getN (D := (dC, dI)) (ci := 0) (v := .int (nI b)) (C := RX0) (T := TX0) (N := 2) hx hb hw in_X0 hown hK hP 4 rfl rfl 1 (by decide) (nf_X3_34 hN) (fun _ h9 => h9) rfl dX3_fell_4 ?_
  refine lv_if_ne (tgt := 12) hx hb dX3_fell_7 (by decide) (fun b7 => ?_) (fun b7 => ?_)
  -- ifne at 7, t
  · have t7 : ¬ b = 0 := fun z => b7 (by rw [z]; exact nI_0)
    refine lv_aload_n hx hb dX3_fell_12 rfl (lv_at hl 0 rfl) ?_
    refine va_get (D := (dC, dI)) (ci := 3) (v := .ref (ad 4)) (C := RX3) (T := TX3) (N := 3) hx hb hw in_X3 hown hK hP 0 rfl rfl 1 (by decide) (hw _ mq_fl_X3_19) (fun _ h9 => h9) rfl dX3_fell_13 ?_
    refine lv_dup hx hb dX3_fell_16 rfl ?_
    refine va_getN (D := (dC, dI)) (ci := 0) (v := .int (nI b)) (C := RX0) (T := TX0) (N := 2) hx hb hw in_X0 hown hK hP 4 rfl rfl 1 (by decide) (nf_X3_34 hN) (fun _ h9 => h9) rfl dX3_fell_17 ?_
    refine lv_iconst (v := 1) hx hb dX3_fell_20 (by decide) ?_
    refine lv_isub hx hb dX3_fell_21 ?_
    refine lv_topi (fun z9 e9 => ?_)
    obtain rfl : z9 = nI (b - 1) := e9.trans (pk_sub (b := 1) (by omega))
    refine va_putN (D := (dC, dI)) (ci := 0) (v := .int (nI (b - 1))) (ty := .int) (C := RX0) (T := TX0) (N := 2) hx hb hw in_X0 tyX0 tyX0_ok nmX0 hown hK hP hD hS 4 rfl rfl 1 (by decide) (nf_X3_34 hN) (fun _ h9 => h9) rfl (by decide +kernel) rfl rfl (Nat.le_of_ble_eq_true rfl) dX3_fell_22 (fun Hp locs hP hD hS => ?_)
    have hP : va_P (dC, dI) classes (cw ad cI n a T H (b - 1) R st O S) Hp := hP
    have hD : va_D A (cw ad cI n a T H (b - 1) R st O S) := hD
    refine lv_aload_n hx hb dX3_fell_25 rfl (lv_at hl 0 rfl) ?_
    refine va_get (D := (dC, dI)) (ci := 3) (v := .ref (ad 6)) (C := RX3) (T := TX3) (N := 3) hx hb hw in_X3 hown hK hP 0 rfl rfl 2 (by decide) (hw _ mq_fl_X3_26) (fun _ h9 => h9) rfl dX3_fell_26 ?_
    refine lv_iconst (v := 1) hx hb dX3_fell_29 (by decide) ?_
    refine va_putN (D := (dC, dI)) (ci := 2) (v := .int 1) (ty := .boolean) (C := RX2) (T := TX2) (N := 3) hx hb hw in_X2 tyX2 tyX2_ok nmX2 hown hK hP hD hS 6 rfl rfl 2 (by decide) (nf_X3_38 hN) (fun _ h9 => h9) rfl (by decide +kernel) rfl rfl (Nat.le_of_ble_eq_true rfl) dX3_fell_30 (fun Hp locs hP hD hS => ?_)
    have hP : va_P (dC, dI) classes (cw ad cI n a T H (b - 1) R 1 O S) Hp := hP
    have hD : va_D A (cw ad cI n a T H (b - 1) R 1 O S) := hD
    refine lv_aload_n hx hb dX3_fell_33 rfl (lv_at hl 0 rfl) ?_
    refine va_get (D := (dC, dI)) (ci := 3) (v := .ref (ad 4)) (C := RX3) (T := TX3) (N := 3) hx hb hw in_X3 hown hK hP 0 rfl rfl 1 (by decide) (hw _ mq_fl_X3_19) (fun _ h9 => h9) rfl dX3_fell_34 ?_
    refine va_getN (D := (dC, dI)) (ci := 0) (v := .int (nI (b - 1))) (C := RX0) (T := TX0) (N := 2) hx hb hw in_X0 hown hK hP 4 rfl rfl 1 (by decide) (nf_X3_34 hN) (fun _ h9 => h9) rfl dX3_fell_37 ?_
    have e8 : feF b = (nI (b - 1), b - 1) := if_neg t7
    have hP : va_P (dC, dI) classes (cw ad cI n a T H (feF b).2 R 1 O S) Hp := by rw [e8]; exact hP
    have hD : va_D A (cw ad cI n a T H (feF b).2 R 1 O S) := by rw [e8]; exact hD
    exact W.iret (v := nI (b - 1)) hx hb hr (fun t ht hW => ⟨⟨_, 1, rfl, ⟨by rw [e8], Or.inl rfl⟩, by rw [ht]; exact hP, va_K.moved hW.alike hK, by rw [hAe]; exact hD⟩, hS.F ht⟩) hS.2.2 dX3_fell_40
  -- ifne at 7, f
  · have t7 : b = 0 := (nI_eq (by omega) (by decide)).mp (b7.trans nI_0.symm)
    refine lv_iconst (v := -1) hx hb dX3_fell_10 (by decide) ?_
    have e8 : feF b = (-1, b) := if_pos t7
    have hP : va_P (dC, dI) classes (cw ad cI n a T H (feF b).2 R st O S) s.heap := by rw [e8]; exact hP
    have hD : va_D A (cw ad cI n a T H (feF b).2 R st O S) := by rw [e8]; exact hD
    exact W.iret (v := -1) hx hb hr (fun t ht hW => ⟨⟨_, st, rfl, ⟨by rw [e8], by rw [e8]; exact hst⟩, by rw [ht]; exact hP, va_K.moved hW.alike hK, by rw [hAe]; exact hD⟩, hS.F ht⟩) hS.2.2 dX3_fell_11
set_option maxHeartbeats 4000000 in
set_option maxRecDepth 100000 in
theorem c_X3_owner (l : Launch) (dC : Nat → ClassId) (dI : Nat → Nat → Nat) (cI : ClassId) (ad : Nat → Nat) (n a : Nat) (T H : Nat → Nat) (b : Nat) (R : Nat → Nat) (st : Int32) (O S : Nat → Int32) (sz : Nat) (x : Int32) (hI : st_I n a T H b R) (hst : st = 1 ∨ (st = 0 ∧ O = pg_all n a b T H R)) : Met l yX3_owner (wq yX3_owner cX3_owner 2 (some .int)) ({ frames := 6, cells := 0, slots := 0, locals := 141 }) (mu_P (dC, dI) classes [(cI, .int)] (cw ad cI n a T H b R st O S) sz [.ref (ad 0), .int x]) (va_Qi (fun (r : Int32) (u : Int32 × (Nat → Int32) × (Nat → Int32)) => r = owF n a b T H R x ∧ (u.1 = 1 ∨ (u.1 = 0 ∧ u.2.1 = pg_all n a b T H R))) (mu_B (dC, dI) classes [(cI, .int)] (cw ad cI n a T H b R st O S) sz (fun u => cw ad cI n a T H b R u.1 u.2.1 u.2.2)) (va_A (cw ad cI n a T H b R st O S) sz)) 0 0 (va_A (cw ad cI n a T H b R st O S) sz) := by
  obtain ⟨n1, n7, a14, hT, hT2, hb3, hR3, hR⟩ := hI
  have p7 := bi_p7 n7
  have p0 := Nat.two_pow_pos n
  refine Met.ofW (cc := cX3_owner) (maxL := 2) (ret := (some .int)) (by decide) rfl ?_
  intro p e s m args below meth c s₁ B hml hv
  obtain ⟨rfl, hsz, hP, hK, hN, hD0⟩ := hv
  have hx := B.exec
  have hb := B.bytes
  have hr := B.returns
  have hlocks := B.notSynchronized
  have hts := atoms_spec (ws := (wq yX3_owner cX3_owner 2 (some .int))) B.pre
  have hw : ∀ w ∈ bigW, w.before _ s = true := fun w h => hts w (List.mem_cons_of_mem _ h)
  have hown : s.vm.findClass RX3 = some m.cls := findClass_of_methodNamed B.named
  subst hsz
  have hD := hD0.self (sz := s.heap.size)
  generalize hAe : va_A (cw ad cI n a T H b R st O S) s.heap.size = A at hD ⊢
  have hA : ∀ q : Nat, s.heap.size ≤ q → A q := fun q h => by rw [← hAe]; exact Or.inr h
  have hS : va_S A s.heap s.heap [] := va_S.rf
  have hl := lv_entry ([.ref (ad 0), .int x]) (n := 2) (Nat.le_of_ble_eq_true rfl)
  rw [lg_entry_eq]
  generalize (lg_sl ([.ref (ad 0), .int x]) ++ List.replicate (2 - (lg_sl ([.ref (ad 0), .int x])).length) Slot.unset).toArray = ls at hl ⊢
  have hl : lv_has ls 2 [(0, .ref (ad 0)), (1, .int x)] := hl
  refine lv_aload_n hx hb dX3_owner_0 rfl (lv_at hl 0 rfl) ?_
  refine va_get (D := (dC, dI)) (ci := 3) (v := .ref (ad 1)) (C := RX3) (T := TX3) (N := 3) hx hb hw in_X3 hown hK hP 0 rfl rfl 0 (by decide) (hw _ mq_fl_X3_10) (fun _ h9 => h9) rfl dX3_owner_1 ?_
  refine lv_iload_n hx hb dX3_owner_4 rfl (lv_at hl 1 rfl) ?_
  refine ro_V (As := [.int x]) (rest := []) (b := ad 1) ⟨hx, hb, hml, hown, hts⟩ (c_X1_hasArc l dC dI cI ad n a T H b R st O S x) (cwV 1 hts (bw_V mq_ml_X3_53 mq_im_X1_hasArc mq_se_X1_hasArc mq_in_X1 mq_co_X1_hasArc) rfl rfl rfl (by decide +kernel) ⟨Nat.le_of_ble_eq_true rfl, Nat.le_of_ble_eq_true rfl⟩) hP hK hN 1 rfl rfl rfl hl.1 rfl (Nat.le_of_ble_eq_true rfl) dX3_owner_5 ⟨Nat.zero_le _, Nat.zero_le _⟩ (fun r9 h9 => ?_)
  obtain rfl : r9 = nI (ed_b (decide (0 ≤ x ∧ x < nI a))) := h9
  refine lv_if_ne (tgt := 13) hx hb dX3_owner_8 (by decide) (fun b8 => ?_) (fun b8 => ?_)
  -- ifne at 8, t
  · have t8 := decide_eq_true_eq.mp (zb_n0.mp b8)
    obtain ⟨j, hj, rfl⟩ := is_in_of t8 (by omega)
    refine lv_aload_n hx hb dX3_owner_13 rfl (lv_at hl 0 rfl) ?_
    refine va_get (D := (dC, dI)) (ci := 3) (v := .ref (ad 6)) (C := RX3) (T := TX3) (N := 3) hx hb hw in_X3 hown hK hP 0 rfl rfl 2 (by decide) (hw _ mq_fl_X3_26) (fun _ h9 => h9) rfl dX3_owner_14 ?_
    refine lv_aload_n hx hb dX3_owner_17 rfl (lv_at hl 0 rfl) ?_
    refine va_get (D := (dC, dI)) (ci := 3) (v := .ref (ad 1)) (C := RX3) (T := TX3) (N := 3) hx hb hw in_X3 hown hK hP 0 rfl rfl 0 (by decide) (hw _ mq_fl_X3_10) (fun _ h9 => h9) rfl dX3_owner_18 ?_
    refine lv_aload_n hx hb dX3_owner_21 rfl (lv_at hl 0 rfl) ?_
    refine va_get (D := (dC, dI)) (ci := 3) (v := .ref (ad 4)) (C := RX3) (T := TX3) (N := 3) hx hb hw in_X3 hown hK hP 0 rfl rfl 1 (by decide) (hw _ mq_fl_X3_19) (fun _ h9 => h9) rfl dX3_owner_22 ?_
    refine mu_Vv (As := [.ref (ad 1), .ref (ad 4)]) (rest := []) (b := ad 6) ⟨hx, hb, hml, hown, hts⟩ (c_X2_refresh l dC dI cI ad n a T H b R st O S _ n7 a14 hT n1 hT2 hb3 hR hR3 hst) (cwV 2 hts (bw_V mq_ml_X3_85 mq_im_X2_refresh mq_se_X2_refresh mq_in_X2 mq_co_X2_refresh) rfl rfl rfl (by decide +kernel) ⟨Nat.le_of_ble_eq_true rfl, Nat.le_of_ble_eq_true rfl⟩) hP hK hN hD hS hA 6 rfl rfl rfl hl.1 rfl (Nat.le_of_ble_eq_true rfl) dX3_owner_25 ⟨Nat.zero_le _, Nat.zero_le _⟩ (fun u9 Hp locs h9 hP hD hS => ?_)
    obtain ⟨S2, rfl⟩ : ∃ z, z = u9 := ⟨_, rfl⟩
    have hP : va_P (dC, dI) classes (cw ad cI n a T H b R 0 (pg_all n a b T H R) S2) Hp := hP
    have hD : va_D A (cw ad cI n a T H b R 0 (pg_all n a b T H R) S2) := hD
    refine lv_aload_n hx hb dX3_owner_28 rfl (lv_at hl 0 rfl) ?_
    refine va_get (D := (dC, dI)) (ci := 3) (v := .ref (ad 6)) (C := RX3) (T := TX3) (N := 3) hx hb hw in_X3 hown hK hP 0 rfl rfl 2 (by decide) (hw _ mq_fl_X3_26) (fun _ h9 => h9) rfl dX3_owner_29 ?_
    refine va_getN (D := (dC, dI)) (ci := 2) (v := .ref (ad 7)) (C := RX2) (T := TX2) (N := 3) hx hb hw in_X2 hown hK hP 6 rfl rfl 0 (by decide) (nf_X3_89 hN) (fun _ h9 => h9) rfl dX3_owner_32 ?_
    refine lv_iload_n hx hb dX3_owner_35 rfl (lv_at hl 1 rfl) ?_
    refine va_iald hx hb hK hP 7 0 rfl rfl (vp_in_nI (by omega) (by decide)) dX3_owner_36 ?_
    refine lv_topi (fun z9 e9 => ?_)
    obtain rfl : z9 = pg_all n a b T H R j := e9.trans (by rw [nI_clamp (by omega)])
    exact W.iret (v := pg_all n a b T H R j) hx hb hr (fun t ht hW => ⟨⟨_, (0, pg_all n a b T H R, S2), rfl, ⟨(by rw [owF, if_pos t8, nI_clamp (by omega)]), Or.inr ⟨rfl, rfl⟩⟩, by rw [ht]; exact hP, va_K.moved hW.alike hK, by rw [hAe]; exact hD⟩, hS.F ht⟩) hS.2.2 dX3_owner_37
  -- ifne at 8, f
  · have t8 := decide_eq_false_iff_not.mp (zb_0.mp b8)
    refine lv_iconst (v := -1) hx hb dX3_owner_11 (by decide) ?_
    exact W.iret (v := -1) hx hb hr (fun t ht hW => ⟨⟨_, (st, O, S), rfl, ⟨(by rw [owF, if_neg t8]), hst⟩, by rw [ht]; exact hP, va_K.moved hW.alike hK, by rw [hAe]; exact hD⟩, hS.F ht⟩) hS.2.2 dX3_owner_12
set_option maxHeartbeats 4000000 in
set_option maxRecDepth 100000 in
theorem c_X3_way (l : Launch) (dC : Nat → ClassId) (dI : Nat → Nat → Nat) (cI : ClassId) (ad : Nat → Nat) (n a : Nat) (T H : Nat → Nat) (b : Nat) (R : Nat → Nat) (st : Int32) (O S : Nat → Int32) (sz : Nat) (x y : Int32) (hI : st_I n a T H b R) (hst : st = 1 ∨ (st = 0 ∧ O = pg_all n a b T H R)) : Met l yX3_way (wq yX3_way cX3_way 4 (some .int)) ({ frames := 6, cells := 0, slots := 0, locals := 141 }) (mu_P (dC, dI) classes [(cI, .int)] (cw ad cI n a T H b R st O S) sz [.ref (ad 0), .int x, .int y]) (va_Qi (fun (r : Int32) (u : Int32 × (Nat → Int32) × (Nat → Int32)) => r = wyF n a b T H R x y ∧ (u.1 = 1 ∨ (u.1 = 0 ∧ u.2.1 = pg_all n a b T H R))) (mu_B (dC, dI) classes [(cI, .int)] (cw ad cI n a T H b R st O S) sz (fun u => cw ad cI n a T H b R u.1 u.2.1 u.2.2)) (va_A (cw ad cI n a T H b R st O S) sz)) 0 0 (va_A (cw ad cI n a T H b R st O S) sz) := by
  obtain ⟨n1, n7, a14, hT, hT2, hb3, hR3, hR⟩ := hI
  have p7 := bi_p7 n7
  have p0 := Nat.two_pow_pos n
  refine Met.ofW (cc := cX3_way) (maxL := 4) (ret := (some .int)) (by decide) rfl ?_
  intro p e s m args below meth c s₁ B hml hv
  obtain ⟨rfl, hsz, hP, hK, hN, hD0⟩ := hv
  have hx := B.exec
  have hb := B.bytes
  have hr := B.returns
  have hlocks := B.notSynchronized
  have hts := atoms_spec (ws := (wq yX3_way cX3_way 4 (some .int))) B.pre
  have hw : ∀ w ∈ bigW, w.before _ s = true := fun w h => hts w (List.mem_cons_of_mem _ h)
  have hown : s.vm.findClass RX3 = some m.cls := findClass_of_methodNamed B.named
  subst hsz
  have hD := hD0.self (sz := s.heap.size)
  generalize hAe : va_A (cw ad cI n a T H b R st O S) s.heap.size = A at hD ⊢
  have hA : ∀ q : Nat, s.heap.size ≤ q → A q := fun q h => by rw [← hAe]; exact Or.inr h
  have hS : va_S A s.heap s.heap [] := va_S.rf
  have hl := lv_entry ([.ref (ad 0), .int x, .int y]) (n := 4) (Nat.le_of_ble_eq_true rfl)
  rw [lg_entry_eq]
  generalize (lg_sl ([.ref (ad 0), .int x, .int y]) ++ List.replicate (4 - (lg_sl ([.ref (ad 0), .int x, .int y])).length) Slot.unset).toArray = ls at hl ⊢
  have hl : lv_has ls 4 [(0, .ref (ad 0)), (1, .int x), (2, .int y)] := hl
  refine lv_iload_n hx hb dX3_way_0 rfl (lv_at hl 1 rfl) ?_
  refine lv_if_lt (tgt := 26) hx hb dX3_way_1 (by decide) (fun b1 => ?_) (fun b1 => ?_)
  -- iflt at 1, t
  · refine lv_iconst (v := -1) hx hb dX3_way_26 (by decide) ?_
    exact W.iret (v := -1) hx hb hr (fun t ht hW => ⟨⟨_, (st, O, S), rfl, ⟨(by rw [wyF, if_neg (fun h => absurd h.1.1 (i_le_lt.mpr b1))]), hst⟩, by rw [ht]; exact hP, va_K.moved hW.alike hK, by rw [hAe]; exact hD⟩, hS.F ht⟩) hS.2.2 dX3_way_27
  -- iflt at 1, f
  · refine lv_iload_n hx hb dX3_way_4 rfl (lv_at hl 1 rfl) ?_
    refine lv_aload_n hx hb dX3_way_5 rfl (lv_at hl 0 rfl) ?_
    refine va_get (D := (dC, dI)) (ci := 3) (v := .ref (ad 4)) (C := RX3) (T := TX3) (N := 3) hx hb hw in_X3 hown hK hP 0 rfl rfl 1 (by decide) (hw _ mq_fl_X3_19) (fun _ h9 => h9) rfl dX3_way_6 ?_
    refine va_getN (D := (dC, dI)) (ci := 0) (v := .int (nI b)) (C := RX0) (T := TX0) (N := 2) hx hb hw in_X0 hown hK hP 4 rfl rfl 1 (by decide) (nf_X3_34 hN) (fun _ h9 => h9) rfl dX3_way_9 ?_
    refine lv_icmp_ge (tgt := 26) hx hb dX3_way_12 (by decide) (fun b12 => ?_) (fun b12 => ?_)
    -- if_icmpge at 12, t
    · refine lv_iconst (v := -1) hx hb dX3_way_26 (by decide) ?_
      exact W.iret (v := -1) hx hb hr (fun t ht hW => ⟨⟨_, (st, O, S), rfl, ⟨(by rw [wyF, if_neg (fun h => absurd h.1.2 (i_lt_le.mpr b12))]), hst⟩, by rw [ht]; exact hP, va_K.moved hW.alike hK, by rw [hAe]; exact hD⟩, hS.F ht⟩) hS.2.2 dX3_way_27
    -- if_icmpge at 12, f
    · refine lv_aload_n hx hb dX3_way_15 rfl (lv_at hl 0 rfl) ?_
      refine va_get (D := (dC, dI)) (ci := 3) (v := .ref (ad 1)) (C := RX3) (T := TX3) (N := 3) hx hb hw in_X3 hown hK hP 0 rfl rfl 0 (by decide) (hw _ mq_fl_X3_10) (fun _ h9 => h9) rfl dX3_way_16 ?_
      refine lv_iload_n hx hb dX3_way_19 rfl (lv_at hl 2 rfl) ?_
      refine ro_V (As := [.int y]) (rest := []) (b := ad 1) ⟨hx, hb, hml, hown, hts⟩ (c_X1_hasVertex l dC dI cI ad n a T H b R st O S y) (cwV 1 hts (bw_V mq_ml_X3_45 mq_im_X1_hasVertex mq_se_X1_hasVertex mq_in_X1 mq_co_X1_hasVertex) rfl rfl rfl (by decide +kernel) ⟨Nat.le_of_ble_eq_true rfl, Nat.le_of_ble_eq_true rfl⟩) hP hK hN 1 rfl rfl rfl hl.1 rfl (Nat.le_of_ble_eq_true rfl) dX3_way_20 ⟨Nat.zero_le _, Nat.zero_le _⟩ (fun r9 h9 => ?_)
      obtain rfl : r9 = nI (ed_b (decide (0 ≤ y ∧ y < nI n))) := h9
      refine lv_if_ne (tgt := 28) hx hb dX3_way_23 (by decide) (fun b23 => ?_) (fun b23 => ?_)
      -- ifne at 23, t
      · have t23 := decide_eq_true_eq.mp (zb_n0.mp b23)
        refine lv_aload_n hx hb dX3_way_28 rfl (lv_at hl 0 rfl) ?_
        refine va_get (D := (dC, dI)) (ci := 3) (v := .ref (ad 6)) (C := RX3) (T := TX3) (N := 3) hx hb hw in_X3 hown hK hP 0 rfl rfl 2 (by decide) (hw _ mq_fl_X3_26) (fun _ h9 => h9) rfl dX3_way_29 ?_
        refine lv_aload_n hx hb dX3_way_32 rfl (lv_at hl 0 rfl) ?_
        refine va_get (D := (dC, dI)) (ci := 3) (v := .ref (ad 1)) (C := RX3) (T := TX3) (N := 3) hx hb hw in_X3 hown hK hP 0 rfl rfl 0 (by decide) (hw _ mq_fl_X3_10) (fun _ h9 => h9) rfl dX3_way_33 ?_
        refine lv_aload_n hx hb dX3_way_36 rfl (lv_at hl 0 rfl) ?_
        refine va_get (D := (dC, dI)) (ci := 3) (v := .ref (ad 4)) (C := RX3) (T := TX3) (N := 3) hx hb hw in_X3 hown hK hP 0 rfl rfl 1 (by decide) (hw _ mq_fl_X3_19) (fun _ h9 => h9) rfl dX3_way_37 ?_
        refine mu_Vv (As := [.ref (ad 1), .ref (ad 4)]) (rest := []) (b := ad 6) ⟨hx, hb, hml, hown, hts⟩ (c_X2_refresh l dC dI cI ad n a T H b R st O S _ n7 a14 hT n1 hT2 hb3 hR hR3 hst) (cwV 2 hts (bw_V mq_ml_X3_85 mq_im_X2_refresh mq_se_X2_refresh mq_in_X2 mq_co_X2_refresh) rfl rfl rfl (by decide +kernel) ⟨Nat.le_of_ble_eq_true rfl, Nat.le_of_ble_eq_true rfl⟩) hP hK hN hD hS hA 6 rfl rfl rfl hl.1 rfl (Nat.le_of_ble_eq_true rfl) dX3_way_40 ⟨Nat.zero_le _, Nat.zero_le _⟩ (fun u9 Hp locs h9 hP hD hS => ?_)
        obtain ⟨S2, rfl⟩ : ∃ z, z = u9 := ⟨_, rfl⟩
        have hP : va_P (dC, dI) classes (cw ad cI n a T H b R 0 (pg_all n a b T H R) S2) Hp := hP
        have hD : va_D A (cw ad cI n a T H b R 0 (pg_all n a b T H R) S2) := hD
        refine lv_iconst (v := nI 0) hx hb dX3_way_43 (by decide) ?_
        refine lv_istore_n (lv' := [(3, .int (nI 0)), (0, .ref (ad 0)), (1, .int x), (2, .int y)]) hx hb dX3_way_44 rfl hl (by decide) rfl (fun ls hl => ?_)
        refine wl_loop (fun k9 ls => ∃ (i : Nat), a - i = k9 ∧ (i ≤ a) ∧ (∀ j, j < i → (fun e => decide (pg_all n a b T H R e = x) && decide (nI (H e) = y)) j = false) ∧ lv_has ls 4 [(0, .ref (ad 0)), (1, .int x), (2, .int y), (3, .int (nI i))]) ?_ _ ⟨0, rfl, by omega, fun j hj => by omega, lv_sub hl [1, 2, 3, 0] rfl⟩
        clear hl
        intro k9 ls ih9 h9
        obtain ⟨i, k9e, hi, hno, hl⟩ := h9
        have ih_45 := ih9
        clear ih9
        subst k9e
        refine lv_iload_n hx hb dX3_way_45 rfl (lv_at hl 3 rfl) ?_
        refine lv_aload_n hx hb dX3_way_46 rfl (lv_at hl 0 rfl) ?_
        refine va_get (D := (dC, dI)) (ci := 3) (v := .ref (ad 1)) (C := RX3) (T := TX3) (N := 3) hx hb hw in_X3 hown hK hP 0 rfl rfl 0 (by decide) (hw _ mq_fl_X3_10) (fun _ h9 => h9) rfl dX3_way_47 ?_
        refine va_getN (D := (dC, dI)) (ci := 1) (v := .int (nI a)) (C := RX1) (T := TX1) (N := 4) hx hb hw in_X1 hown hK hP 1 rfl rfl 3 (by decide) (nf_X3_42 hN) (fun _ h9 => h9) rfl dX3_way_50 ?_
        refine lv_icmp_ge (tgt := 90) hx hb dX3_way_53 (by decide) (fun b53 => ?_) (fun b53 => ?_)
        -- if_icmpge at 53, t
        · have t53 := (nI_leI (by omega) (by omega)).mp b53
          refine lv_iconst (v := -1) hx hb dX3_way_90 (by decide) ?_
          exact W.iret (v := -1) hx hb hr (fun t ht hW => ⟨⟨_, (0, pg_all n a b T H R, S2), rfl, ⟨(by rw [wyF, if_pos ⟨⟨i_lt_le.mp b1, i_le_lt.mp b12⟩, t23⟩, ed_fd_no (P := (fun e => decide (pg_all n a b T H R e = x) && decide (nI (H e) = y))) (a := a) (fun j hj => hno j (by omega)), if_neg (Nat.lt_irrefl _)]), Or.inr ⟨rfl, rfl⟩⟩, by rw [ht]; exact hP, va_K.moved hW.alike hK, by rw [hAe]; exact hD⟩, hS.F ht⟩) hS.2.2 dX3_way_91
        -- if_icmpge at 53, f
        · have t53 : i < a := Nat.lt_of_not_le (fun z => b53 (nI_le z (by omega)))
          refine lv_aload_n hx hb dX3_way_56 rfl (lv_at hl 0 rfl) ?_
          refine va_get (D := (dC, dI)) (ci := 3) (v := .ref (ad 6)) (C := RX3) (T := TX3) (N := 3) hx hb hw in_X3 hown hK hP 0 rfl rfl 2 (by decide) (hw _ mq_fl_X3_26) (fun _ h9 => h9) rfl dX3_way_57 ?_
          refine va_getN (D := (dC, dI)) (ci := 2) (v := .ref (ad 7)) (C := RX2) (T := TX2) (N := 3) hx hb hw in_X2 hown hK hP 6 rfl rfl 0 (by decide) (nf_X3_89 hN) (fun _ h9 => h9) rfl dX3_way_60 ?_
          refine lv_iload_n hx hb dX3_way_63 rfl (lv_at hl 3 rfl) ?_
          refine va_iald hx hb hK hP 7 0 rfl rfl (vp_in_nI (by omega) (by decide)) dX3_way_64 ?_
          refine lv_topi (fun z9 e9 => ?_)
          obtain rfl : z9 = pg_all n a b T H R i := e9.trans (by rw [nI_clamp (by omega)])
          refine lv_iload_n hx hb dX3_way_65 rfl (lv_at hl 1 rfl) ?_
          refine lv_icmp_ne (tgt := 84) hx hb dX3_way_66 (by decide) (fun b66 => ?_) (fun b66 => ?_)
          -- if_icmpne at 66, t
          · refine lv_iinc (k := 3) (v := nI (i + 1)) (lv' := [(3, .int (nI (i + 1))), (0, .ref (ad 0)), (1, .int x), (2, .int y)]) hx hb dX3_way_84 hl rfl (ii_1 _) (by decide) rfl (fun ls hl => ?_)
            refine lv_goto (tgt := 45) hx hb dX3_way_87 (by decide) ?_
            have hno2 : ∀ j, j < i + 1 → (fun e => decide (pg_all n a b T H R e = x) && decide (nI (H e) = y)) j = false := by
              intro j hj
              rcases Nat.lt_or_ge j i with y3 | y3
              · exact hno j y3
              · have y4 : j = i := by omega
                rw [y4]
                show (decide _ && decide _) = false
                rw [decide_eq_false b66, Bool.false_and]
            exact ih_45 _ _ (by omega) ⟨i + 1, rfl, by omega, hno2, lv_sub hl [1, 2, 3, 0] rfl⟩
          -- if_icmpne at 66, f
          · refine lv_aload_n hx hb dX3_way_69 rfl (lv_at hl 0 rfl) ?_
            refine va_get (D := (dC, dI)) (ci := 3) (v := .ref (ad 1)) (C := RX3) (T := TX3) (N := 3) hx hb hw in_X3 hown hK hP 0 rfl rfl 0 (by decide) (hw _ mq_fl_X3_10) (fun _ h9 => h9) rfl dX3_way_70 ?_
            refine va_getN (D := (dC, dI)) (ci := 1) (v := .ref (ad 3)) (C := RX1) (T := TX1) (N := 4) hx hb hw in_X1 hown hK hP 1 rfl rfl 1 (by decide) (nf_X3_72 hN) (fun _ h9 => h9) rfl dX3_way_73 ?_
            refine lv_iload_n hx hb dX3_way_76 rfl (lv_at hl 3 rfl) ?_
            refine va_iald hx hb hK hP 3 0 rfl rfl (vp_in_nI (by omega) (by decide)) dX3_way_77 ?_
            refine lv_topi (fun z9 e9 => ?_)
            obtain rfl : z9 = nI (H i) := e9.trans (ar_at H (by omega))
            refine lv_iload_n hx hb dX3_way_78 rfl (lv_at hl 2 rfl) ?_
            refine lv_icmp_ne (tgt := 84) hx hb dX3_way_79 (by decide) (fun b79 => ?_) (fun b79 => ?_)
            -- if_icmpne at 79, t
            · refine lv_iinc (k := 3) (v := nI (i + 1)) (lv' := [(3, .int (nI (i + 1))), (0, .ref (ad 0)), (1, .int x), (2, .int y)]) hx hb dX3_way_84 hl rfl (ii_1 _) (by decide) rfl (fun ls hl => ?_)
              refine lv_goto (tgt := 45) hx hb dX3_way_87 (by decide) ?_
              have hno2 : ∀ j, j < i + 1 → (fun e => decide (pg_all n a b T H R e = x) && decide (nI (H e) = y)) j = false := by
                intro j hj
                rcases Nat.lt_or_ge j i with y3 | y3
                · exact hno j y3
                · have y4 : j = i := by omega
                  rw [y4]
                  show (decide _ && decide _) = false
                  rw [decide_eq_false b79, Bool.and_false]
              exact ih_45 _ _ (by omega) ⟨i + 1, rfl, by omega, hno2, lv_sub hl [1, 2, 3, 0] rfl⟩
            -- if_icmpne at 79, f
            · refine lv_iload_n hx hb dX3_way_82 rfl (lv_at hl 3 rfl) ?_
              exact W.iret (v := nI i) hx hb hr (fun t ht hW => ⟨⟨_, (0, pg_all n a b T H R, S2), rfl, ⟨(by rw [wyF, if_pos ⟨⟨i_lt_le.mp b1, i_le_lt.mp b12⟩, t23⟩, ed_fd_eq (P := (fun e => decide (pg_all n a b T H R e = x) && decide (nI (H e) = y))) (e := i) t53 (by show (decide _ && decide _) = true; rw [decide_eq_true b66, decide_eq_true b79]; rfl) hno, if_pos t53]), Or.inr ⟨rfl, rfl⟩⟩, by rw [ht]; exact hP, va_K.moved hW.alike hK, by rw [hAe]; exact hD⟩, hS.F ht⟩) hS.2.2 dX3_way_83
      -- ifne at 23, f
      · have t23 := decide_eq_false_iff_not.mp (zb_0.mp b23)
        refine lv_iconst (v := -1) hx hb dX3_way_26 (by decide) ?_
        exact W.iret (v := -1) hx hb hr (fun t ht hW => ⟨⟨_, (st, O, S), rfl, ⟨(by rw [wyF, if_neg (fun h => t23 h.2)]), hst⟩, by rw [ht]; exact hP, va_K.moved hW.alike hK, by rw [hAe]; exact hD⟩, hS.F ht⟩) hS.2.2 dX3_way_27

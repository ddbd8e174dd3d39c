/-! the law, case by case -/
abbrev lcA (s : State) : Nat → Prop := fun q => s.heap.size ≤ q
def lc_C (p : Program) (s : State) (m : MethodId) (c : Code) (sb L : Nat) (xs : Nat → Int32) : Prop := p.tables.exec = Jvm.exec ∧ c.code = code ∧ c.maxLocals = 4 ∧ s.vm.findClass RL = some m.cls ∧ (∀ w ∈ (Cond.initialized RL :: bigW), w.before #[Value.ref sb] s = true) ∧ va_X sb L xs s s.heap ∧ sb < s.heap.size ∧ nx_ok s
def lc_I (dC : Nat → ClassId) (dI : Nat → Nat → Nat) (s : State) (sb i : Nat) (Hp : Heap) (locs : List Loc) (ls : Array Slot) : Prop := ∃ (adx adm : Nat → Nat) (cI : ClassId) (n a : Nat) (T H : Nat → Nat) (b : Nat) (R : Nat → Nat) (st : Int32) (O S Oq Wy tr hd us nx : Nat → Int32), st_I n a T H b R ∧ (st = 1 ∨ (st = 0 ∧ O = pg_all n a b T H R)) ∧ lv_has ls 4 [(0, .ref sb), (1, .ref (adx 0)), (2, .ref (adm 0)), (3, .int (nI i))] ∧ va_P (dC, dI) classes (cw adx cI n a T H b R st O S ++ mw adm cI n a b T H R Oq Wy tr hd us nx) Hp ∧ va_D (lcA s) (cw adx cI n a T H b R st O S ++ mw adm cI n a b T H R Oq Wy tr hd us nx) ∧ va_K (dC, dI) classes [(cI, .int)] s ∧ va_S (lcA s) s.heap Hp locs
theorem lc_gt {L i : Nat} (hL : L ≤ 1536) (hi : i ≤ 1539) : (nI L - nI 3 < nI i) ↔ L < i + 3 := by
  rw [Int32.lt_iff_toInt_lt, pk_sub_toInt (by omega) (by omega), nI_toInt (by omega)]
  omega
theorem lc_nx {s : State} {A : Array Value} (h : ∀ w ∈ lw_tbl, w.before A s = true) : nx_ok s := by
  refine ⟨fun q hq => va_Nw.of rfl (h _ (List.mem_append_right _ ((by decide +kernel : ∀ q ∈ nx_F, Cond.fieldLinkNest q.1 q.2.1 q.2.2.1 q.2.2.2.1 q.2.2.2.2.1 q.2.2.2.2.2 ∈ tables_1) q hq))), fun q hq => va_Nw.of rfl (h _ (List.mem_append_right _ ((by decide +kernel : ∀ q ∈ nx_M, Cond.methodLinkNest q.1 q.2.1 q.2.2.1 q.2.2.2 ∈ tables_1) q hq)))⟩
set_option maxHeartbeats 4000000 in
set_option maxRecDepth 100000 in
/-- begin -/
theorem law_0 {p : Program} {l : Launch} {e : Env} {s : State} {m : MethodId} {below : List Frame} {meth : Method} {c : Code} {sb L i cells slots : Nat} {xs : Nat → Int32} {dC : Nat → ClassId} {dI : Nat → Nat → Nat} {Q : State → Prop} {Hp : Heap} {locs : List Loc} {ls : Array Slot} (C : lc_C p s m c sb L xs) (hi : i + 3 ≤ L) (hL : L ≤ 1536) (hf : cells ≤ room_1.cells ∧ slots ≤ room_1.slots) (h : lc_I dC dI s sb i Hp locs ls) (kk : ∀ (Hp : Heap) (locs : List Loc) (ls : Array Slot), lc_I dC dI s sb i Hp locs ls → W p l e room_1 s m #[Value.ref sb] below meth c Hp locs cells slots Q (F0 m 453 ls [])) : W p l e room_1 s m #[Value.ref sb] below meth c Hp locs cells slots Q (F0 m 108 ls []) := by
  obtain ⟨hx, hb, hml, hown, hts, hX, hbl, hN⟩ := C
  obtain ⟨adx, adm, cI, n, a, T, H, b, R, st, O, S, Oq, Wy, tr, hd, us, nx, hI, hst, hl, hP, hD, hK, hS⟩ := h
  have hI0 := hI
  obtain ⟨n1, n7, a14, hT, hT2, hb3, hR3, hR⟩ := hI
  have hA : ∀ q : Nat, s.heap.size ≤ q → lcA s q := fun q h => h
  have hbA : ¬ lcA s sb := by show ¬ s.heap.size ≤ sb; omega
  refine lv_aload_n hx hb dL_law_108 rfl (lv_at hl 1 rfl) ?_
  refine lv_aload_n hx hb dL_law_109 rfl (lv_at hl 0 rfl) ?_
  refine lv_iload_n hx hb dL_law_110 rfl (lv_at hl 3 rfl) ?_
  refine lv_iconst (v := nI 1) hx hb dL_law_111 (by decide) ?_
  refine lv_iadd hx hb dL_law_112 ?_
  refine lv_topi (fun z9 e9 => ?_)
  obtain rfl : z9 = nI (i + 1) := e9.trans (nI_add i 1)
  refine va_sld hx hb hX hbl hbA hS (vp_in_nI (by omega) (by omega)) dL_law_113 ?_
  refine lv_topi (fun z9 e9 => ?_)
  obtain rfl : z9 = xs (i + 1) := e9.trans (by rw [nI_clamp (by omega)])
  refine lx_mu (As := [.int (xs (i + 1))]) (rest := []) (b := adx 0) ⟨hx, hb, hml, hown, hts⟩ (c_X3_begin l dC dI cI adx n a T H b R st O S _ (xs (i + 1)) hI0 hst) (cwV 1 hts (bw_V mq_ml_L_13 mq_im_X3_begin mq_se_X3_begin mq_in_X3 mq_co_X3_begin) rfl rfl rfl (by decide +kernel) ⟨Nat.le_of_ble_eq_true rfl, Nat.le_of_ble_eq_true rfl⟩) hP hK hN hD hS hA 0 rfl rfl rfl hl.1 rfl (Nat.le_of_ble_eq_true rfl) dL_law_114 hf (fun r9 u9 Hp locs h9 hP hD hS => ?_)
  obtain ⟨h9, hst⟩ := h9
  obtain ⟨st9, rfl⟩ : ∃ z, z = u9 := ⟨_, rfl⟩
  have hP : va_P (dC, dI) classes (cw adx cI ((bgF (xs (i + 1)) n a b).2.1) ((bgF (xs (i + 1)) n a b).2.2.1) T H ((bgF (xs (i + 1)) n a b).2.2.2) R st9 O S ++ mw adm cI n a b T H R Oq Wy tr hd us nx) Hp := hP
  have hD : va_D (lcA s) (cw adx cI ((bgF (xs (i + 1)) n a b).2.1) ((bgF (xs (i + 1)) n a b).2.2.1) T H ((bgF (xs (i + 1)) n a b).2.2.2) R st9 O S ++ mw adm cI n a b T H R Oq Wy tr hd us nx) := hD
  subst h9
  refine lv_aload_n hx hb dL_law_117 rfl (lv_at hl 2 rfl) ?_
  refine lv_aload_n hx hb dL_law_118 rfl (lv_at hl 0 rfl) ?_
  refine lv_iload_n hx hb dL_law_119 rfl (lv_at hl 3 rfl) ?_
  refine lv_iconst (v := nI 1) hx hb dL_law_120 (by decide) ?_
  refine lv_iadd hx hb dL_law_121 ?_
  refine lv_topi (fun z9 e9 => ?_)
  obtain rfl : z9 = nI (i + 1) := e9.trans (nI_add i 1)
  refine va_sld hx hb hX hbl hbA hS (vp_in_nI (by omega) (by omega)) dL_law_122 ?_
  refine lv_topi (fun z9 e9 => ?_)
  obtain rfl : z9 = xs (i + 1) := e9.trans (by rw [nI_clamp (by omega)])
  refine lm_mu (As := [.int (xs (i + 1))]) (rest := [.int (bgF (xs (i + 1)) n a b).1]) (b := adm 0) ⟨hx, hb, hml, hown, hts⟩ (c_X4_begin l dC dI cI adm n a b T H R Oq Wy tr hd us nx _ (xs (i + 1)) ) (cwV 1 hts (bw_V mq_ml_L_17 mq_im_X4_begin mq_se_X4_begin mq_in_X4 mq_co_X4_begin) rfl rfl rfl (by decide +kernel) ⟨Nat.le_of_ble_eq_true rfl, Nat.le_of_ble_eq_true rfl⟩) hP hK hN hD hS hA 0 rfl rfl rfl hl.1 rfl (Nat.le_of_ble_eq_true rfl) dL_law_123 hf (fun r9 u9 Hp locs h9 hP hD hS => ?_)
  have hP : va_P (dC, dI) classes (cw adx cI ((bgF (xs (i + 1)) n a b).2.1) ((bgF (xs (i + 1)) n a b).2.2.1) T H ((bgF (xs (i + 1)) n a b).2.2.2) R st9 O S ++ mw adm cI ((bgF (xs (i + 1)) n a b).2.1) ((bgF (xs (i + 1)) n a b).2.2.1) ((bgF (xs (i + 1)) n a b).2.2.2) T H R Oq Wy tr hd us nx) Hp := hP
  have hD : va_D (lcA s) (cw adx cI ((bgF (xs (i + 1)) n a b).2.1) ((bgF (xs (i + 1)) n a b).2.2.1) T H ((bgF (xs (i + 1)) n a b).2.2.2) R st9 O S ++ mw adm cI ((bgF (xs (i + 1)) n a b).2.1) ((bgF (xs (i + 1)) n a b).2.2.1) ((bgF (xs (i + 1)) n a b).2.2.2) T H R Oq Wy tr hd us nx) := hD
  subst h9
  refine lv_icmp_eq (tgt := 453) hx hb dL_law_126 (by decide) (fun _ => ?_) (fun b9 => absurd rfl b9)
  exact kk _ _ _ ⟨adx, adm, cI, (bgF (xs (i + 1)) n a b).2.1, (bgF (xs (i + 1)) n a b).2.2.1, T, H, (bgF (xs (i + 1)) n a b).2.2.2, R, st9, O, S, Oq, Wy, tr, hd, us, nx, (st_bg hI0), hst, hl, hP, hD, hK, hS⟩
set_option maxHeartbeats 4000000 in
set_option maxRecDepth 100000 in
/-- arc -/
theorem law_1 {p : Program} {l : Launch} {e : Env} {s : State} {m : MethodId} {below : List Frame} {meth : Method} {c : Code} {sb L i cells slots : Nat} {xs : Nat → Int32} {dC : Nat → ClassId} {dI : Nat → Nat → Nat} {Q : State → Prop} {Hp : Heap} {locs : List Loc} {ls : Array Slot} (C : lc_C p s m c sb L xs) (hi : i + 3 ≤ L) (hL : L ≤ 1536) (hf : cells ≤ room_1.cells ∧ slots ≤ room_1.slots) (h : lc_I dC dI s sb i Hp locs ls) (kk : ∀ (Hp : Heap) (locs : List Loc) (ls : Array Slot), lc_I dC dI s sb i Hp locs ls → W p l e room_1 s m #[Value.ref sb] below meth c Hp locs cells slots Q (F0 m 453 ls [])) : W p l e room_1 s m #[Value.ref sb] below meth c Hp locs cells slots Q (F0 m 131 ls []) := by
  obtain ⟨hx, hb, hml, hown, hts, hX, hbl, hN⟩ := C
  obtain ⟨adx, adm, cI, n, a, T, H, b, R, st, O, S, Oq, Wy, tr, hd, us, nx, hI, hst, hl, hP, hD, hK, hS⟩ := h
  have hI0 := hI
  obtain ⟨n1, n7, a14, hT, hT2, hb3, hR3, hR⟩ := hI
  have hA : ∀ q : Nat, s.heap.size ≤ q → lcA s q := fun q h => h
  have hbA : ¬ lcA s sb := by show ¬ s.heap.size ≤ sb; omega
  refine lv_aload_n hx hb dL_law_131 rfl (lv_at hl 1 rfl) ?_
  refine lv_aload_n hx hb dL_law_132 rfl (lv_at hl 0 rfl) ?_
  refine lv_iload_n hx hb dL_law_133 rfl (lv_at hl 3 rfl) ?_
  refine lv_iconst (v := nI 1) hx hb dL_law_134 (by decide) ?_
  refine lv_iadd hx hb dL_law_135 ?_
  refine lv_topi (fun z9 e9 => ?_)
  obtain rfl : z9 = nI (i + 1) := e9.trans (nI_add i 1)
  refine va_sld hx hb hX hbl hbA hS (vp_in_nI (by omega) (by omega)) dL_law_136 ?_
  refine lv_topi (fun z9 e9 => ?_)
  obtain rfl : z9 = xs (i + 1) := e9.trans (by rw [nI_clamp (by omega)])
  refine lv_aload_n hx hb dL_law_137 rfl (lv_at hl 0 rfl) ?_
  refine lv_iload_n hx hb dL_law_138 rfl (lv_at hl 3 rfl) ?_
  refine lv_iconst (v := nI 2) hx hb dL_law_139 (by decide) ?_
  refine lv_iadd hx hb dL_law_140 ?_
  refine lv_topi (fun z9 e9 => ?_)
  obtain rfl : z9 = nI (i + 2) := e9.trans (nI_add i 2)
  refine va_sld hx hb hX hbl hbA hS (vp_in_nI (by omega) (by omega)) dL_law_141 ?_
  refine lv_topi (fun z9 e9 => ?_)
  obtain rfl : z9 = xs (i + 2) := e9.trans (by rw [nI_clamp (by omega)])
  refine lx_mu (As := [.int (xs (i + 1)), .int (xs (i + 2))]) (rest := []) (b := adx 0) ⟨hx, hb, hml, hown, hts⟩ (c_X3_arc l dC dI cI adx n a T H b R st O S _ (xs (i + 1)) (xs (i + 2)) hI0 hst) (cwV 2 hts (bw_V mq_ml_L_18 mq_im_X3_arc mq_se_X3_arc mq_in_X3 mq_co_X3_arc) rfl rfl rfl (by decide +kernel) ⟨Nat.le_of_ble_eq_true rfl, Nat.le_of_ble_eq_true rfl⟩) hP hK hN hD hS hA 0 rfl rfl rfl hl.1 rfl (Nat.le_of_ble_eq_true rfl) dL_law_142 hf (fun r9 u9 Hp locs h9 hP hD hS => ?_)
  obtain ⟨h9, hst⟩ := h9
  obtain ⟨st9, rfl⟩ : ∃ z, z = u9 := ⟨_, rfl⟩
  have hP : va_P (dC, dI) classes (cw adx cI n ((arF n a T H (xs (i + 1)) (xs (i + 2))).2.1) ((arF n a T H (xs (i + 1)) (xs (i + 2))).2.2.1) ((arF n a T H (xs (i + 1)) (xs (i + 2))).2.2.2) b R st9 O S ++ mw adm cI n a b T H R Oq Wy tr hd us nx) Hp := hP
  have hD : va_D (lcA s) (cw adx cI n ((arF n a T H (xs (i + 1)) (xs (i + 2))).2.1) ((arF n a T H (xs (i + 1)) (xs (i + 2))).2.2.1) ((arF n a T H (xs (i + 1)) (xs (i + 2))).2.2.2) b R st9 O S ++ mw adm cI n a b T H R Oq Wy tr hd us nx) := hD
  subst h9
  refine lv_aload_n hx hb dL_law_145 rfl (lv_at hl 2 rfl) ?_
  refine lv_aload_n hx hb dL_law_146 rfl (lv_at hl 0 rfl) ?_
  refine lv_iload_n hx hb dL_law_147 rfl (lv_at hl 3 rfl) ?_
  refine lv_iconst (v := nI 1) hx hb dL_law_148 (by decide) ?_
  refine lv_iadd hx hb dL_law_149 ?_
  refine lv_topi (fun z9 e9 => ?_)
  obtain rfl : z9 = nI (i + 1) := e9.trans (nI_add i 1)
  refine va_sld hx hb hX hbl hbA hS (vp_in_nI (by omega) (by omega)) dL_law_150 ?_
  refine lv_topi (fun z9 e9 => ?_)
  obtain rfl : z9 = xs (i + 1) := e9.trans (by rw [nI_clamp (by omega)])
  refine lv_aload_n hx hb dL_law_151 rfl (lv_at hl 0 rfl) ?_
  refine lv_iload_n hx hb dL_law_152 rfl (lv_at hl 3 rfl) ?_
  refine lv_iconst (v := nI 2) hx hb dL_law_153 (by decide) ?_
  refine lv_iadd hx hb dL_law_154 ?_
  refine lv_topi (fun z9 e9 => ?_)
  obtain rfl : z9 = nI (i + 2) := e9.trans (nI_add i 2)
  refine va_sld hx hb hX hbl hbA hS (vp_in_nI (by omega) (by omega)) dL_law_155 ?_
  refine lv_topi (fun z9 e9 => ?_)
  obtain rfl : z9 = xs (i + 2) := e9.trans (by rw [nI_clamp (by omega)])
  refine lm_mu (As := [.int (xs (i + 1)), .int (xs (i + 2))]) (rest := [.int (arF n a T H (xs (i + 1)) (xs (i + 2))).1]) (b := adm 0) ⟨hx, hb, hml, hown, hts⟩ (c_X4_arc l dC dI cI adm n a b T H R Oq Wy tr hd us nx _ (xs (i + 1)) (xs (i + 2)) n7 a14) (cwV 2 hts (bw_V mq_ml_L_22 mq_im_X4_arc mq_se_X4_arc mq_in_X4 mq_co_X4_arc) rfl rfl rfl (by decide +kernel) ⟨Nat.le_of_ble_eq_true rfl, Nat.le_of_ble_eq_true rfl⟩) hP hK hN hD hS hA 0 rfl rfl rfl hl.1 rfl (Nat.le_of_ble_eq_true rfl) dL_law_156 hf (fun r9 u9 Hp locs h9 hP hD hS => ?_)
  have hP : va_P (dC, dI) classes (cw adx cI n ((arF n a T H (xs (i + 1)) (xs (i + 2))).2.1) ((arF n a T H (xs (i + 1)) (xs (i + 2))).2.2.1) ((arF n a T H (xs (i + 1)) (xs (i + 2))).2.2.2) b R st9 O S ++ mw adm cI n ((arF n a T H (xs (i + 1)) (xs (i + 2))).2.1) b ((arF n a T H (xs (i + 1)) (xs (i + 2))).2.2.1) ((arF n a T H (xs (i + 1)) (xs (i + 2))).2.2.2) R Oq Wy tr hd us nx) Hp := hP
  have hD : va_D (lcA s) (cw adx cI n ((arF n a T H (xs (i + 1)) (xs (i + 2))).2.1) ((arF n a T H (xs (i + 1)) (xs (i + 2))).2.2.1) ((arF n a T H (xs (i + 1)) (xs (i + 2))).2.2.2) b R st9 O S ++ mw adm cI n ((arF n a T H (xs (i + 1)) (xs (i + 2))).2.1) b ((arF n a T H (xs (i + 1)) (xs (i + 2))).2.2.1) ((arF n a T H (xs (i + 1)) (xs (i + 2))).2.2.2) R Oq Wy tr hd us nx) := hD
  subst h9
  refine lv_icmp_eq (tgt := 453) hx hb dL_law_159 (by decide) (fun _ => ?_) (fun b9 => absurd rfl b9)
  exact kk _ _ _ ⟨adx, adm, cI, n, (arF n a T H (xs (i + 1)) (xs (i + 2))).2.1, (arF n a T H (xs (i + 1)) (xs (i + 2))).2.2.1, (arF n a T H (xs (i + 1)) (xs (i + 2))).2.2.2, b, R, st9, O, S, Oq, Wy, tr, hd, us, nx, (st_ar hI0), hst, hl, hP, hD, hK, hS⟩
set_option maxHeartbeats 4000000 in
set_option maxRecDepth 100000 in
/-- drop -/
theorem law_2 {p : Program} {l : Launch} {e : Env} {s : State} {m : MethodId} {below : List Frame} {meth : Method} {c : Code} {sb L i cells slots : Nat} {xs : Nat → Int32} {dC : Nat → ClassId} {dI : Nat → Nat → Nat} {Q : State → Prop} {Hp : Heap} {locs : List Loc} {ls : Array Slot} (C : lc_C p s m c sb L xs) (hi : i + 3 ≤ L) (hL : L ≤ 1536) (hf : cells ≤ room_1.cells ∧ slots ≤ room_1.slots) (h : lc_I dC dI s sb i Hp locs ls) (kk : ∀ (Hp : Heap) (locs : List Loc) (ls : Array Slot), lc_I dC dI s sb i Hp locs ls → W p l e room_1 s m #[Value.ref sb] below meth c Hp locs cells slots Q (F0 m 453 ls [])) : W p l e room_1 s m #[Value.ref sb] below meth c Hp locs cells slots Q (F0 m 164 ls []) := by
  obtain ⟨hx, hb, hml, hown, hts, hX, hbl, hN⟩ := C
  obtain ⟨adx, adm, cI, n, a, T, H, b, R, st, O, S, Oq, Wy, tr, hd, us, nx, hI, hst, hl, hP, hD, hK, hS⟩ := h
  have hI0 := hI
  obtain ⟨n1, n7, a14, hT, hT2, hb3, hR3, hR⟩ := hI
  have hA : ∀ q : Nat, s.heap.size ≤ q → lcA s q := fun q h => h
  have hbA : ¬ lcA s sb := by show ¬ s.heap.size ≤ sb; omega
  refine lv_aload_n hx hb dL_law_164 rfl (lv_at hl 1 rfl) ?_
  refine lv_aload_n hx hb dL_law_165 rfl (lv_at hl 0 rfl) ?_
  refine lv_iload_n hx hb dL_law_166 rfl (lv_at hl 3 rfl) ?_
  refine lv_iconst (v := nI 1) hx hb dL_law_167 (by decide) ?_
  refine lv_iadd hx hb dL_law_168 ?_
  refine lv_topi (fun z9 e9 => ?_)
  obtain rfl : z9 = nI (i + 1) := e9.trans (nI_add i 1)
  refine va_sld hx hb hX hbl hbA hS (vp_in_nI (by omega) (by omega)) dL_law_169 ?_
  refine lv_topi (fun z9 e9 => ?_)
  obtain rfl : z9 = xs (i + 1) := e9.trans (by rw [nI_clamp (by omega)])
  refine lx_mu (As := [.int (xs (i + 1))]) (rest := []) (b := adx 0) ⟨hx, hb, hml, hown, hts⟩ (c_X3_drop l dC dI cI adx n a T H b R st O S _ (xs (i + 1)) hI0 hst) (cwV 1 hts (bw_V mq_ml_L_23 mq_im_X3_drop mq_se_X3_drop mq_in_X3 mq_co_X3_drop) rfl rfl rfl (by decide +kernel) ⟨Nat.le_of_ble_eq_true rfl, Nat.le_of_ble_eq_true rfl⟩) hP hK hN hD hS hA 0 rfl rfl rfl hl.1 rfl (Nat.le_of_ble_eq_true rfl) dL_law_170 hf (fun r9 u9 Hp locs h9 hP hD hS => ?_)
  obtain ⟨h9, hst⟩ := h9
  obtain ⟨st9, rfl⟩ : ∃ z, z = u9 := ⟨_, rfl⟩
  have hP : va_P (dC, dI) classes (cw adx cI n ((drF a T H (xs (i + 1))).2.1) ((drF a T H (xs (i + 1))).2.2.1) ((drF a T H (xs (i + 1))).2.2.2) b R st9 O S ++ mw adm cI n a b T H R Oq Wy tr hd us nx) Hp := hP
  have hD : va_D (lcA s) (cw adx cI n ((drF a T H (xs (i + 1))).2.1) ((drF a T H (xs (i + 1))).2.2.1) ((drF a T H (xs (i + 1))).2.2.2) b R st9 O S ++ mw adm cI n a b T H R Oq Wy tr hd us nx) := hD
  subst h9
  refine lv_aload_n hx hb dL_law_173 rfl (lv_at hl 2 rfl) ?_
  refine lv_aload_n hx hb dL_law_174 rfl (lv_at hl 0 rfl) ?_
  refine lv_iload_n hx hb dL_law_175 rfl (lv_at hl 3 rfl) ?_
  refine lv_iconst (v := nI 1) hx hb dL_law_176 (by decide) ?_
  refine lv_iadd hx hb dL_law_177 ?_
  refine lv_topi (fun z9 e9 => ?_)
  obtain rfl : z9 = nI (i + 1) := e9.trans (nI_add i 1)
  refine va_sld hx hb hX hbl hbA hS (vp_in_nI (by omega) (by omega)) dL_law_178 ?_
  refine lv_topi (fun z9 e9 => ?_)
  obtain rfl : z9 = xs (i + 1) := e9.trans (by rw [nI_clamp (by omega)])
  refine lm_mu (As := [.int (xs (i + 1))]) (rest := [.int (drF a T H (xs (i + 1))).1]) (b := adm 0) ⟨hx, hb, hml, hown, hts⟩ (c_X4_drop l dC dI cI adm n a b T H R Oq Wy tr hd us nx _ (xs (i + 1)) a14) (cwV 1 hts (bw_V mq_ml_L_26 mq_im_X4_drop mq_se_X4_drop mq_in_X4 mq_co_X4_drop) rfl rfl rfl (by decide +kernel) ⟨Nat.le_of_ble_eq_true rfl, Nat.le_of_ble_eq_true rfl⟩) hP hK hN hD hS hA 0 rfl rfl rfl hl.1 rfl (Nat.le_of_ble_eq_true rfl) dL_law_179 hf (fun r9 u9 Hp locs h9 hP hD hS => ?_)
  have hP : va_P (dC, dI) classes (cw adx cI n ((drF a T H (xs (i + 1))).2.1) ((drF a T H (xs (i + 1))).2.2.1) ((drF a T H (xs (i + 1))).2.2.2) b R st9 O S ++ mw adm cI n ((drF a T H (xs (i + 1))).2.1) b ((drF a T H (xs (i + 1))).2.2.1) ((drF a T H (xs (i + 1))).2.2.2) R Oq Wy tr hd us nx) Hp := hP
  have hD : va_D (lcA s) (cw adx cI n ((drF a T H (xs (i + 1))).2.1) ((drF a T H (xs (i + 1))).2.2.1) ((drF a T H (xs (i + 1))).2.2.2) b R st9 O S ++ mw adm cI n ((drF a T H (xs (i + 1))).2.1) b ((drF a T H (xs (i + 1))).2.2.1) ((drF a T H (xs (i + 1))).2.2.2) R Oq Wy tr hd us nx) := hD
  subst h9
  refine lv_icmp_eq (tgt := 453) hx hb dL_law_182 (by decide) (fun _ => ?_) (fun b9 => absurd rfl b9)
  exact kk _ _ _ ⟨adx, adm, cI, n, (drF a T H (xs (i + 1))).2.1, (drF a T H (xs (i + 1))).2.2.1, (drF a T H (xs (i + 1))).2.2.2, b, R, st9, O, S, Oq, Wy, tr, hd, us, nx, (st_dr hI0), hst, hl, hP, hD, hK, hS⟩
set_option maxHeartbeats 4000000 in
set_option maxRecDepth 100000 in
/-- plant -/
theorem law_3 {p : Program} {l : Launch} {e : Env} {s : State} {m : MethodId} {below : List Frame} {meth : Method} {c : Code} {sb L i cells slots : Nat} {xs : Nat → Int32} {dC : Nat → ClassId} {dI : Nat → Nat → Nat} {Q : State → Prop} {Hp : Heap} {locs : List Loc} {ls : Array Slot} (C : lc_C p s m c sb L xs) (hi : i + 3 ≤ L) (hL : L ≤ 1536) (hf : cells ≤ room_1.cells ∧ slots ≤ room_1.slots) (h : lc_I dC dI s sb i Hp locs ls) (kk : ∀ (Hp : Heap) (locs : List Loc) (ls : Array Slot), lc_I dC dI s sb i Hp locs ls → W p l e room_1 s m #[Value.ref sb] below meth c Hp locs cells slots Q (F0 m 453 ls [])) : W p l e room_1 s m #[Value.ref sb] below meth c Hp locs cells slots Q (F0 m 187 ls []) := by
  obtain ⟨hx, hb, hml, hown, hts, hX, hbl, hN⟩ := C
  obtain ⟨adx, adm, cI, n, a, T, H, b, R, st, O, S, Oq, Wy, tr, hd, us, nx, hI, hst, hl, hP, hD, hK, hS⟩ := h
  have hI0 := hI
  obtain ⟨n1, n7, a14, hT, hT2, hb3, hR3, hR⟩ := hI
  have hA : ∀ q : Nat, s.heap.size ≤ q → lcA s q := fun q h => h
  have hbA : ¬ lcA s sb := by show ¬ s.heap.size ≤ sb; omega
  refine lv_aload_n hx hb dL_law_187 rfl (lv_at hl 1 rfl) ?_
  refine lv_aload_n hx hb dL_law_188 rfl (lv_at hl 0 rfl) ?_
  refine lv_iload_n hx hb dL_law_189 rfl (lv_at hl 3 rfl) ?_
  refine lv_iconst (v := nI 1) hx hb dL_law_190 (by decide) ?_
  refine lv_iadd hx hb dL_law_191 ?_
  refine lv_topi (fun z9 e9 => ?_)
  obtain rfl : z9 = nI (i + 1) := e9.trans (nI_add i 1)
  refine va_sld hx hb hX hbl hbA hS (vp_in_nI (by omega) (by omega)) dL_law_192 ?_
  refine lv_topi (fun z9 e9 => ?_)
  obtain rfl : z9 = xs (i + 1) := e9.trans (by rw [nI_clamp (by omega)])
  refine lx_mu (As := [.int (xs (i + 1))]) (rest := []) (b := adx 0) ⟨hx, hb, hml, hown, hts⟩ (c_X3_plant l dC dI cI adx n a T H b R st O S _ (xs (i + 1)) hI0 hst) (cwV 1 hts (bw_V mq_ml_L_27 mq_im_X3_plant mq_se_X3_plant mq_in_X3 mq_co_X3_plant) rfl rfl rfl (by decide +kernel) ⟨Nat.le_of_ble_eq_true rfl, Nat.le_of_ble_eq_true rfl⟩) hP hK hN hD hS hA 0 rfl rfl rfl hl.1 rfl (Nat.le_of_ble_eq_true rfl) dL_law_193 hf (fun r9 u9 Hp locs h9 hP hD hS => ?_)
  obtain ⟨h9, hst⟩ := h9
  obtain ⟨st9, rfl⟩ : ∃ z, z = u9 := ⟨_, rfl⟩
  have hP : va_P (dC, dI) classes (cw adx cI n a T H ((plF n b R (xs (i + 1))).2.1) ((plF n b R (xs (i + 1))).2.2) st9 O S ++ mw adm cI n a b T H R Oq Wy tr hd us nx) Hp := hP
  have hD : va_D (lcA s) (cw adx cI n a T H ((plF n b R (xs (i + 1))).2.1) ((plF n b R (xs (i + 1))).2.2) st9 O S ++ mw adm cI n a b T H R Oq Wy tr hd us nx) := hD
  subst h9
  refine lv_aload_n hx hb dL_law_196 rfl (lv_at hl 2 rfl) ?_
  refine lv_aload_n hx hb dL_law_197 rfl (lv_at hl 0 rfl) ?_
  refine lv_iload_n hx hb dL_law_198 rfl (lv_at hl 3 rfl) ?_
  refine lv_iconst (v := nI 1) hx hb dL_law_199 (by decide) ?_
  refine lv_iadd hx hb dL_law_200 ?_
  refine lv_topi (fun z9 e9 => ?_)
  obtain rfl : z9 = nI (i + 1) := e9.trans (nI_add i 1)
  refine va_sld hx hb hX hbl hbA hS (vp_in_nI (by omega) (by omega)) dL_law_201 ?_
  refine lv_topi (fun z9 e9 => ?_)
  obtain rfl : z9 = xs (i + 1) := e9.trans (by rw [nI_clamp (by omega)])
  refine lm_mu (As := [.int (xs (i + 1))]) (rest := [.int (plF n b R (xs (i + 1))).1]) (b := adm 0) ⟨hx, hb, hml, hown, hts⟩ (c_X4_plant l dC dI cI adm n a b T H R Oq Wy tr hd us nx _ (xs (i + 1)) n7 hb3) (cwV 1 hts (bw_V mq_ml_L_31 mq_im_X4_plant mq_se_X4_plant mq_in_X4 mq_co_X4_plant) rfl rfl rfl (by decide +kernel) ⟨Nat.le_of_ble_eq_true rfl, Nat.le_of_ble_eq_true rfl⟩) hP hK hN hD hS hA 0 rfl rfl rfl hl.1 rfl (Nat.le_of_ble_eq_true rfl) dL_law_202 hf (fun r9 u9 Hp locs h9 hP hD hS => ?_)
  have hP : va_P (dC, dI) classes (cw adx cI n a T H ((plF n b R (xs (i + 1))).2.1) ((plF n b R (xs (i + 1))).2.2) st9 O S ++ mw adm cI n a ((plF n b R (xs (i + 1))).2.1) T H ((plF n b R (xs (i + 1))).2.2) Oq Wy tr hd us nx) Hp := hP
  have hD : va_D (lcA s) (cw adx cI n a T H ((plF n b R (xs (i + 1))).2.1) ((plF n b R (xs (i + 1))).2.2) st9 O S ++ mw adm cI n a ((plF n b R (xs (i + 1))).2.1) T H ((plF n b R (xs (i + 1))).2.2) Oq Wy tr hd us nx) := hD
  subst h9
  refine lv_icmp_eq (tgt := 453) hx hb dL_law_205 (by decide) (fun _ => ?_) (fun b9 => absurd rfl b9)
  exact kk _ _ _ ⟨adx, adm, cI, n, a, T, H, (plF n b R (xs (i + 1))).2.1, (plF n b R (xs (i + 1))).2.2, st9, O, S, Oq, Wy, tr, hd, us, nx, (st_pl hI0), hst, hl, hP, hD, hK, hS⟩
set_option maxHeartbeats 4000000 in
set_option maxRecDepth 100000 in
/-- fell -/
theorem law_4 {p : Program} {l : Launch} {e : Env} {s : State} {m : MethodId} {below : List Frame} {meth : Method} {c : Code} {sb L i cells slots : Nat} {xs : Nat → Int32} {dC : Nat → ClassId} {dI : Nat → Nat → Nat} {Q : State → Prop} {Hp : Heap} {locs : List Loc} {ls : Array Slot} (C : lc_C p s m c sb L xs) (hi : i + 3 ≤ L) (hL : L ≤ 1536) (hf : cells ≤ room_1.cells ∧ slots ≤ room_1.slots) (h : lc_I dC dI s sb i Hp locs ls) (kk : ∀ (Hp : Heap) (locs : List Loc) (ls : Array Slot), lc_I dC dI s sb i Hp locs ls → W p l e room_1 s m #[Value.ref sb] below meth c Hp locs cells slots Q (F0 m 453 ls [])) : W p l e room_1 s m #[Value.ref sb] below meth c Hp locs cells slots Q (F0 m 210 ls []) := by
  obtain ⟨hx, hb, hml, hown, hts, hX, hbl, hN⟩ := C
  obtain ⟨adx, adm, cI, n, a, T, H, b, R, st, O, S, Oq, Wy, tr, hd, us, nx, hI, hst, hl, hP, hD, hK, hS⟩ := h
  have hI0 := hI
  obtain ⟨n1, n7, a14, hT, hT2, hb3, hR3, hR⟩ := hI
  have hA : ∀ q : Nat, s.heap.size ≤ q → lcA s q := fun q h => h
  have hbA : ¬ lcA s sb := by show ¬ s.heap.size ≤ sb; omega
  refine lv_aload_n hx hb dL_law_210 rfl (lv_at hl 1 rfl) ?_
  refine lx_mu (As := []) (rest := []) (b := adx 0) ⟨hx, hb, hml, hown, hts⟩ (c_X3_fell l dC dI cI adx n a T H b R st O S _  hI0 hst) (cwV 0 hts (bw_V mq_ml_L_32 mq_im_X3_fell mq_se_X3_fell mq_in_X3 mq_co_X3_fell) rfl rfl rfl (by decide +kernel) ⟨Nat.le_of_ble_eq_true rfl, Nat.le_of_ble_eq_true rfl⟩) hP hK hN hD hS hA 0 rfl rfl rfl hl.1 rfl (Nat.le_of_ble_eq_true rfl) dL_law_211 hf (fun r9 u9 Hp locs h9 hP hD hS => ?_)
  obtain ⟨h9, hst⟩ := h9
  obtain ⟨st9, rfl⟩ : ∃ z, z = u9 := ⟨_, rfl⟩
  have hP : va_P (dC, dI) classes (cw adx cI n a T H ((feF b).2) R st9 O S ++ mw adm cI n a b T H R Oq Wy tr hd us nx) Hp := hP
  have hD : va_D (lcA s) (cw adx cI n a T H ((feF b).2) R st9 O S ++ mw adm cI n a b T H R Oq Wy tr hd us nx) := hD
  subst h9
  refine lv_aload_n hx hb dL_law_214 rfl (lv_at hl 2 rfl) ?_
  refine lm_mu (As := []) (rest := [.int (feF b).1]) (b := adm 0) ⟨hx, hb, hml, hown, hts⟩ (c_X4_fell l dC dI cI adm n a b T H R Oq Wy tr hd us nx _  hb3) (cwV 0 hts (bw_V mq_ml_L_36 mq_im_X4_fell mq_se_X4_fell mq_in_X4 mq_co_X4_fell) rfl rfl rfl (by decide +kernel) ⟨Nat.le_of_ble_eq_true rfl, Nat.le_of_ble_eq_true rfl⟩) hP hK hN hD hS hA 0 rfl rfl rfl hl.1 rfl (Nat.le_of_ble_eq_true rfl) dL_law_215 hf (fun r9 u9 Hp locs h9 hP hD hS => ?_)
  have hP : va_P (dC, dI) classes (cw adx cI n a T H ((feF b).2) R st9 O S ++ mw adm cI n a ((feF b).2) T H R Oq Wy tr hd us nx) Hp := hP
  have hD : va_D (lcA s) (cw adx cI n a T H ((feF b).2) R st9 O S ++ mw adm cI n a ((feF b).2) T H R Oq Wy tr hd us nx) := hD
  subst h9
  refine lv_icmp_eq (tgt := 453) hx hb dL_law_218 (by decide) (fun _ => ?_) (fun b9 => absurd rfl b9)
  exact kk _ _ _ ⟨adx, adm, cI, n, a, T, H, (feF b).2, R, st9, O, S, Oq, Wy, tr, hd, us, nx, (st_fe hI0), hst, hl, hP, hD, hK, hS⟩
set_option maxHeartbeats 4000000 in
set_option maxRecDepth 100000 in
/-- count -/
theorem law_5 {p : Program} {l : Launch} {e : Env} {s : State} {m : MethodId} {below : List Frame} {meth : Method} {c : Code} {sb L i cells slots : Nat} {xs : Nat → Int32} {dC : Nat → ClassId} {dI : Nat → Nat → Nat} {Q : State → Prop} {Hp : Heap} {locs : List Loc} {ls : Array Slot} (C : lc_C p s m c sb L xs) (hi : i + 3 ≤ L) (hL : L ≤ 1536) (hf : cells ≤ room_1.cells ∧ slots ≤ room_1.slots) (h : lc_I dC dI s sb i Hp locs ls) (kk : ∀ (Hp : Heap) (locs : List Loc) (ls : Array Slot), lc_I dC dI s sb i Hp locs ls → W p l e room_1 s m #[Value.ref sb] below meth c Hp locs cells slots Q (F0 m 453 ls [])) : W p l e room_1 s m #[Value.ref sb] below meth c Hp locs cells slots Q (F0 m 223 ls []) := by
  obtain ⟨hx, hb, hml, hown, hts, hX, hbl, hN⟩ := C
  obtain ⟨adx, adm, cI, n, a, T, H, b, R, st, O, S, Oq, Wy, tr, hd, us, nx, hI, hst, hl, hP, hD, hK, hS⟩ := h
  have hI0 := hI
  obtain ⟨n1, n7, a14, hT, hT2, hb3, hR3, hR⟩ := hI
  have hA : ∀ q : Nat, s.heap.size ≤ q → lcA s q := fun q h => h
  have hbA : ¬ lcA s sb := by show ¬ s.heap.size ≤ sb; omega
  refine lv_aload_n hx hb dL_law_223 rfl (lv_at hl 1 rfl) ?_
  refine lv_aload_n hx hb dL_law_224 rfl (lv_at hl 0 rfl) ?_
  refine lv_iload_n hx hb dL_law_225 rfl (lv_at hl 3 rfl) ?_
  refine lv_iconst (v := nI 1) hx hb dL_law_226 (by decide) ?_
  refine lv_iadd hx hb dL_law_227 ?_
  refine lv_topi (fun z9 e9 => ?_)
  obtain rfl : z9 = nI (i + 1) := e9.trans (nI_add i 1)
  refine va_sld hx hb hX hbl hbA hS (vp_in_nI (by omega) (by omega)) dL_law_228 ?_
  refine lv_topi (fun z9 e9 => ?_)
  obtain rfl : z9 = xs (i + 1) := e9.trans (by rw [nI_clamp (by omega)])
  refine lx_ro (As := [.int (xs (i + 1))]) (rest := []) (b := adx 0) ⟨hx, hb, hml, hown, hts⟩ (c_X3_count l dC dI cI adx n a T H b R st O S (xs (i + 1)) ) (cwV 1 hts (bw_V mq_ml_L_37 mq_im_X3_count mq_se_X3_count mq_in_X3 mq_co_X3_count) rfl rfl rfl (by decide +kernel) ⟨Nat.le_of_ble_eq_true rfl, Nat.le_of_ble_eq_true rfl⟩) hP hK hN 0 rfl rfl rfl hl.1 rfl (Nat.le_of_ble_eq_true rfl) dL_law_229 hf (fun r9 h9 => ?_)
  subst h9
  refine lv_aload_n hx hb dL_law_232 rfl (lv_at hl 2 rfl) ?_
  refine lv_aload_n hx hb dL_law_233 rfl (lv_at hl 0 rfl) ?_
  refine lv_iload_n hx hb dL_law_234 rfl (lv_at hl 3 rfl) ?_
  refine lv_iconst (v := nI 1) hx hb dL_law_235 (by decide) ?_
  refine lv_iadd hx hb dL_law_236 ?_
  refine lv_topi (fun z9 e9 => ?_)
  obtain rfl : z9 = nI (i + 1) := e9.trans (nI_add i 1)
  refine va_sld hx hb hX hbl hbA hS (vp_in_nI (by omega) (by omega)) dL_law_237 ?_
  refine lv_topi (fun z9 e9 => ?_)
  obtain rfl : z9 = xs (i + 1) := e9.trans (by rw [nI_clamp (by omega)])
  refine lm_ro (As := [.int (xs (i + 1))]) (rest := [.int (coF n a b (xs (i + 1)))]) (b := adm 0) ⟨hx, hb, hml, hown, hts⟩ (c_X4_count l dC dI cI adm n a b T H R Oq Wy tr hd us nx (xs (i + 1)) ) (cwV 1 hts (bw_V mq_ml_L_40 mq_im_X4_count mq_se_X4_count mq_in_X4 mq_co_X4_count) rfl rfl rfl (by decide +kernel) ⟨Nat.le_of_ble_eq_true rfl, Nat.le_of_ble_eq_true rfl⟩) hP hK hN 0 rfl rfl rfl hl.1 rfl (Nat.le_of_ble_eq_true rfl) dL_law_238 hf (fun r9 h9 => ?_)
  subst h9
  refine lv_icmp_eq (tgt := 453) hx hb dL_law_241 (by decide) (fun _ => ?_) (fun b9 => absurd rfl b9)
  exact kk _ _ _ ⟨adx, adm, cI, n, a, T, H, b, R, st, O, S, Oq, Wy, tr, hd, us, nx, hI0, hst, hl, hP, hD, hK, hS⟩
set_option maxHeartbeats 4000000 in
set_option maxRecDepth 100000 in
/-- end -/
theorem law_6 {p : Program} {l : Launch} {e : Env} {s : State} {m : MethodId} {below : List Frame} {meth : Method} {c : Code} {sb L i cells slots : Nat} {xs : Nat → Int32} {dC : Nat → ClassId} {dI : Nat → Nat → Nat} {Q : State → Prop} {Hp : Heap} {locs : List Loc} {ls : Array Slot} (C : lc_C p s m c sb L xs) (hi : i + 3 ≤ L) (hL : L ≤ 1536) (hf : cells ≤ room_1.cells ∧ slots ≤ room_1.slots) (h : lc_I dC dI s sb i Hp locs ls) (kk : ∀ (Hp : Heap) (locs : List Loc) (ls : Array Slot), lc_I dC dI s sb i Hp locs ls → W p l e room_1 s m #[Value.ref sb] below meth c Hp locs cells slots Q (F0 m 453 ls [])) : W p l e room_1 s m #[Value.ref sb] below meth c Hp locs cells slots Q (F0 m 246 ls []) := by
  obtain ⟨hx, hb, hml, hown, hts, hX, hbl, hN⟩ := C
  obtain ⟨adx, adm, cI, n, a, T, H, b, R, st, O, S, Oq, Wy, tr, hd, us, nx, hI, hst, hl, hP, hD, hK, hS⟩ := h
  have hI0 := hI
  obtain ⟨n1, n7, a14, hT, hT2, hb3, hR3, hR⟩ := hI
  have hA : ∀ q : Nat, s.heap.size ≤ q → lcA s q := fun q h => h
  have hbA : ¬ lcA s sb := by show ¬ s.heap.size ≤ sb; omega
  refine lv_aload_n hx hb dL_law_246 rfl (lv_at hl 1 rfl) ?_
  refine lv_aload_n hx hb dL_law_247 rfl (lv_at hl 0 rfl) ?_
  refine lv_iload_n hx hb dL_law_248 rfl (lv_at hl 3 rfl) ?_
  refine lv_iconst (v := nI 1) hx hb dL_law_249 (by decide) ?_
  refine lv_iadd hx hb dL_law_250 ?_
  refine lv_topi (fun z9 e9 => ?_)
  obtain rfl : z9 = nI (i + 1) := e9.trans (nI_add i 1)
  refine va_sld hx hb hX hbl hbA hS (vp_in_nI (by omega) (by omega)) dL_law_251 ?_
  refine lv_topi (fun z9 e9 => ?_)
  obtain rfl : z9 = xs (i + 1) := e9.trans (by rw [nI_clamp (by omega)])
  refine lv_aload_n hx hb dL_law_252 rfl (lv_at hl 0 rfl) ?_
  refine lv_iload_n hx hb dL_law_253 rfl (lv_at hl 3 rfl) ?_
  refine lv_iconst (v := nI 2) hx hb dL_law_254 (by decide) ?_
  refine lv_iadd hx hb dL_law_255 ?_
  refine lv_topi (fun z9 e9 => ?_)
  obtain rfl : z9 = nI (i + 2) := e9.trans (nI_add i 2)
  refine va_sld hx hb hX hbl hbA hS (vp_in_nI (by omega) (by omega)) dL_law_256 ?_
  refine lv_topi (fun z9 e9 => ?_)
  obtain rfl : z9 = xs (i + 2) := e9.trans (by rw [nI_clamp (by omega)])
  refine lx_ro (As := [.int (xs (i + 1)), .int (xs (i + 2))]) (rest := []) (b := adx 0) ⟨hx, hb, hml, hown, hts⟩ (c_X3_end l dC dI cI adx n a T H b R st O S (xs (i + 1)) (xs (i + 2)) hI0) (cwV 2 hts (bw_V mq_ml_L_41 mq_im_X3_end mq_se_X3_end mq_in_X3 mq_co_X3_end) rfl rfl rfl (by decide +kernel) ⟨Nat.le_of_ble_eq_true rfl, Nat.le_of_ble_eq_true rfl⟩) hP hK hN 0 rfl rfl rfl hl.1 rfl (Nat.le_of_ble_eq_true rfl) dL_law_257 hf (fun r9 h9 => ?_)
  subst h9
  refine lv_aload_n hx hb dL_law_260 rfl (lv_at hl 2 rfl) ?_
  refine lv_aload_n hx hb dL_law_261 rfl (lv_at hl 0 rfl) ?_
  refine lv_iload_n hx hb dL_law_262 rfl (lv_at hl 3 rfl) ?_
  refine lv_iconst (v := nI 1) hx hb dL_law_263 (by decide) ?_
  refine lv_iadd hx hb dL_law_264 ?_
  refine lv_topi (fun z9 e9 => ?_)
  obtain rfl : z9 = nI (i + 1) := e9.trans (nI_add i 1)
  refine va_sld hx hb hX hbl hbA hS (vp_in_nI (by omega) (by omega)) dL_law_265 ?_
  refine lv_topi (fun z9 e9 => ?_)
  obtain rfl : z9 = xs (i + 1) := e9.trans (by rw [nI_clamp (by omega)])
  refine lv_aload_n hx hb dL_law_266 rfl (lv_at hl 0 rfl) ?_
  refine lv_iload_n hx hb dL_law_267 rfl (lv_at hl 3 rfl) ?_
  refine lv_iconst (v := nI 2) hx hb dL_law_268 (by decide) ?_
  refine lv_iadd hx hb dL_law_269 ?_
  refine lv_topi (fun z9 e9 => ?_)
  obtain rfl : z9 = nI (i + 2) := e9.trans (nI_add i 2)
  refine va_sld hx hb hX hbl hbA hS (vp_in_nI (by omega) (by omega)) dL_law_270 ?_
  refine lv_topi (fun z9 e9 => ?_)
  obtain rfl : z9 = xs (i + 2) := e9.trans (by rw [nI_clamp (by omega)])
  refine lm_ro (As := [.int (xs (i + 1)), .int (xs (i + 2))]) (rest := [.int (enF a T H (xs (i + 1)) (xs (i + 2)))]) (b := adm 0) ⟨hx, hb, hml, hown, hts⟩ (c_X4_end l dC dI cI adm n a b T H R Oq Wy tr hd us nx (xs (i + 1)) (xs (i + 2)) a14) (cwV 2 hts (bw_V mq_ml_L_44 mq_im_X4_end mq_se_X4_end mq_in_X4 mq_co_X4_end) rfl rfl rfl (by decide +kernel) ⟨Nat.le_of_ble_eq_true rfl, Nat.le_of_ble_eq_true rfl⟩) hP hK hN 0 rfl rfl rfl hl.1 rfl (Nat.le_of_ble_eq_true rfl) dL_law_271 hf (fun r9 h9 => ?_)
  subst h9
  refine lv_icmp_eq (tgt := 453) hx hb dL_law_274 (by decide) (fun _ => ?_) (fun b9 => absurd rfl b9)
  exact kk _ _ _ ⟨adx, adm, cI, n, a, T, H, b, R, st, O, S, Oq, Wy, tr, hd, us, nx, hI0, hst, hl, hP, hD, hK, hS⟩
set_option maxHeartbeats 4000000 in
set_option maxRecDepth 100000 in
/-- entry -/
theorem law_7 {p : Program} {l : Launch} {e : Env} {s : State} {m : MethodId} {below : List Frame} {meth : Method} {c : Code} {sb L i cells slots : Nat} {xs : Nat → Int32} {dC : Nat → ClassId} {dI : Nat → Nat → Nat} {Q : State → Prop} {Hp : Heap} {locs : List Loc} {ls : Array Slot} (C : lc_C p s m c sb L xs) (hi : i + 3 ≤ L) (hL : L ≤ 1536) (hf : cells ≤ room_1.cells ∧ slots ≤ room_1.slots) (h : lc_I dC dI s sb i Hp locs ls) (kk : ∀ (Hp : Heap) (locs : List Loc) (ls : Array Slot), lc_I dC dI s sb i Hp locs ls → W p l e room_1 s m #[Value.ref sb] below meth c Hp locs cells slots Q (F0 m 453 ls [])) : W p l e room_1 s m #[Value.ref sb] below meth c Hp locs cells slots Q (F0 m 279 ls []) := by
  obtain ⟨hx, hb, hml, hown, hts, hX, hbl, hN⟩ := C
  obtain ⟨adx, adm, cI, n, a, T, H, b, R, st, O, S, Oq, Wy, tr, hd, us, nx, hI, hst, hl, hP, hD, hK, hS⟩ := h
  have hI0 := hI
  obtain ⟨n1, n7, a14, hT, hT2, hb3, hR3, hR⟩ := hI
  have hA : ∀ q : Nat, s.heap.size ≤ q → lcA s q := fun q h => h
  have hbA : ¬ lcA s sb := by show ¬ s.heap.size ≤ sb; omega
  refine lv_aload_n hx hb dL_law_279 rfl (lv_at hl 1 rfl) ?_
  refine lv_aload_n hx hb dL_law_280 rfl (lv_at hl 0 rfl) ?_
  refine lv_iload_n hx hb dL_law_281 rfl (lv_at hl 3 rfl) ?_
  refine lv_iconst (v := nI 1) hx hb dL_law_282 (by decide) ?_
  refine lv_iadd hx hb dL_law_283 ?_
  refine lv_topi (fun z9 e9 => ?_)
  obtain rfl : z9 = nI (i + 1) := e9.trans (nI_add i 1)
  refine va_sld hx hb hX hbl hbA hS (vp_in_nI (by omega) (by omega)) dL_law_284 ?_
  refine lv_topi (fun z9 e9 => ?_)
  obtain rfl : z9 = xs (i + 1) := e9.trans (by rw [nI_clamp (by omega)])
  refine lx_ro (As := [.int (xs (i + 1))]) (rest := []) (b := adx 0) ⟨hx, hb, hml, hown, hts⟩ (c_X3_entry l dC dI cI adx n a T H b R st O S (xs (i + 1)) hI0) (cwV 1 hts (bw_V mq_ml_L_45 mq_im_X3_entry mq_se_X3_entry mq_in_X3 mq_co_X3_entry) rfl rfl rfl (by decide +kernel) ⟨Nat.le_of_ble_eq_true rfl, Nat.le_of_ble_eq_true rfl⟩) hP hK hN 0 rfl rfl rfl hl.1 rfl (Nat.le_of_ble_eq_true rfl) dL_law_285 hf (fun r9 h9 => ?_)
  subst h9
  refine lv_aload_n hx hb dL_law_288 rfl (lv_at hl 2 rfl) ?_
  refine lv_aload_n hx hb dL_law_289 rfl (lv_at hl 0 rfl) ?_
  refine lv_iload_n hx hb dL_law_290 rfl (lv_at hl 3 rfl) ?_
  refine lv_iconst (v := nI 1) hx hb dL_law_291 (by decide) ?_
  refine lv_iadd hx hb dL_law_292 ?_
  refine lv_topi (fun z9 e9 => ?_)
  obtain rfl : z9 = nI (i + 1) := e9.trans (nI_add i 1)
  refine va_sld hx hb hX hbl hbA hS (vp_in_nI (by omega) (by omega)) dL_law_293 ?_
  refine lv_topi (fun z9 e9 => ?_)
  obtain rfl : z9 = xs (i + 1) := e9.trans (by rw [nI_clamp (by omega)])
  refine lm_ro (As := [.int (xs (i + 1))]) (rest := [.int (etF n a T H (xs (i + 1)))]) (b := adm 0) ⟨hx, hb, hml, hown, hts⟩ (c_X4_entry l dC dI cI adm n a b T H R Oq Wy tr hd us nx (xs (i + 1)) n7 a14 hT) (cwV 1 hts (bw_V mq_ml_L_48 mq_im_X4_entry mq_se_X4_entry mq_in_X4 mq_co_X4_entry) rfl rfl rfl (by decide +kernel) ⟨Nat.le_of_ble_eq_true rfl, Nat.le_of_ble_eq_true rfl⟩) hP hK hN 0 rfl rfl rfl hl.1 rfl (Nat.le_of_ble_eq_true rfl) dL_law_294 hf (fun r9 h9 => ?_)
  subst h9
  refine lv_icmp_eq (tgt := 453) hx hb dL_law_297 (by decide) (fun _ => ?_) (fun b9 => absurd rfl b9)
  exact kk _ _ _ ⟨adx, adm, cI, n, a, T, H, b, R, st, O, S, Oq, Wy, tr, hd, us, nx, hI0, hst, hl, hP, hD, hK, hS⟩
set_option maxHeartbeats 4000000 in
set_option maxRecDepth 100000 in
/-- missed -/
theorem law_8 {p : Program} {l : Launch} {e : Env} {s : State} {m : MethodId} {below : List Frame} {meth : Method} {c : Code} {sb L i cells slots : Nat} {xs : Nat → Int32} {dC : Nat → ClassId} {dI : Nat → Nat → Nat} {Q : State → Prop} {Hp : Heap} {locs : List Loc} {ls : Array Slot} (C : lc_C p s m c sb L xs) (hi : i + 3 ≤ L) (hL : L ≤ 1536) (hf : cells ≤ room_1.cells ∧ slots ≤ room_1.slots) (h : lc_I dC dI s sb i Hp locs ls) (kk : ∀ (Hp : Heap) (locs : List Loc) (ls : Array Slot), lc_I dC dI s sb i Hp locs ls → W p l e room_1 s m #[Value.ref sb] below meth c Hp locs cells slots Q (F0 m 453 ls [])) : W p l e room_1 s m #[Value.ref sb] below meth c Hp locs cells slots Q (F0 m 302 ls []) := by
  obtain ⟨hx, hb, hml, hown, hts, hX, hbl, hN⟩ := C
  obtain ⟨adx, adm, cI, n, a, T, H, b, R, st, O, S, Oq, Wy, tr, hd, us, nx, hI, hst, hl, hP, hD, hK, hS⟩ := h
  have hI0 := hI
  obtain ⟨n1, n7, a14, hT, hT2, hb3, hR3, hR⟩ := hI
  have hA : ∀ q : Nat, s.heap.size ≤ q → lcA s q := fun q h => h
  have hbA : ¬ lcA s sb := by show ¬ s.heap.size ≤ sb; omega
  refine lv_aload_n hx hb dL_law_302 rfl (lv_at hl 1 rfl) ?_
  refine lv_aload_n hx hb dL_law_303 rfl (lv_at hl 0 rfl) ?_
  refine lv_iload_n hx hb dL_law_304 rfl (lv_at hl 3 rfl) ?_
  refine lv_iconst (v := nI 1) hx hb dL_law_305 (by decide) ?_
  refine lv_iadd hx hb dL_law_306 ?_
  refine lv_topi (fun z9 e9 => ?_)
  obtain rfl : z9 = nI (i + 1) := e9.trans (nI_add i 1)
  refine va_sld hx hb hX hbl hbA hS (vp_in_nI (by omega) (by omega)) dL_law_307 ?_
  refine lv_topi (fun z9 e9 => ?_)
  obtain rfl : z9 = xs (i + 1) := e9.trans (by rw [nI_clamp (by omega)])
  refine lx_ro (As := [.int (xs (i + 1))]) (rest := []) (b := adx 0) ⟨hx, hb, hml, hown, hts⟩ (c_X3_missed l dC dI cI adx n a T H b R st O S (xs (i + 1)) hI0) (cwV 1 hts (bw_V mq_ml_L_49 mq_im_X3_missed mq_se_X3_missed mq_in_X3 mq_co_X3_missed) rfl rfl rfl (by decide +kernel) ⟨Nat.le_of_ble_eq_true rfl, Nat.le_of_ble_eq_true rfl⟩) hP hK hN 0 rfl rfl rfl hl.1 rfl (Nat.le_of_ble_eq_true rfl) dL_law_308 hf (fun r9 h9 => ?_)
  subst h9
  refine lv_aload_n hx hb dL_law_311 rfl (lv_at hl 2 rfl) ?_
  refine lv_aload_n hx hb dL_law_312 rfl (lv_at hl 0 rfl) ?_
  refine lv_iload_n hx hb dL_law_313 rfl (lv_at hl 3 rfl) ?_
  refine lv_iconst (v := nI 1) hx hb dL_law_314 (by decide) ?_
  refine lv_iadd hx hb dL_law_315 ?_
  refine lv_topi (fun z9 e9 => ?_)
  obtain rfl : z9 = nI (i + 1) := e9.trans (nI_add i 1)
  refine va_sld hx hb hX hbl hbA hS (vp_in_nI (by omega) (by omega)) dL_law_316 ?_
  refine lv_topi (fun z9 e9 => ?_)
  obtain rfl : z9 = xs (i + 1) := e9.trans (by rw [nI_clamp (by omega)])
  refine lm_ro (As := [.int (xs (i + 1))]) (rest := [.int (miF n b R (xs (i + 1)))]) (b := adm 0) ⟨hx, hb, hml, hown, hts⟩ (c_X4_missed l dC dI cI adm n a b T H R Oq Wy tr hd us nx (xs (i + 1)) n7 hb3 hR) (cwV 1 hts (bw_V mq_ml_L_52 mq_im_X4_missed mq_se_X4_missed mq_in_X4 mq_co_X4_missed) rfl rfl rfl (by decide +kernel) ⟨Nat.le_of_ble_eq_true rfl, Nat.le_of_ble_eq_true rfl⟩) hP hK hN 0 rfl rfl rfl hl.1 rfl (Nat.le_of_ble_eq_true rfl) dL_law_317 hf (fun r9 h9 => ?_)
  subst h9
  refine lv_icmp_eq (tgt := 453) hx hb dL_law_320 (by decide) (fun _ => ?_) (fun b9 => absurd rfl b9)
  exact kk _ _ _ ⟨adx, adm, cI, n, a, T, H, b, R, st, O, S, Oq, Wy, tr, hd, us, nx, hI0, hst, hl, hP, hD, hK, hS⟩
set_option maxHeartbeats 4000000 in
set_option maxRecDepth 100000 in
/-- packs -/
theorem law_9 {p : Program} {l : Launch} {e : Env} {s : State} {m : MethodId} {below : List Frame} {meth : Method} {c : Code} {sb L i cells slots : Nat} {xs : Nat → Int32} {dC : Nat → ClassId} {dI : Nat → Nat → Nat} {Q : State → Prop} {Hp : Heap} {locs : List Loc} {ls : Array Slot} (C : lc_C p s m c sb L xs) (hi : i + 3 ≤ L) (hL : L ≤ 1536) (hf : cells ≤ room_1.cells ∧ slots ≤ room_1.slots) (h : lc_I dC dI s sb i Hp locs ls) (kk : ∀ (Hp : Heap) (locs : List Loc) (ls : Array Slot), lc_I dC dI s sb i Hp locs ls → W p l e room_1 s m #[Value.ref sb] below meth c Hp locs cells slots Q (F0 m 453 ls [])) : W p l e room_1 s m #[Value.ref sb] below meth c Hp locs cells slots Q (F0 m 325 ls []) := by
  obtain ⟨hx, hb, hml, hown, hts, hX, hbl, hN⟩ := C
  obtain ⟨adx, adm, cI, n, a, T, H, b, R, st, O, S, Oq, Wy, tr, hd, us, nx, hI, hst, hl, hP, hD, hK, hS⟩ := h
  have hI0 := hI
  obtain ⟨n1, n7, a14, hT, hT2, hb3, hR3, hR⟩ := hI
  have hA : ∀ q : Nat, s.heap.size ≤ q → lcA s q := fun q h => h
  have hbA : ¬ lcA s sb := by show ¬ s.heap.size ≤ sb; omega
  refine lv_aload_n hx hb dL_law_325 rfl (lv_at hl 1 rfl) ?_
  refine lx_ro (As := []) (rest := []) (b := adx 0) ⟨hx, hb, hml, hown, hts⟩ (c_X3_packs l dC dI cI adx n a T H b R st O S  hI0) (cwV 0 hts (bw_V mq_ml_L_53 mq_im_X3_packs mq_se_X3_packs mq_in_X3 mq_co_X3_packs) rfl rfl rfl (by decide +kernel) ⟨Nat.le_of_ble_eq_true rfl, Nat.le_of_ble_eq_true rfl⟩) hP hK hN 0 rfl rfl rfl hl.1 rfl (Nat.le_of_ble_eq_true rfl) dL_law_326 hf (fun r9 h9 => ?_)
  subst h9
  refine lv_aload_n hx hb dL_law_329 rfl (lv_at hl 2 rfl) ?_
  refine lm_mu (As := []) (rest := [.int (nI (ed_b (paF n a T H b R)))]) (b := adm 0) ⟨hx, hb, hml, hown, hts⟩ (c_X4_packs l dC dI cI adm n a b T H R Oq Wy tr hd us nx _  hI0) (cwV 0 hts (bw_V mq_ml_L_57 mq_im_X4_packs mq_se_X4_packs mq_in_X4 mq_co_X4_packs) rfl rfl rfl (by decide +kernel) ⟨Nat.le_of_ble_eq_true rfl, Nat.le_of_ble_eq_true rfl⟩) hP hK hN hD hS hA 0 rfl rfl rfl hl.1 rfl (Nat.le_of_ble_eq_true rfl) dL_law_330 hf (fun r9 u9 Hp locs h9 hP hD hS => ?_)
  obtain ⟨⟨tr9, hd9, us9, nx9⟩, rfl⟩ : ∃ z, z = u9 := ⟨_, rfl⟩
  have hP : va_P (dC, dI) classes (cw adx cI n a T H b R st O S ++ mw adm cI n a b T H R Oq Wy tr9 hd9 us9 nx9) Hp := hP
  have hD : va_D (lcA s) (cw adx cI n a T H b R st O S ++ mw adm cI n a b T H R Oq Wy tr9 hd9 us9 nx9) := hD
  subst h9
  refine lv_icmp_eq (tgt := 453) hx hb dL_law_333 (by decide) (fun _ => ?_) (fun b9 => absurd rfl b9)
  exact kk _ _ _ ⟨adx, adm, cI, n, a, T, H, b, R, st, O, S, Oq, Wy, tr9, hd9, us9, nx9, hI0, hst, hl, hP, hD, hK, hS⟩
set_option maxHeartbeats 4000000 in
set_option maxRecDepth 100000 in
/-- stopper -/
theorem law_10 {p : Program} {l : Launch} {e : Env} {s : State} {m : MethodId} {below : List Frame} {meth : Method} {c : Code} {sb L i cells slots : Nat} {xs : Nat → Int32} {dC : Nat → ClassId} {dI : Nat → Nat → Nat} {Q : State → Prop} {Hp : Heap} {locs : List Loc} {ls : Array Slot} (C : lc_C p s m c sb L xs) (hi : i + 3 ≤ L) (hL : L ≤ 1536) (hf : cells ≤ room_1.cells ∧ slots ≤ room_1.slots) (h : lc_I dC dI s sb i Hp locs ls) (kk : ∀ (Hp : Heap) (locs : List Loc) (ls : Array Slot), lc_I dC dI s sb i Hp locs ls → W p l e room_1 s m #[Value.ref sb] below meth c Hp locs cells slots Q (F0 m 453 ls [])) : W p l e room_1 s m #[Value.ref sb] below meth c Hp locs cells slots Q (F0 m 338 ls []) := by
  obtain ⟨hx, hb, hml, hown, hts, hX, hbl, hN⟩ := C
  obtain ⟨adx, adm, cI, n, a, T, H, b, R, st, O, S, Oq, Wy, tr, hd, us, nx, hI, hst, hl, hP, hD, hK, hS⟩ := h
  have hI0 := hI
  obtain ⟨n1, n7, a14, hT, hT2, hb3, hR3, hR⟩ := hI
  have hA : ∀ q : Nat, s.heap.size ≤ q → lcA s q := fun q h => h
  have hbA : ¬ lcA s sb := by show ¬ s.heap.size ≤ sb; omega
  refine lv_aload_n hx hb dL_law_338 rfl (lv_at hl 1 rfl) ?_
  refine lx_ro (As := []) (rest := []) (b := adx 0) ⟨hx, hb, hml, hown, hts⟩ (c_X3_stopper l dC dI cI adx n a T H b R st O S  hI0) (cwV 0 hts (bw_V mq_ml_L_58 mq_im_X3_stopper mq_se_X3_stopper mq_in_X3 mq_co_X3_stopper) rfl rfl rfl (by decide +kernel) ⟨Nat.le_of_ble_eq_true rfl, Nat.le_of_ble_eq_true rfl⟩) hP hK hN 0 rfl rfl rfl hl.1 rfl (Nat.le_of_ble_eq_true rfl) dL_law_339 hf (fun r9 h9 => ?_)
  subst h9
  refine lv_aload_n hx hb dL_law_342 rfl (lv_at hl 2 rfl) ?_
  refine lm_ro (As := []) (rest := [.int (nI (spF n a T H b R))]) (b := adm 0) ⟨hx, hb, hml, hown, hts⟩ (c_X4_stopper l dC dI cI adm n a b T H R Oq Wy tr hd us nx  hI0) (cwV 0 hts (bw_V mq_ml_L_61 mq_im_X4_stopper mq_se_X4_stopper mq_in_X4 mq_co_X4_stopper) rfl rfl rfl (by decide +kernel) ⟨Nat.le_of_ble_eq_true rfl, Nat.le_of_ble_eq_true rfl⟩) hP hK hN 0 rfl rfl rfl hl.1 rfl (Nat.le_of_ble_eq_true rfl) dL_law_343 hf (fun r9 h9 => ?_)
  subst h9
  refine lv_icmp_eq (tgt := 453) hx hb dL_law_346 (by decide) (fun _ => ?_) (fun b9 => absurd rfl b9)
  exact kk _ _ _ ⟨adx, adm, cI, n, a, T, H, b, R, st, O, S, Oq, Wy, tr, hd, us, nx, hI0, hst, hl, hP, hD, hK, hS⟩
set_option maxHeartbeats 4000000 in
set_option maxRecDepth 100000 in
/-- owner -/
theorem law_11 {p : Program} {l : Launch} {e : Env} {s : State} {m : MethodId} {below : List Frame} {meth : Method} {c : Code} {sb L i cells slots : Nat} {xs : Nat → Int32} {dC : Nat → ClassId} {dI : Nat → Nat → Nat} {Q : State → Prop} {Hp : Heap} {locs : List Loc} {ls : Array Slot} (C : lc_C p s m c sb L xs) (hi : i + 3 ≤ L) (hL : L ≤ 1536) (hf : cells ≤ room_1.cells ∧ slots ≤ room_1.slots) (h : lc_I dC dI s sb i Hp locs ls) (kk : ∀ (Hp : Heap) (locs : List Loc) (ls : Array Slot), lc_I dC dI s sb i Hp locs ls → W p l e room_1 s m #[Value.ref sb] below meth c Hp locs cells slots Q (F0 m 453 ls [])) : W p l e room_1 s m #[Value.ref sb] below meth c Hp locs cells slots Q (F0 m 351 ls []) := by
  obtain ⟨hx, hb, hml, hown, hts, hX, hbl, hN⟩ := C
  obtain ⟨adx, adm, cI, n, a, T, H, b, R, st, O, S, Oq, Wy, tr, hd, us, nx, hI, hst, hl, hP, hD, hK, hS⟩ := h
  have hI0 := hI
  obtain ⟨n1, n7, a14, hT, hT2, hb3, hR3, hR⟩ := hI
  have hA : ∀ q : Nat, s.heap.size ≤ q → lcA s q := fun q h => h
  have hbA : ¬ lcA s sb := by show ¬ s.heap.size ≤ sb; omega
  refine lv_aload_n hx hb dL_law_351 rfl (lv_at hl 1 rfl) ?_
  refine lv_aload_n hx hb dL_law_352 rfl (lv_at hl 0 rfl) ?_
  refine lv_iload_n hx hb dL_law_353 rfl (lv_at hl 3 rfl) ?_
  refine lv_iconst (v := nI 1) hx hb dL_law_354 (by decide) ?_
  refine lv_iadd hx hb dL_law_355 ?_
  refine lv_topi (fun z9 e9 => ?_)
  obtain rfl : z9 = nI (i + 1) := e9.trans (nI_add i 1)
  refine va_sld hx hb hX hbl hbA hS (vp_in_nI (by omega) (by omega)) dL_law_356 ?_
  refine lv_topi (fun z9 e9 => ?_)
  obtain rfl : z9 = xs (i + 1) := e9.trans (by rw [nI_clamp (by omega)])
  refine lx_mu (As := [.int (xs (i + 1))]) (rest := []) (b := adx 0) ⟨hx, hb, hml, hown, hts⟩ (c_X3_owner l dC dI cI adx n a T H b R st O S _ (xs (i + 1)) hI0 hst) (cwV 1 hts (bw_V mq_ml_L_62 mq_im_X3_owner mq_se_X3_owner mq_in_X3 mq_co_X3_owner) rfl rfl rfl (by decide +kernel) ⟨Nat.le_of_ble_eq_true rfl, Nat.le_of_ble_eq_true rfl⟩) hP hK hN hD hS hA 0 rfl rfl rfl hl.1 rfl (Nat.le_of_ble_eq_true rfl) dL_law_357 hf (fun r9 u9 Hp locs h9 hP hD hS => ?_)
  obtain ⟨h9, hst⟩ := h9
  obtain ⟨⟨st9, O9, S9⟩, rfl⟩ : ∃ z, z = u9 := ⟨_, rfl⟩
  replace hst : st9 = 1 ∨ (st9 = 0 ∧ O9 = pg_all n a b T H R) := hst
  have hP : va_P (dC, dI) classes (cw adx cI n a T H b R st9 O9 S9 ++ mw adm cI n a b T H R Oq Wy tr hd us nx) Hp := hP
  have hD : va_D (lcA s) (cw adx cI n a T H b R st9 O9 S9 ++ mw adm cI n a b T H R Oq Wy tr hd us nx) := hD
  subst h9
  refine lv_aload_n hx hb dL_law_360 rfl (lv_at hl 2 rfl) ?_
  refine lv_aload_n hx hb dL_law_361 rfl (lv_at hl 0 rfl) ?_
  refine lv_iload_n hx hb dL_law_362 rfl (lv_at hl 3 rfl) ?_
  refine lv_iconst (v := nI 1) hx hb dL_law_363 (by decide) ?_
  refine lv_iadd hx hb dL_law_364 ?_
  refine lv_topi (fun z9 e9 => ?_)
  obtain rfl : z9 = nI (i + 1) := e9.trans (nI_add i 1)
  refine va_sld hx hb hX hbl hbA hS (vp_in_nI (by omega) (by omega)) dL_law_365 ?_
  refine lv_topi (fun z9 e9 => ?_)
  obtain rfl : z9 = xs (i + 1) := e9.trans (by rw [nI_clamp (by omega)])
  refine lm_mu (As := [.int (xs (i + 1))]) (rest := [.int (owF n a b T H R (xs (i + 1)))]) (b := adm 0) ⟨hx, hb, hml, hown, hts⟩ (c_X4_owner l dC dI cI adm n a b T H R Oq Wy tr hd us nx _ (xs (i + 1)) hI0) (cwV 1 hts (bw_V mq_ml_L_65 mq_im_X4_owner mq_se_X4_owner mq_in_X4 mq_co_X4_owner) rfl rfl rfl (by decide +kernel) ⟨Nat.le_of_ble_eq_true rfl, Nat.le_of_ble_eq_true rfl⟩) hP hK hN hD hS hA 0 rfl rfl rfl hl.1 rfl (Nat.le_of_ble_eq_true rfl) dL_law_366 hf (fun r9 u9 Hp locs h9 hP hD hS => ?_)
  obtain ⟨⟨O8, W8, tr9, hd9, us9, nx9⟩, rfl⟩ : ∃ z, z = u9 := ⟨_, rfl⟩
  have hP : va_P (dC, dI) classes (cw adx cI n a T H b R st9 O9 S9 ++ mw adm cI n a b T H R O8 W8 tr9 hd9 us9 nx9) Hp := hP
  have hD : va_D (lcA s) (cw adx cI n a T H b R st9 O9 S9 ++ mw adm cI n a b T H R O8 W8 tr9 hd9 us9 nx9) := hD
  subst h9
  refine lv_icmp_eq (tgt := 453) hx hb dL_law_369 (by decide) (fun _ => ?_) (fun b9 => absurd rfl b9)
  exact kk _ _ _ ⟨adx, adm, cI, n, a, T, H, b, R, st9, O9, S9, O8, W8, tr9, hd9, us9, nx9, hI0, hst, hl, hP, hD, hK, hS⟩
set_option maxHeartbeats 4000000 in
set_option maxRecDepth 100000 in
/-- way -/
theorem law_12 {p : Program} {l : Launch} {e : Env} {s : State} {m : MethodId} {below : List Frame} {meth : Method} {c : Code} {sb L i cells slots : Nat} {xs : Nat → Int32} {dC : Nat → ClassId} {dI : Nat → Nat → Nat} {Q : State → Prop} {Hp : Heap} {locs : List Loc} {ls : Array Slot} (C : lc_C p s m c sb L xs) (hi : i + 3 ≤ L) (hL : L ≤ 1536) (hf : cells ≤ room_1.cells ∧ slots ≤ room_1.slots) (h : lc_I dC dI s sb i Hp locs ls) (kk : ∀ (Hp : Heap) (locs : List Loc) (ls : Array Slot), lc_I dC dI s sb i Hp locs ls → W p l e room_1 s m #[Value.ref sb] below meth c Hp locs cells slots Q (F0 m 453 ls [])) : W p l e room_1 s m #[Value.ref sb] below meth c Hp locs cells slots Q (F0 m 374 ls []) := by
  obtain ⟨hx, hb, hml, hown, hts, hX, hbl, hN⟩ := C
  obtain ⟨adx, adm, cI, n, a, T, H, b, R, st, O, S, Oq, Wy, tr, hd, us, nx, hI, hst, hl, hP, hD, hK, hS⟩ := h
  have hI0 := hI
  obtain ⟨n1, n7, a14, hT, hT2, hb3, hR3, hR⟩ := hI
  have hA : ∀ q : Nat, s.heap.size ≤ q → lcA s q := fun q h => h
  have hbA : ¬ lcA s sb := by show ¬ s.heap.size ≤ sb; omega
  refine lv_aload_n hx hb dL_law_374 rfl (lv_at hl 1 rfl) ?_
  refine lv_aload_n hx hb dL_law_375 rfl (lv_at hl 0 rfl) ?_
  refine lv_iload_n hx hb dL_law_376 rfl (lv_at hl 3 rfl) ?_
  refine lv_iconst (v := nI 1) hx hb dL_law_377 (by decide) ?_
  refine lv_iadd hx hb dL_law_378 ?_
  refine lv_topi (fun z9 e9 => ?_)
  obtain rfl : z9 = nI (i + 1) := e9.trans (nI_add i 1)
  refine va_sld hx hb hX hbl hbA hS (vp_in_nI (by omega) (by omega)) dL_law_379 ?_
  refine lv_topi (fun z9 e9 => ?_)
  obtain rfl : z9 = xs (i + 1) := e9.trans (by rw [nI_clamp (by omega)])
  refine lv_aload_n hx hb dL_law_380 rfl (lv_at hl 0 rfl) ?_
  refine lv_iload_n hx hb dL_law_381 rfl (lv_at hl 3 rfl) ?_
  refine lv_iconst (v := nI 2) hx hb dL_law_382 (by decide) ?_
  refine lv_iadd hx hb dL_law_383 ?_
  refine lv_topi (fun z9 e9 => ?_)
  obtain rfl : z9 = nI (i + 2) := e9.trans (nI_add i 2)
  refine va_sld hx hb hX hbl hbA hS (vp_in_nI (by omega) (by omega)) dL_law_384 ?_
  refine lv_topi (fun z9 e9 => ?_)
  obtain rfl : z9 = xs (i + 2) := e9.trans (by rw [nI_clamp (by omega)])
  refine lx_mu (As := [.int (xs (i + 1)), .int (xs (i + 2))]) (rest := []) (b := adx 0) ⟨hx, hb, hml, hown, hts⟩ (c_X3_way l dC dI cI adx n a T H b R st O S _ (xs (i + 1)) (xs (i + 2)) hI0 hst) (cwV 2 hts (bw_V mq_ml_L_66 mq_im_X3_way mq_se_X3_way mq_in_X3 mq_co_X3_way) rfl rfl rfl (by decide +kernel) ⟨Nat.le_of_ble_eq_true rfl, Nat.le_of_ble_eq_true rfl⟩) hP hK hN hD hS hA 0 rfl rfl rfl hl.1 rfl (Nat.le_of_ble_eq_true rfl) dL_law_385 hf (fun r9 u9 Hp locs h9 hP hD hS => ?_)
  obtain ⟨h9, hst⟩ := h9
  obtain ⟨⟨st9, O9, S9⟩, rfl⟩ : ∃ z, z = u9 := ⟨_, rfl⟩
  replace hst : st9 = 1 ∨ (st9 = 0 ∧ O9 = pg_all n a b T H R) := hst
  have hP : va_P (dC, dI) classes (cw adx cI n a T H b R st9 O9 S9 ++ mw adm cI n a b T H R Oq Wy tr hd us nx) Hp := hP
  have hD : va_D (lcA s) (cw adx cI n a T H b R st9 O9 S9 ++ mw adm cI n a b T H R Oq Wy tr hd us nx) := hD
  subst h9
  refine lv_aload_n hx hb dL_law_388 rfl (lv_at hl 2 rfl) ?_
  refine lv_aload_n hx hb dL_law_389 rfl (lv_at hl 0 rfl) ?_
  refine lv_iload_n hx hb dL_law_390 rfl (lv_at hl 3 rfl) ?_
  refine lv_iconst (v := nI 1) hx hb dL_law_391 (by decide) ?_
  refine lv_iadd hx hb dL_law_392 ?_
  refine lv_topi (fun z9 e9 => ?_)
  obtain rfl : z9 = nI (i + 1) := e9.trans (nI_add i 1)
  refine va_sld hx hb hX hbl hbA hS (vp_in_nI (by omega) (by omega)) dL_law_393 ?_
  refine lv_topi (fun z9 e9 => ?_)
  obtain rfl : z9 = xs (i + 1) := e9.trans (by rw [nI_clamp (by omega)])
  refine lv_aload_n hx hb dL_law_394 rfl (lv_at hl 0 rfl) ?_
  refine lv_iload_n hx hb dL_law_395 rfl (lv_at hl 3 rfl) ?_
  refine lv_iconst (v := nI 2) hx hb dL_law_396 (by decide) ?_
  refine lv_iadd hx hb dL_law_397 ?_
  refine lv_topi (fun z9 e9 => ?_)
  obtain rfl : z9 = nI (i + 2) := e9.trans (nI_add i 2)
  refine va_sld hx hb hX hbl hbA hS (vp_in_nI (by omega) (by omega)) dL_law_398 ?_
  refine lv_topi (fun z9 e9 => ?_)
  obtain rfl : z9 = xs (i + 2) := e9.trans (by rw [nI_clamp (by omega)])
  refine lm_mu (As := [.int (xs (i + 1)), .int (xs (i + 2))]) (rest := [.int (wyF n a b T H R (xs (i + 1)) (xs (i + 2)))]) (b := adm 0) ⟨hx, hb, hml, hown, hts⟩ (c_X4_way l dC dI cI adm n a b T H R Oq Wy tr hd us nx _ (xs (i + 1)) (xs (i + 2)) hI0) (cwV 2 hts (bw_V mq_ml_L_69 mq_im_X4_way mq_se_X4_way mq_in_X4 mq_co_X4_way) rfl rfl rfl (by decide +kernel) ⟨Nat.le_of_ble_eq_true rfl, Nat.le_of_ble_eq_true rfl⟩) hP hK hN hD hS hA 0 rfl rfl rfl hl.1 rfl (Nat.le_of_ble_eq_true rfl) dL_law_399 hf (fun r9 u9 Hp locs h9 hP hD hS => ?_)
  obtain ⟨⟨O8, W8, tr9, hd9, us9, nx9⟩, rfl⟩ : ∃ z, z = u9 := ⟨_, rfl⟩
  have hP : va_P (dC, dI) classes (cw adx cI n a T H b R st9 O9 S9 ++ mw adm cI n a b T H R O8 W8 tr9 hd9 us9 nx9) Hp := hP
  have hD : va_D (lcA s) (cw adx cI n a T H b R st9 O9 S9 ++ mw adm cI n a b T H R O8 W8 tr9 hd9 us9 nx9) := hD
  subst h9
  refine lv_icmp_eq (tgt := 453) hx hb dL_law_402 (by decide) (fun _ => ?_) (fun b9 => absurd rfl b9)
  exact kk _ _ _ ⟨adx, adm, cI, n, a, T, H, b, R, st9, O9, S9, O8, W8, tr9, hd9, us9, nx9, hI0, hst, hl, hP, hD, hK, hS⟩
set_option maxHeartbeats 4000000 in
set_option maxRecDepth 100000 in
/-- spare -/
theorem law_13 {p : Program} {l : Launch} {e : Env} {s : State} {m : MethodId} {below : List Frame} {meth : Method} {c : Code} {sb L i cells slots : Nat} {xs : Nat → Int32} {dC : Nat → ClassId} {dI : Nat → Nat → Nat} {Q : State → Prop} {Hp : Heap} {locs : List Loc} {ls : Array Slot} (C : lc_C p s m c sb L xs) (hi : i + 3 ≤ L) (hL : L ≤ 1536) (hf : cells ≤ room_1.cells ∧ slots ≤ room_1.slots) (h : lc_I dC dI s sb i Hp locs ls) (kk : ∀ (Hp : Heap) (locs : List Loc) (ls : Array Slot), lc_I dC dI s sb i Hp locs ls → W p l e room_1 s m #[Value.ref sb] below meth c Hp locs cells slots Q (F0 m 453 ls [])) : W p l e room_1 s m #[Value.ref sb] below meth c Hp locs cells slots Q (F0 m 407 ls []) := by
  obtain ⟨hx, hb, hml, hown, hts, hX, hbl, hN⟩ := C
  obtain ⟨adx, adm, cI, n, a, T, H, b, R, st, O, S, Oq, Wy, tr, hd, us, nx, hI, hst, hl, hP, hD, hK, hS⟩ := h
  have hI0 := hI
  obtain ⟨n1, n7, a14, hT, hT2, hb3, hR3, hR⟩ := hI
  have hA : ∀ q : Nat, s.heap.size ≤ q → lcA s q := fun q h => h
  have hbA : ¬ lcA s sb := by show ¬ s.heap.size ≤ sb; omega
  refine lv_aload_n hx hb dL_law_407 rfl (lv_at hl 1 rfl) ?_
  refine lv_aload_n hx hb dL_law_408 rfl (lv_at hl 0 rfl) ?_
  refine lv_iload_n hx hb dL_law_409 rfl (lv_at hl 3 rfl) ?_
  refine lv_iconst (v := nI 1) hx hb dL_law_410 (by decide) ?_
  refine lv_iadd hx hb dL_law_411 ?_
  refine lv_topi (fun z9 e9 => ?_)
  obtain rfl : z9 = nI (i + 1) := e9.trans (nI_add i 1)
  refine va_sld hx hb hX hbl hbA hS (vp_in_nI (by omega) (by omega)) dL_law_412 ?_
  refine lv_topi (fun z9 e9 => ?_)
  obtain rfl : z9 = xs (i + 1) := e9.trans (by rw [nI_clamp (by omega)])
  refine lx_ro (As := [.int (xs (i + 1))]) (rest := []) (b := adx 0) ⟨hx, hb, hml, hown, hts⟩ (c_X3_spare l dC dI cI adx n a T H b R st O S (xs (i + 1)) hI0) (cwV 1 hts (bw_V mq_ml_L_70 mq_im_X3_spare mq_se_X3_spare mq_in_X3 mq_co_X3_spare) rfl rfl rfl (by decide +kernel) ⟨Nat.le_of_ble_eq_true rfl, Nat.le_of_ble_eq_true rfl⟩) hP hK hN 0 rfl rfl rfl hl.1 rfl (Nat.le_of_ble_eq_true rfl) dL_law_413 hf (fun r9 h9 => ?_)
  subst h9
  refine lv_aload_n hx hb dL_law_416 rfl (lv_at hl 2 rfl) ?_
  refine lv_aload_n hx hb dL_law_417 rfl (lv_at hl 0 rfl) ?_
  refine lv_iload_n hx hb dL_law_418 rfl (lv_at hl 3 rfl) ?_
  refine lv_iconst (v := nI 1) hx hb dL_law_419 (by decide) ?_
  refine lv_iadd hx hb dL_law_420 ?_
  refine lv_topi (fun z9 e9 => ?_)
  obtain rfl : z9 = nI (i + 1) := e9.trans (nI_add i 1)
  refine va_sld hx hb hX hbl hbA hS (vp_in_nI (by omega) (by omega)) dL_law_421 ?_
  refine lv_topi (fun z9 e9 => ?_)
  obtain rfl : z9 = xs (i + 1) := e9.trans (by rw [nI_clamp (by omega)])
  refine lm_mu (As := [.int (xs (i + 1))]) (rest := [.int (nI (ed_b (srF n a T H b R (xs (i + 1)))))]) (b := adm 0) ⟨hx, hb, hml, hown, hts⟩ (c_X4_spare l dC dI cI adm n a b T H R Oq Wy tr hd us nx _ (xs (i + 1)) hI0) (cwV 1 hts (bw_V mq_ml_L_73 mq_im_X4_spare mq_se_X4_spare mq_in_X4 mq_co_X4_spare) rfl rfl rfl (by decide +kernel) ⟨Nat.le_of_ble_eq_true rfl, Nat.le_of_ble_eq_true rfl⟩) hP hK hN hD hS hA 0 rfl rfl rfl hl.1 rfl (Nat.le_of_ble_eq_true rfl) dL_law_422 hf (fun r9 u9 Hp locs h9 hP hD hS => ?_)
  obtain ⟨⟨tr9, hd9, us9, nx9⟩, rfl⟩ : ∃ z, z = u9 := ⟨_, rfl⟩
  have hP : va_P (dC, dI) classes (cw adx cI n a T H b R st O S ++ mw adm cI n a b T H R Oq Wy tr9 hd9 us9 nx9) Hp := hP
  have hD : va_D (lcA s) (cw adx cI n a T H b R st O S ++ mw adm cI n a b T H R Oq Wy tr9 hd9 us9 nx9) := hD
  subst h9
  refine lv_icmp_eq (tgt := 453) hx hb dL_law_425 (by decide) (fun _ => ?_) (fun b9 => absurd rfl b9)
  exact kk _ _ _ ⟨adx, adm, cI, n, a, T, H, b, R, st, O, S, Oq, Wy, tr9, hd9, us9, nx9, hI0, hst, hl, hP, hD, hK, hS⟩
set_option maxHeartbeats 4000000 in
set_option maxRecDepth 100000 in
/-- most -/
theorem law_14 {p : Program} {l : Launch} {e : Env} {s : State} {m : MethodId} {below : List Frame} {meth : Method} {c : Code} {sb L i cells slots : Nat} {xs : Nat → Int32} {dC : Nat → ClassId} {dI : Nat → Nat → Nat} {Q : State → Prop} {Hp : Heap} {locs : List Loc} {ls : Array Slot} (C : lc_C p s m c sb L xs) (hi : i + 3 ≤ L) (hL : L ≤ 1536) (hf : cells ≤ room_1.cells ∧ slots ≤ room_1.slots) (h : lc_I dC dI s sb i Hp locs ls) (kk : ∀ (Hp : Heap) (locs : List Loc) (ls : Array Slot), lc_I dC dI s sb i Hp locs ls → W p l e room_1 s m #[Value.ref sb] below meth c Hp locs cells slots Q (F0 m 453 ls [])) : W p l e room_1 s m #[Value.ref sb] below meth c Hp locs cells slots Q (F0 m 430 ls []) := by
  obtain ⟨hx, hb, hml, hown, hts, hX, hbl, hN⟩ := C
  obtain ⟨adx, adm, cI, n, a, T, H, b, R, st, O, S, Oq, Wy, tr, hd, us, nx, hI, hst, hl, hP, hD, hK, hS⟩ := h
  have hI0 := hI
  obtain ⟨n1, n7, a14, hT, hT2, hb3, hR3, hR⟩ := hI
  have hA : ∀ q : Nat, s.heap.size ≤ q → lcA s q := fun q h => h
  have hbA : ¬ lcA s sb := by show ¬ s.heap.size ≤ sb; omega
  refine lv_aload_n hx hb dL_law_430 rfl (lv_at hl 1 rfl) ?_
  refine lv_aload_n hx hb dL_law_431 rfl (lv_at hl 0 rfl) ?_
  refine lv_iload_n hx hb dL_law_432 rfl (lv_at hl 3 rfl) ?_
  refine lv_iconst (v := nI 1) hx hb dL_law_433 (by decide) ?_
  refine lv_iadd hx hb dL_law_434 ?_
  refine lv_topi (fun z9 e9 => ?_)
  obtain rfl : z9 = nI (i + 1) := e9.trans (nI_add i 1)
  refine va_sld hx hb hX hbl hbA hS (vp_in_nI (by omega) (by omega)) dL_law_435 ?_
  refine lv_topi (fun z9 e9 => ?_)
  obtain rfl : z9 = xs (i + 1) := e9.trans (by rw [nI_clamp (by omega)])
  refine lx_ro (As := [.int (xs (i + 1))]) (rest := []) (b := adx 0) ⟨hx, hb, hml, hown, hts⟩ (c_X3_most l dC dI cI adx n a T H b R st O S (xs (i + 1)) hI0) (cwV 1 hts (bw_V mq_ml_L_74 mq_im_X3_most mq_se_X3_most mq_in_X3 mq_co_X3_most) rfl rfl rfl (by decide +kernel) ⟨Nat.le_of_ble_eq_true rfl, Nat.le_of_ble_eq_true rfl⟩) hP hK hN 0 rfl rfl rfl hl.1 rfl (Nat.le_of_ble_eq_true rfl) dL_law_436 hf (fun r9 h9 => ?_)
  subst h9
  refine lv_aload_n hx hb dL_law_439 rfl (lv_at hl 2 rfl) ?_
  refine lv_aload_n hx hb dL_law_440 rfl (lv_at hl 0 rfl) ?_
  refine lv_iload_n hx hb dL_law_441 rfl (lv_at hl 3 rfl) ?_
  refine lv_iconst (v := nI 1) hx hb dL_law_442 (by decide) ?_
  refine lv_iadd hx hb dL_law_443 ?_
  refine lv_topi (fun z9 e9 => ?_)
  obtain rfl : z9 = nI (i + 1) := e9.trans (nI_add i 1)
  refine va_sld hx hb hX hbl hbA hS (vp_in_nI (by omega) (by omega)) dL_law_444 ?_
  refine lv_topi (fun z9 e9 => ?_)
  obtain rfl : z9 = xs (i + 1) := e9.trans (by rw [nI_clamp (by omega)])
  refine lm_ro (As := [.int (xs (i + 1))]) (rest := [.int (moF n a T H (xs (i + 1)))]) (b := adm 0) ⟨hx, hb, hml, hown, hts⟩ (c_X4_most l dC dI cI adm n a b T H R Oq Wy tr hd us nx (xs (i + 1)) hI0) (cwV 1 hts (bw_V mq_ml_L_77 mq_im_X4_most mq_se_X4_most mq_in_X4 mq_co_X4_most) rfl rfl rfl (by decide +kernel) ⟨Nat.le_of_ble_eq_true rfl, Nat.le_of_ble_eq_true rfl⟩) hP hK hN 0 rfl rfl rfl hl.1 rfl (Nat.le_of_ble_eq_true rfl) dL_law_445 hf (fun r9 h9 => ?_)
  subst h9
  refine lv_icmp_eq (tgt := 453) hx hb dL_law_448 (by decide) (fun _ => ?_) (fun b9 => absurd rfl b9)
  exact kk _ _ _ ⟨adx, adm, cI, n, a, T, H, b, R, st, O, S, Oq, Wy, tr, hd, us, nx, hI0, hst, hl, hP, hD, hK, hS⟩

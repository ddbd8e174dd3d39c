/-! THE CLAIM OUT OF ONE WALK OF THE LAW'S BODY. Your part is whole_start (and what it stands on); all else here is the same for every law, but numbers. -/
def R_law : String := "BranchPackerLaw"
def lw_P (b : Addr) (xs : List Int32) (args : Array Value) (s : State) : Prop := args = #[.ref b] ∧ s.IntsAt b xs ∧ xs.length ≤ 1536 ∧ (Jvm.Cond.and given_1 narrow_1).before args s = true
def lw_Q (_ : Array Value) (s : State) (o : Outcome) (t : State) : Prop := o = .returned (some (.int 1)) ∧ Framed s o t [] 19 327
def lw_Z (below : List Frame) (a : Array Value) (s : State) : State → Prop := fun t => ∃ o, t.status = .running ∧ Ended t below o ∧ lw_Q a s o t
/-- the law's own end, with 1 on the stack, nothing written that was there before, its room as the claim has it -/
theorem lw_ret {p : Program} {l : Launch} {e : Env} {s : State} {m : MethodId} {below : List Frame} {meth : Method} {c : Code} {b : Nat} (hx : p.tables.exec = Jvm.exec) (hb : c.code = code) (hr : meth.sig.returnType = ret) (hlocks : meth.locks = false) {pc : Nat} {H : Heap} {ls : Array Slot} (hdg : decode code pc = .ok (.ireturn, 1)) : W p l e room_1 s m #[Value.ref b] below meth c H [] 19 327 (lw_Z below #[Value.ref b] s) (F0 m pc ls [.int 1]) := by
  intro T hT X
  obtain ⟨fs, hret, hrun, hended, hW, hframe⟩ := X.leave (v := some (.int 1)) (hlocks := hlocks) (fun h => by rw [hr] at h; cases h)
  have hmeth' : T.vm.method? m = some meth := X.method'
  refine ⟨T.setFrames fs, ?_, .returned (some (.int 1)), hrun, hended, rfl, ⟨_, rfl⟩, hW, hframe⟩
  jvm_step X.here [X.here.top, hx, hb, hdg, hmeth', hr, ret, narrow_b1]
  (try refine ⟨rfl, ?_⟩); (try refine ⟨rfl, ?_⟩)
  first | (intro acts; rw [hret _ acts rfl rfl rfl]) | rw [hret _ _ rfl rfl rfl]
  exact Steps.refl _
/-- what holds at the law's entry: the machine, the code, the tables' words (any of lw_tbl by 'hts w (by decide +kernel)'), the script of L ints xs at the cell b, what the Statement gives of the start (any of its parts by flat_of_before) -/
def lw_At (p : Program) (s : State) (m : MethodId) (meth : Method) (c : Code) (b L : Nat) (xs : Nat → Int32) : Prop :=
  p.tables.exec = Jvm.exec ∧ c.code = code ∧ meth.sig.returnType = ret ∧ c.maxLocals = 4 ∧ s.vm.findClass R_law = some m.cls ∧ (∀ w ∈ lw_tbl, w.before #[Value.ref b] s = true) ∧ va_X b L xs s s.heap ∧ b < s.heap.size ∧ meth.locks = false ∧ (Jvm.Cond.and given_1 narrow_1).before #[Value.ref b] s = true
-- ===== YOUR PART BEGINS =====
set_option maxHeartbeats 8000000 in
set_option maxRecDepth 100000 in
/-- YOUR PART: from the entry, for every script of at most 1536 ints, the law comes to its end with true -/
theorem whole_start {p : Program} {e : Env} {s : State} {m : MethodId} {below : List Frame} {meth : Method} {c : Code} (l : Launch) {b L : Nat} {xs : Nat → Int32} (hL : L ≤ 1536) (C0 : lw_At p s m meth c b L xs) : W p l e room_1 s m #[Value.ref b] below meth c s.heap [] 0 0 (lw_Z below #[Value.ref b] s) (entryFrame m ([Value.ref b] : List Value).toArray 4) := by
  obtain ⟨hx, hb, hr, hml, hown0, htb, hX, hbl, hlocks, hgv⟩ := C0
  have hown : s.vm.findClass RL = some m.cls := hown0
  have hw : ∀ w ∈ bigW, w.before #[Value.ref b] s = true := fun w h => htb w (bw_l h)
  have hts : ∀ w ∈ (Cond.initialized RL :: bigW), w.before #[Value.ref b] s = true := fun w h => (List.mem_cons.mp h).elim (fun z => by rw [z]; exact hw _ mq_in_L) (hw w)
  have hN : nx_ok s := lc_nx htb
  have C : lc_C p s m c b L xs := ⟨hx, hb, hml, hown, hts, hX, hbl, hN⟩
  obtain ⟨c0, i0, k0⟩ := u_known (C := RX0) (T := TX0) (N := 2) hw in_X0 (hw _ mq_ins_X0)
  obtain ⟨c1, i1, k1⟩ := u_known (C := RX1) (T := TX1) (N := 4) hw in_X1 (hw _ mq_ins_X1)
  obtain ⟨c2, i2, k2⟩ := u_known (C := RX2) (T := TX2) (N := 3) hw in_X2 (hw _ mq_ins_X2)
  obtain ⟨c3, i3, k3⟩ := u_known (C := RX3) (T := TX3) (N := 3) hw in_X3 (hw _ mq_ins_X3)
  obtain ⟨c4, i4, k4⟩ := u_known (C := RX4) (T := TX4) (N := 12) hw in_X4 (hw _ mq_ins_X4)
  obtain ⟨dC, hdC⟩ : ∃ f : Nat → ClassId, f = fun k => match k with | 0 => c0 | 1 => c1 | 2 => c2 | 3 => c3 | _ => c4 := ⟨_, rfl⟩
  obtain ⟨dI, hdI⟩ : ∃ f : Nat → Nat → Nat, f = fun k => match k with | 0 => i0 | 1 => i1 | 2 => i2 | 3 => i3 | _ => i4 := ⟨_, rfl⟩
  have hK : va_K (dC, dI) classes [] s := by
    refine ⟨fun k q hq => ?_, fun k q hq => by cases hq⟩
    subst hdC
    subst hdI
    match k with
    | 0 => obtain rfl := Option.some.inj hq; exact k0
    | 1 => obtain rfl := Option.some.inj hq; exact k1
    | 2 => obtain rfl := Option.some.inj hq; exact k2
    | 3 => obtain rfl := Option.some.inj hq; exact k3
    | 4 => obtain rfl := Option.some.inj hq; exact k4
    | k + 5 => exact absurd hq (by intro z; cases z)
  clear hdC hdI k0 k1 k2 k3 k4
  have hA : ∀ q : Nat, s.heap.size ≤ q → lcA s q := fun q h => h
  have hbA : ¬ lcA s b := by show ¬ s.heap.size ≤ b; omega
  have hP : va_P (dC, dI) classes [] s.heap := fun k q hk => by cases hk
  have hD : va_D (lcA s) [] := ⟨fun i j p q hi => (by cases hi), fun k q hk => (by cases hk)⟩
  have hS : va_S (lcA s) s.heap s.heap [] := va_S.rf
  have hl := lv_entry ([.ref b]) (n := 4) (Nat.le_of_ble_eq_true rfl)
  rw [lg_entry_eq]
  generalize (lg_sl ([.ref b]) ++ List.replicate (4 - (lg_sl ([.ref b])).length) Slot.unset).toArray = ls at hl ⊢
  have hl : lv_has ls 4 [(0, .ref b)] := hl
  refine va_new (ci := 3) (fs := [.null, .null, .null]) (C := RX3) (T := TX3) (N := 3) hx hb hw in_X3 tyX3 tyX3_ok hown (hw _ mq_cl_L_7) (hw _ mq_ins_X3) (hw _ mq_in_X3) hK hP hD hS hA rfl (fun j hj => by rcases (show j = 0 ∨ j = 1 ∨ j = 2 by omega) with rfl | rfl | rfl <;> rfl) (Nat.le_of_ble_eq_true rfl) (Nat.le_of_ble_eq_true rfl) dL_law_0 (fun q0 Hp hP hD hS => ?_)
  have hP : va_P (dC, dI) classes [(q0, .inr (3, [.null, .null, .null]))] Hp := hP
  have hD : va_D (lcA s) [(q0, .inr (3, [.null, .null, .null]))] := hD
  refine lv_dup hx hb dL_law_3 rfl ?_
  have hPc := hP.sub (ws' := [(q0, .inr (3, [.null, .null, .null]))]) [0] rfl
  have hDc := hD.sub (ws' := [(q0, .inr (3, [.null, .null, .null]))]) [0] (by decide) rfl
  have hKc := hK.sub (tys' := []) [] rfl
  have hFc := va_free (wc := [(q0, .inr (3, [.null, .null, .null]))]) hD hS hA [0] rfl
  refine va_callv (va_runI (As := []) (rest := [.ref q0]) ⟨hx, hb, hml, hown, hts⟩ (c_X3_init l dC dI q0 Hp.size) (cwI 0 hts (bw_c mq_co_X3_init) rfl rfl rfl (hw _ mq_in_X3) (hw _ mq_ml_L_9) (hw _ mq_im_X3_init) rfl (by decide +kernel) ⟨Nat.le_of_ble_eq_true rfl, Nat.le_of_ble_eq_true rfl⟩) ⟨mu_blind, mu_pre hPc hKc hN hDc⟩ rfl rfl hl.1 rfl (lv_room (Nat.le_of_ble_eq_true rfl)) dL_law_4 ⟨Nat.le_of_ble_eq_true rfl, Nat.le_of_ble_eq_true rfl⟩) hS (fun q _ h => hFc q h) hFc (fun u t Hq locs ht hvm h5 hB hz1 hk1 hS => ?_)
  obtain ⟨⟨q1, q2, q3, q4, q5, q6, q7, q8, cI⟩, rfl⟩ : ∃ z, z = u := ⟨_, rfl⟩
  obtain ⟨hP1, hK1, hD1⟩ := hB
  rw [ht] at hP1
  have hK1 : va_K (dC, dI) classes [(cI, .int)] s := va_K.moved hvm.symm hK1
  obtain ⟨hP, hD⟩ := va_join (wr := []) (w1 := [(q0, .inr (3, [.ref q1, .ref q4, .ref q6])), (q1, .inr (1, [.ref q2, .ref q3, .int 1, .int 0])), (q2, .inl (cI, 14, .inl (fun _ => 0))), (q3, .inl (cI, 14, .inl (fun _ => 0))), (q4, .inr (0, [.ref q5, .int 0])), (q5, .inl (cI, 3, .inl (fun _ => 0))), (q6, .inr (2, [.ref q7, .ref q8, .int 1])), (q7, .inl (cI, 14, .inl (fun _ => 0))), (q8, .inl (cI, 128, .inl (fun _ => 0)))]) hP hD [0] [] rfl rfl (by decide) (by decide) hk1 hFc hP1 hD1
  have hK := hK1
  generalize Hq = Hp at hP hS ⊢
  have hP : va_P (dC, dI) classes [(q0, .inr (3, [.ref q1, .ref q4, .ref q6])), (q1, .inr (1, [.ref q2, .ref q3, .int 1, .int 0])), (q2, .inl (cI, 14, .inl (fun _ => 0))), (q3, .inl (cI, 14, .inl (fun _ => 0))), (q4, .inr (0, [.ref q5, .int 0])), (q5, .inl (cI, 3, .inl (fun _ => 0))), (q6, .inr (2, [.ref q7, .ref q8, .int 1])), (q7, .inl (cI, 14, .inl (fun _ => 0))), (q8, .inl (cI, 128, .inl (fun _ => 0)))] Hp := hP
  have hD : va_D (lcA s) [(q0, .inr (3, [.ref q1, .ref q4, .ref q6])), (q1, .inr (1, [.ref q2, .ref q3, .int 1, .int 0])), (q2, .inl (cI, 14, .inl (fun _ => 0))), (q3, .inl (cI, 14, .inl (fun _ => 0))), (q4, .inr (0, [.ref q5, .int 0])), (q5, .inl (cI, 3, .inl (fun _ => 0))), (q6, .inr (2, [.ref q7, .ref q8, .int 1])), (q7, .inl (cI, 14, .inl (fun _ => 0))), (q8, .inl (cI, 128, .inl (fun _ => 0)))] := hD
  refine lv_astore_n (lv' := [(1, .ref q0), (0, .ref b)]) hx hb dL_law_7 rfl hl (by decide) rfl (fun ls hl => ?_)
  refine va_new (ci := 4) (fs := [.int 0, .int 0, .int 0, .null, .null, .null, .null, .null, .null, .null, .null, .null]) (C := RX4) (T := TX4) (N := 12) hx hb hw in_X4 tyX4 tyX4_ok hown (hw _ mq_cl_L_10) (hw _ mq_ins_X4) (hw _ mq_in_X4) hK hP hD hS hA rfl (fun j hj => by rcases (show j = 0 ∨ j = 1 ∨ j = 2 ∨ j = 3 ∨ j = 4 ∨ j = 5 ∨ j = 6 ∨ j = 7 ∨ j = 8 ∨ j = 9 ∨ j = 10 ∨ j = 11 by omega) with rfl | rfl | rfl | rfl | rfl | rfl | rfl | rfl | rfl | rfl | rfl | rfl <;> rfl) (Nat.le_of_ble_eq_true rfl) (Nat.le_of_ble_eq_true rfl) dL_law_8 (fun m0 Hp hP hD hS => ?_)
  have hP : va_P (dC, dI) classes [(q0, .inr (3, [.ref q1, .ref q4, .ref q6])), (q1, .inr (1, [.ref q2, .ref q3, .int 1, .int 0])), (q2, .inl (cI, 14, .inl (fun _ => 0))), (q3, .inl (cI, 14, .inl (fun _ => 0))), (q4, .inr (0, [.ref q5, .int 0])), (q5, .inl (cI, 3, .inl (fun _ => 0))), (q6, .inr (2, [.ref q7, .ref q8, .int 1])), (q7, .inl (cI, 14, .inl (fun _ => 0))), (q8, .inl (cI, 128, .inl (fun _ => 0))), (m0, .inr (4, [.int 0, .int 0, .int 0, .null, .null, .null, .null, .null, .null, .null, .null, .null]))] Hp := hP
  have hD : va_D (lcA s) [(q0, .inr (3, [.ref q1, .ref q4, .ref q6])), (q1, .inr (1, [.ref q2, .ref q3, .int 1, .int 0])), (q2, .inl (cI, 14, .inl (fun _ => 0))), (q3, .inl (cI, 14, .inl (fun _ => 0))), (q4, .inr (0, [.ref q5, .int 0])), (q5, .inl (cI, 3, .inl (fun _ => 0))), (q6, .inr (2, [.ref q7, .ref q8, .int 1])), (q7, .inl (cI, 14, .inl (fun _ => 0))), (q8, .inl (cI, 128, .inl (fun _ => 0))), (m0, .inr (4, [.int 0, .int 0, .int 0, .null, .null, .null, .null, .null, .null, .null, .null, .null]))] := hD
  refine lv_dup hx hb dL_law_11 rfl ?_
  have hPc := hP.sub (ws' := [(m0, .inr (4, [.int 0, .int 0, .int 0, .null, .null, .null, .null, .null, .null, .null, .null, .null]))]) [9] rfl
  have hDc := hD.sub (ws' := [(m0, .inr (4, [.int 0, .int 0, .int 0, .null, .null, .null, .null, .null, .null, .null, .null, .null]))]) [9] (by decide) rfl
  have hKc := hK.sub (tys' := []) [] rfl
  have hFc := va_free (wc := [(m0, .inr (4, [.int 0, .int 0, .int 0, .null, .null, .null, .null, .null, .null, .null, .null, .null]))]) hD hS hA [9] rfl
  refine va_callv (va_runI (As := []) (rest := [.ref m0]) ⟨hx, hb, hml, hown, hts⟩ (c_X4_init l dC dI m0 Hp.size) (cwI 0 hts (bw_c mq_co_X4_init) rfl rfl rfl (hw _ mq_in_X4) (hw _ mq_ml_L_12) (hw _ mq_im_X4_init) rfl (by decide +kernel) ⟨Nat.le_of_ble_eq_true rfl, Nat.le_of_ble_eq_true rfl⟩) ⟨mu_blind, mu_pre hPc hKc hN hDc⟩ rfl rfl hl.1 rfl (lv_room (Nat.le_of_ble_eq_true rfl)) dL_law_12 ⟨Nat.le_of_ble_eq_true rfl, Nat.le_of_ble_eq_true rfl⟩) hS (fun q _ h => hFc q h) hFc (fun u t Hq locs ht hvm h5 hB hz1 hk1 hS => ?_)
  obtain ⟨⟨m1, m2, m3, m4, m5, m6, m7, m8, m9, cB⟩, rfl⟩ : ∃ z, z = u := ⟨_, rfl⟩
  obtain ⟨hP1, hK1, hD1⟩ := hB
  rw [ht] at hP1
  have hK1 : va_K (dC, dI) classes [(cB, .int)] s := va_K.moved hvm.symm hK1
  obtain rfl : cI = cB := Option.some.inj ((va_nm_int (hK.2 0 _ rfl).2).symm.trans (va_nm_int (hK1.2 0 _ rfl).2))
  obtain ⟨hP, hD⟩ := va_join (wr := [(q0, .inr (3, [.ref q1, .ref q4, .ref q6])), (q1, .inr (1, [.ref q2, .ref q3, .int 1, .int 0])), (q2, .inl (cI, 14, .inl (fun _ => 0))), (q3, .inl (cI, 14, .inl (fun _ => 0))), (q4, .inr (0, [.ref q5, .int 0])), (q5, .inl (cI, 3, .inl (fun _ => 0))), (q6, .inr (2, [.ref q7, .ref q8, .int 1])), (q7, .inl (cI, 14, .inl (fun _ => 0))), (q8, .inl (cI, 128, .inl (fun _ => 0)))]) (w1 := [(m0, .inr (4, [.int 1, .int 0, .int 0, .ref m1, .ref m2, .ref m3, .ref m4, .ref m5, .ref m6, .ref m7, .ref m8, .ref m9])), (m1, .inl (cI, 14, .inl (fun _ => 0))), (m2, .inl (cI, 14, .inl (fun _ => 0))), (m3, .inl (cI, 3, .inl (fun _ => 0))), (m4, .inl (cI, 14, .inl (fun _ => 0))), (m5, .inl (cI, 21, .inl (fun _ => 0))), (m6, .inl (cI, 16, .inl (fun _ => 0))), (m7, .inl (cI, 16, .inl (fun _ => 0))), (m8, .inl (cI, 16, .inl (fun _ => 0))), (m9, .inl (cI, 16, .inl (fun _ => 0)))]) hP hD [9] [0, 1, 2, 3, 4, 5, 6, 7, 8] rfl rfl (by decide) (by decide) hk1 hFc hP1 hD1
  have hK := hK1
  generalize Hq = Hp at hP hS ⊢
  have hP : va_P (dC, dI) classes (cw (fun k => [q0, q1, q2, q3, q4, q5, q6, q7, q8].getD k 0) cI 1 0 (fun _ => 0) (fun _ => 0) 0 (fun _ => 0) 1 (fun _ => 0) (fun _ => 0) ++ mw (fun k => [m0, m1, m2, m3, m4, m5, m6, m7, m8, m9].getD k 0) cI 1 0 0 (fun _ => 0) (fun _ => 0) (fun _ => 0) (fun _ => 0) (fun _ => 0) (fun _ => 0) (fun _ => 0) (fun _ => 0) (fun _ => 0)) Hp := hP
  have hD : va_D (lcA s) (cw (fun k => [q0, q1, q2, q3, q4, q5, q6, q7, q8].getD k 0) cI 1 0 (fun _ => 0) (fun _ => 0) 0 (fun _ => 0) 1 (fun _ => 0) (fun _ => 0) ++ mw (fun k => [m0, m1, m2, m3, m4, m5, m6, m7, m8, m9].getD k 0) cI 1 0 0 (fun _ => 0) (fun _ => 0) (fun _ => 0) (fun _ => 0) (fun _ => 0) (fun _ => 0) (fun _ => 0) (fun _ => 0) (fun _ => 0)) := hD
  refine lv_astore_n (lv' := [(2, .ref m0), (1, .ref q0), (0, .ref b)]) hx hb dL_law_15 rfl hl (by decide) rfl (fun ls hl => ?_)
  refine lv_iconst (v := nI 0) hx hb dL_law_16 (by decide) ?_
  refine lv_istore_n (lv' := [(3, .int (nI 0)), (2, .ref m0), (1, .ref q0), (0, .ref b)]) hx hb dL_law_17 rfl hl (by decide) rfl (fun ls hl => ?_)
  refine W.widen (k := 19) (n := 327) (Nat.le_of_ble_eq_true rfl) (Nat.le_of_ble_eq_true rfl) ?_
  have hf : 19 ≤ room_1.cells ∧ 327 ≤ room_1.slots := ⟨Nat.le_of_ble_eq_true rfl, Nat.le_of_ble_eq_true rfl⟩
  have hI0 : lc_I dC dI s b 0 Hp locs ls := ⟨(fun k => [q0, q1, q2, q3, q4, q5, q6, q7, q8].getD k 0), (fun k => [m0, m1, m2, m3, m4, m5, m6, m7, m8, m9].getD k 0), cI, 1, 0, (fun _ => 0), (fun _ => 0), 0, (fun _ => 0), 1, (fun _ => 0), (fun _ => 0), (fun _ => 0), (fun _ => 0), (fun _ => 0), (fun _ => 0), (fun _ => 0), (fun _ => 0), st_0, Or.inl rfl, lv_sub hl [3, 2, 1, 0] rfl, hP, hD, hK, hS⟩
  refine wl_loopH (fun k9 Hp locs ls => ∃ i, 1539 - i = k9 ∧ i ≤ L + 2 ∧ lc_I dC dI s b i Hp locs ls) ?_ _ ⟨0, rfl, by omega, hI0⟩
  clear hP hD hS hl hI0 hK
  intro k9 Hp locs ls ih9 h9
  obtain ⟨i, k9e, hi, hI⟩ := h9
  subst k9e
  have tail : i + 3 ≤ L → ∀ (Hp : Heap) (locs : List Loc) (ls : Array Slot), lc_I dC dI s b i Hp locs ls → W p l e room_1 s m #[Value.ref b] below meth c Hp locs 19 327 (lw_Z below #[Value.ref b] s) (F0 m 453 ls []) := by
    intro h3 Hp locs ls h
    obtain ⟨adx, adm, cI, n, a, T, H, bb, R, st, O, S, Oq, Wy, tr, hd, us, nx, j1, j2, hl, j3, j4, j5, j6⟩ := h
    refine lv_iinc (k := 3) (v := nI (i + 3)) (lv' := [(3, .int (nI (i + 3))), (0, .ref b), (1, .ref (adx 0)), (2, .ref (adm 0))]) hx hb dL_law_453 hl rfl (nI_add i 3) (by decide) rfl (fun ls hl => ?_)
    refine lv_goto (tgt := 18) hx hb dL_law_456 (by decide) ?_
    exact ih9 _ _ _ _ (by omega) ⟨i + 3, rfl, by omega, adx, adm, cI, n, a, T, H, bb, R, st, O, S, Oq, Wy, tr, hd, us, nx, j1, j2, lv_sub hl [1, 2, 3, 0] rfl, j3, j4, j5, j6⟩
  have hI1 := hI
  obtain ⟨adx, adm, cI, n, a, T, H, bb, R, st, O, S, Oq, Wy, tr, hd, us, nx, j1, j2, hl, j3, j4, j5, hS⟩ := hI
  refine lv_iload_n hx hb dL_law_18 rfl (lv_at hl 3 rfl) ?_
  refine lv_aload_n hx hb dL_law_19 rfl (lv_at hl 0 rfl) ?_
  refine va_slen hx hb hX hbl hbA hS dL_law_20 ?_
  refine lv_iconst (v := nI 3) hx hb dL_law_21 (by decide) ?_
  refine lv_isub hx hb dL_law_22 ?_
  refine lv_icmp_gt (tgt := 459) hx hb dL_law_23 (by decide) (fun b23 => ?_) (fun b23 => ?_)
  · refine lv_iconst (v := 1) hx hb dL_law_459 (by decide) ?_
    refine va_forget hS.2.2 ?_
    exact lw_ret hx hb hr hlocks dL_law_460
  · have h3 : i + 3 ≤ L := Nat.le_of_not_lt (fun z => b23 ((lc_gt hL (by omega)).mpr z))
    refine lv_aload_n hx hb dL_law_26 rfl (lv_at hl 0 rfl) ?_
    refine lv_iload_n hx hb dL_law_27 rfl (lv_at hl 3 rfl) ?_
    refine va_sld hx hb hX hbl hbA hS (vp_in_nI (by omega) (by omega)) dL_law_28 ?_
    refine lv_bipush (v := 15) hx hb dL_law_29 (by decide) ?_
    refine lv_iand hx hb dL_law_31 ?_
    refine lv_topi (fun z9 e9 => ?_)
    obtain ⟨j, hj, ej⟩ := pk_andE (xs (nI i).toNatClampNeg) (m := 15) 4 (by decide)
    obtain rfl : z9 = nI j := e9.trans ej
    match j, hj with
    | 0, _ =>
      refine lv_tableIn (off := 76) (tgt := 108) hx hb dL_law_32 (by decide) (by decide) rfl (by decide) ?_
      exact law_0 C h3 hL hf hI1 (tail h3)
    | 1, _ =>
      refine lv_tableIn (off := 99) (tgt := 131) hx hb dL_law_32 (by decide) (by decide) rfl (by decide) ?_
      exact law_1 C h3 hL hf hI1 (tail h3)
    | 2, _ =>
      refine lv_tableIn (off := 132) (tgt := 164) hx hb dL_law_32 (by decide) (by decide) rfl (by decide) ?_
      exact law_2 C h3 hL hf hI1 (tail h3)
    | 3, _ =>
      refine lv_tableIn (off := 155) (tgt := 187) hx hb dL_law_32 (by decide) (by decide) rfl (by decide) ?_
      exact law_3 C h3 hL hf hI1 (tail h3)
    | 4, _ =>
      refine lv_tableIn (off := 178) (tgt := 210) hx hb dL_law_32 (by decide) (by decide) rfl (by decide) ?_
      exact law_4 C h3 hL hf hI1 (tail h3)
    | 5, _ =>
      refine lv_tableIn (off := 191) (tgt := 223) hx hb dL_law_32 (by decide) (by decide) rfl (by decide) ?_
      exact law_5 C h3 hL hf hI1 (tail h3)
    | 6, _ =>
      refine lv_tableIn (off := 214) (tgt := 246) hx hb dL_law_32 (by decide) (by decide) rfl (by decide) ?_
      exact law_6 C h3 hL hf hI1 (tail h3)
    | 7, _ =>
      refine lv_tableIn (off := 247) (tgt := 279) hx hb dL_law_32 (by decide) (by decide) rfl (by decide) ?_
      exact law_7 C h3 hL hf hI1 (tail h3)
    | 8, _ =>
      refine lv_tableIn (off := 270) (tgt := 302) hx hb dL_law_32 (by decide) (by decide) rfl (by decide) ?_
      exact law_8 C h3 hL hf hI1 (tail h3)
    | 9, _ =>
      refine lv_tableIn (off := 293) (tgt := 325) hx hb dL_law_32 (by decide) (by decide) rfl (by decide) ?_
      exact law_9 C h3 hL hf hI1 (tail h3)
    | 10, _ =>
      refine lv_tableIn (off := 306) (tgt := 338) hx hb dL_law_32 (by decide) (by decide) rfl (by decide) ?_
      exact law_10 C h3 hL hf hI1 (tail h3)
    | 11, _ =>
      refine lv_tableIn (off := 319) (tgt := 351) hx hb dL_law_32 (by decide) (by decide) rfl (by decide) ?_
      exact law_11 C h3 hL hf hI1 (tail h3)
    | 12, _ =>
      refine lv_tableIn (off := 342) (tgt := 374) hx hb dL_law_32 (by decide) (by decide) rfl (by decide) ?_
      exact law_12 C h3 hL hf hI1 (tail h3)
    | 13, _ =>
      refine lv_tableIn (off := 375) (tgt := 407) hx hb dL_law_32 (by decide) (by decide) rfl (by decide) ?_
      exact law_13 C h3 hL hf hI1 (tail h3)
    | 14, _ =>
      refine lv_tableIn (off := 398) (tgt := 430) hx hb dL_law_32 (by decide) (by decide) rfl (by decide) ?_
      exact law_14 C h3 hL hf hI1 (tail h3)
    | 15, _ =>
      refine lv_tableOut (tgt := 453) hx hb dL_law_32 (by decide) (by decide) ?_
      exact tail h3 _ _ _ hI1
    | j + 16, hj => exact absurd hj (by omega)
-- ===== YOUR PART ENDS =====
set_option maxHeartbeats 4000000 in
theorem lw_walk (l : Launch) (b : Addr) (xs : List Int32) : MetFree l x (headSpec (Jvm.Cond.code x code maxLocals ret :: tables_1) room_1) (lw_P b xs) (fun _ _ _ _ _ => True) lw_Q := by
  refine MetFree.of_bodyS (code := code) (maxLocals := maxLocals) (ret := ret) (by decide) ?_ ?_
  · intro args s m h hn
    obtain ⟨meth, c, h1, h2, h3, h4, h5, h6, -, -⟩ := Cond.code_spec hn (atoms_spec (ws := Jvm.Cond.code x code maxLocals ret :: tables_1) h _ List.mem_cons_self)
    exact ⟨meth, c, h1, h2, h3, h4, h5, h6⟩
  · intro p e s m args below meth c s₁ B hml0 hP _
    obtain ⟨rfl, hx, hbd, hgv⟩ := hP
    obtain ⟨scr, harrAt, hlist, hof, hsmall⟩ := hx
    obtain ⟨hcb, hkn, -, -⟩ := State.arrayAt?_spec harrAt
    have hown : s.vm.findClass R_law = some m.cls := findClass_of_methodNamed B.named
    have hts0 : ∀ c ∈ (Jvm.Cond.code x code maxLocals ret :: tables_1), c.before #[Value.ref b] s = true := atoms_spec (ws := Jvm.Cond.code x code maxLocals ret :: tables_1) B.pre
    have hts : ∀ w ∈ lw_tbl, w.before #[Value.ref b] s = true := k2_hts_sels lw_privs (fun w hw => hts0 w (List.mem_cons_of_mem _ hw)) lw_privs_ok
    have hml : c.maxLocals = 4 := B.maxLocals_eq (hts0 _ List.mem_cons_self)
    have X₀ : Stand p l e room_1 s m #[Value.ref b] below meth c s₁ [] 0 0 := Stand.of_body B
    have hh0 : s₁.heap = s.heap := by rw [B.state]; rfl
    have hsz : scr.slots.size = xs.length := by rw [← Array.length_toList, hlist, List.length_map]
    have hval : ∀ j : Nat, j < xs.length → scr.slots[j]? = some (.int (xs.getD j 0)) := fun j hj => by
      rw [← Array.getElem?_toList, hlist]
      simp [hj]
    have hbl : b < s.heap.size := (Array.getElem?_eq_some_iff.mp hcb).1
    have hX : va_X b xs.length (fun j => xs.getD j 0) s s.heap := ⟨scr, hcb, hof, hkn, hsz, hval⟩
    have K : W p l e room_1 s m #[Value.ref b] below meth c s₁.heap [] 0 0 (lw_Z below #[Value.ref b] s) (entryFrame m ([Value.ref b] : List Value).toArray 4) := by
      rw [hh0]
      exact whole_start l hbd ⟨B.exec, B.bytes, B.returns, hml, hown, hts, hX, hbl, B.notSynchronized, hgv⟩
    obtain ⟨t, a1, o, b1, b2, b3⟩ := K s₁ rfl X₀
    exact ⟨t, o, a1, b1, b2, b3⟩
theorem lw_pre_spec {args : Array Value} {s : State} (h : (Jvm.Cond.and given_1 narrow_1).before args s = true) (hr : rest_1_c.before args s = true) : ∃ (b : Addr) (xs : List Int32), lw_P b xs args s := by
  have hs := flat_of_before _ h
  have hq := flat_of_before _ hr
  have hc : (Cond.count 1).before args s = true := hs _ (by decide +kernel)
  have harr : (Cond.arrayOf (.arg 0) .int).before args s = true := hs _ (by decide +kernel)
  have hle : (Cond.le (.length (.arg 0)) (.int 1536)).before args s = true := hs _ (by decide +kernel)
  have hlen : (Cond.isInt (.length (.arg 0))).before args s = true := hq _ (by decide +kernel)
  have hall : (Cond.all (.arg 0) (.isInt (.elem (.arg 0) (.index 0)))).before args s = true := hq _ (by decide +kernel)
  obtain ⟨b, xs, hb, hx⟩ := State.ints_of_pre rfl harr hlen hall
  have hsm : xs.length < 2 ^ 31 := hx.choose_spec.2.2.2
  have hev : (Term.length (.arg 0)).eval args s none [] s = some (.int xs.length.toInt32) := hx.length_eval hb
  have hv := Cond.le_ints hev (show (Term.int 1536).eval args s none [] s = some (.int 1536) from rfl)
  have hd : xs.length.toInt32 ≤ 1536 := by
    simpa [Cond.before, Cond.holds, hv] using hle
  have hN : xs.length ≤ 1536 := (Int32.ofNat_le_ofNat hsm (by decide)).mp (show Int32.ofNat xs.length ≤ Int32.ofNat 1536 from hd)
  exact ⟨b, xs, Cond.one_arg hc (show args[0]? = some (.ref b) from hb), hx, hN, h⟩
theorem lw_comes (l : Launch) : Comes l x (Jvm.Cond.code x code maxLocals ret :: tables_1) room_1 (fun tb e args s => Calls_1 tb e args s ∧ rest_1 tb e args s ∧ Pre_1 tb e args s)
    (fun _ _ args s o t => lw_Q args s o t) := by
  intro p e ha hc hk s m args below hf hfit hheap happ hpre
  obtain ⟨b, xs, hP⟩ := lw_pre_spec hpre.2.2 hpre.2.1
  obtain ⟨k, o, h1, h2, h3, hQ⟩ := lw_walk l b xs p e ha hc hk s m args below hf ((Spec.applies_iff_loose hf).mp happ).1 hP trivial
  exact ⟨k, o, h1, h2, h3, hQ⟩
theorem lw_frame {s t : State} {o : Outcome} {args : Array Value} (h : Framed s o t [] 19 327) :
    Framed s o t (fieldLocs frame_1_writes args s ++ arrayLocs frame_1_arrays args s ++ staticLocs frame_1_statics s) 19 327 := h
theorem lw_limb (L : Cond) (hL : ∀ (args : Array Value) (s t : State), L.after args s (.returned (some (.int 1))) t = true) :
    ArmFor flags0 classFile x code maxLocals ret World_1 tables_1 room_1 Calls_1 rest_1 Pre_1
      (fun tb e a s o t => postC L tb e a s o t ∧ Framed s o t (fieldLocs frame_1_writes a s ++ arrayLocs frame_1_arrays a s ++ staticLocs frame_1_statics s) 19 327) := by
  intro l _ _ _ p e ha hc hk s m args below hf hfit hheap happ hpre
  obtain ⟨k, o, h1, h2, h3, rfl, hF⟩ := lw_comes l p e ha hc hk s m args below hf hfit hheap happ hpre
  exact ⟨k, _, h1, h2, h3, hL args s _, lw_frame hF⟩
theorem i_vc : Claimed_1_1 ∧ Claimed_1_2 := ⟨lw_limb limb_1_1 (fun args s t => by simp [limb_1_1, Cond.after, Cond.holds, Cond.value]), lw_limb limb_1_2 (fun args s t => Cond.after_iff.mpr (by
  first | (rw [show limb_1_2 = Cond.eq .result (.int 1) from rfl, Cond.eq_ints (x := 1) (y := 1) rfl rfl]; simp; done) | (simp [limb_1_2, Cond.value, Term.eval]; done)))⟩

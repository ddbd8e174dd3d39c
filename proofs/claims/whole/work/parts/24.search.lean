/-! the reference's search and its packing -/
theorem nb_t {x : Bool} (h : (!x) = true) : x = false := by
  cases x
  · rfl
  · exact absurd h (by decide)
theorem nb_f {x : Bool} (h : (!x) = false) : x = true := by
  cases x
  · exact absurd h (by decide)
  · rfl
def nxv (a b t : Nat) (g : Bool) : Nat := if t < b ∧ g = false then a else 0
theorem dn_0 {tt b : Nat} (h : tt ≠ b) : nI (ed_b (decide (tt = b))) = 0 := by
  rw [decide_eq_false h]
  rfl
theorem dn_1 {tt b : Nat} (h : tt = b) : nI (ed_b (decide (tt = b))) = 1 := by
  rw [decide_eq_true h]
  rfl
theorem df_start {n a b : Nat} {T H R : Nat → Nat} {G : Bool} {tr hd us nx : Nat → Int32} {tt hv U : Nat} (a14 : a ≤ 14) (q2 : tt ≤ b) (q3 : hv < 2 ^ n) (q4 : tt < b → hv ≠ 2 ^ n - 1) (q5 : go n a b T H R tt hv U = G) (hU : U < 2 ^ 14) : ∃ mu, df_I n a b T H R G (upd tr 0 (nI tt)) (upd hd 0 (nI hv)) (upd us 0 (nI U)) (upd nx 0 (nI (nxv a b tt (go n a b T H R tt hv U)))) (nI (ed_b (decide (tt = b)))) (nI 0) mu := by
  by_cases hb : tt = b
  · refine ⟨0, Or.inl ⟨dn_1 hb, ?_⟩⟩
    rw [← q5, hb, go_b]
  · have hlt : tt < b := by omega
    cases hg : go n a b T H R tt hv U with
    | false =>
      refine ⟨1, Or.inr (Or.inr (Or.inl ⟨rfl, dn_0 hb, rfl, ?_, by rw [← q5, hg]⟩))⟩
      rw [pk_us, nxv, if_pos ⟨hlt, rfl⟩]
    | true =>
      have hl : ru_left a U ≤ a := ed_ct_le _ _
      refine ⟨_, Or.inr (Or.inr (Or.inr (Or.inl ⟨0, tt, hv, U, 0, rfl, dn_0 hb, rfl, ⟨pk_us, pk_us, pk_us, ?_, hlt, q3, q4 hlt, ?_, fun j hj => absurd hj (by omega), by omega, hU, by omega⟩, by rw [← q5, hg]⟩)))⟩
      · rw [pk_us, nxv, if_neg (fun z => absurd z.2 (by decide))]
      · rw [← go_lt hlt]
        exact hg
theorem df_no {n a b t h V e0 : Nat} {T H R : Nat → Nat} (c9 : ∀ j, j < e0 → ru_good n a b T H R t h (Nat.testBit V) j = false) (hg : ru_good n a b T H R t h (Nat.testBit V) e0 = false) : ∀ j, j < e0 + 1 → ru_good n a b T H R t h (Nat.testBit V) j = false := by
  intro j hj
  rcases Nat.lt_or_ge j e0 with z | z
  · exact c9 j z
  · rw [show j = e0 by omega]
    exact hg
theorem df_skip {n a b : Nat} {T H R : Nat → Nat} {G : Bool} {tr hd us nx : Nat → Int32} {s t h V e0 : Nat} (hC : df_C n a b T H R tr hd us nx s t h V e0) (hG : G = true) (he : e0 < a) (hg : ru_gr T H h (Nat.testBit V) e0 = false) : df_I n a b T H R G tr hd us (upd nx s (nI (e0 + 1))) 0 (nI s) (ru_left a V * 64 + 2 * (a - (e0 + 1)) + 2) := by
  obtain ⟨c1, c2, c3, c4, c5, c6, c7, c8, c9, c10, c11, c12⟩ := hC
  exact Or.inr (Or.inr (Or.inr (Or.inl ⟨s, t, h, V, e0 + 1, rfl, rfl, rfl, ⟨c1, c2, c3, pk_us, c5, c6, c7, c8, df_no c9 (by rw [ru_good, hg, Bool.false_and]), c10, c11, by omega⟩, hG⟩)))
theorem df_down {n a b : Nat} {T H R : Nat → Nat} {G : Bool} {tr hd us nx : Nat → Int32} {s t h V e0 tt hv : Nat} (hC : df_C n a b T H R tr hd us nx s t h V e0) (hG : G = true) (he : e0 < a) (a14 : a ≤ 14) (hg : ru_gr T H h (Nat.testBit V) e0 = true) (q2 : tt ≤ b) (q3 : hv < 2 ^ n) (q4 : tt < b → hv ≠ 2 ^ n - 1) (q5 : go n a b T H R tt hv (V ||| 2 ^ e0) = go n a b T H R t (h ||| 2 ^ H e0) (V ||| 2 ^ e0)) :
    ∃ mu, mu < ru_left a V * 64 + 2 * (a - e0) + 2 ∧ df_I n a b T H R G (upd tr (s + 1) (nI tt)) (upd hd (s + 1) (nI hv)) (upd us (s + 1) (nI (V ||| 2 ^ e0))) (upd (upd nx s (nI (e0 + 1))) (s + 1) (nI (nxv a b tt (go n a b T H R tt hv (V ||| 2 ^ e0))))) (nI (ed_b (decide (tt = b)))) (nI (s + 1)) mu := by
  obtain ⟨c1, c2, c3, c4, c5, c6, c7, c8, c9, c10, c11, c12⟩ := hC
  have hu : V.testBit e0 = false := (ru_gr_iff.mp hg).1
  have hl := df_left he hu
  have hs : s ≠ s + 1 := by omega
  by_cases hb : tt = b
  · exact ⟨0, by omega, Or.inl ⟨dn_1 hb, hG⟩⟩
  · have hlt : tt < b := by omega
    cases hgo : go n a b T H R tt hv (V ||| 2 ^ e0) with
    | false =>
      refine ⟨ru_left a V * 64 + 2 * (a - (e0 + 1)) + 3, by omega, Or.inr (Or.inr (Or.inr (Or.inr ⟨s, t, h, V, e0 + 1, rfl, dn_0 hb, rfl, ?_, ⟨?_, ?_, ?_, ?_, c5, c6, c7, c8, df_no c9 ?_, c10, c11, by omega⟩, by omega, hG⟩)))⟩
      · rw [pk_us, nxv, if_pos ⟨hlt, rfl⟩]
      · rw [pk_un hs]
        exact c1
      · rw [pk_un hs]
        exact c2
      · rw [pk_un hs]
        exact c3
      · rw [pk_un hs, pk_us]
      · rw [go_good c5, ← q5, hgo, Bool.and_false]
    | true =>
      refine ⟨ru_left a (V ||| 2 ^ e0) * 64 + 2 * (a - 0) + 2, by omega, Or.inr (Or.inr (Or.inr (Or.inl ⟨s + 1, tt, hv, V ||| 2 ^ e0, 0, rfl, dn_0 hb, rfl, ⟨pk_us, pk_us, pk_us, ?_, hlt, q3, q4 hlt, ?_, fun j hj => absurd hj (by omega), by omega, df_used c11 (by omega), by omega⟩, hG⟩)))⟩
      · rw [pk_us, nxv, if_neg (fun z => absurd z.2 (by decide))]
      · rw [← go_lt hlt]
        exact hgo
theorem go_pa0 {n a b : Nat} {T H R : Nat → Nat} (hb : b = 0) : go n a b T H R 0 0 0 = paF n a T H b R := by
  subst hb
  rw [pa_0]
  exact go_b
theorem go_pa {n a b : Nat} {T H R : Nat → Nat} (hb : 0 < b) : go n a b T H R 0 (R 0) 0 = paF n a T H b R := by rw [go_lt hb, tb_0, pa_ok hb]
theorem mw_D {A : Nat → Prop} {ad : Nat → Nat} {cI : ClassId} {n a b n' a' b' : Nat} {T H R T' H' R' : Nat → Nat} {O Wy tr hd us nx O' Wy' tr' hd' us' nx' : Nat → Int32} (hD : va_D A (mw ad cI n a b T H R O Wy tr hd us nx)) : va_D A (mw ad cI n' a' b' T' H' R' O' Wy' tr' hd' us' nx') := by
  have key : ∀ (k : Nat) (q : Nat × va_E), (mw ad cI n' a' b' T' H' R' O' Wy' tr' hd' us' nx')[k]? = some q → ∃ e, (mw ad cI n a b T H R O Wy tr hd us nx)[k]? = some (q.1, e) := by
    intro k q hk
    match k with
    | 0 => obtain rfl := Option.some.inj hk; exact ⟨_, rfl⟩
    | 1 => obtain rfl := Option.some.inj hk; exact ⟨_, rfl⟩
    | 2 => obtain rfl := Option.some.inj hk; exact ⟨_, rfl⟩
    | 3 => obtain rfl := Option.some.inj hk; exact ⟨_, rfl⟩
    | 4 => obtain rfl := Option.some.inj hk; exact ⟨_, rfl⟩
    | 5 => obtain rfl := Option.some.inj hk; exact ⟨_, rfl⟩
    | 6 => obtain rfl := Option.some.inj hk; exact ⟨_, rfl⟩
    | 7 => obtain rfl := Option.some.inj hk; exact ⟨_, rfl⟩
    | 8 => obtain rfl := Option.some.inj hk; exact ⟨_, rfl⟩
    | 9 => obtain rfl := Option.some.inj hk; exact ⟨_, rfl⟩
    | k + 10 => exact absurd hk (by intro z; cases z)
  refine ⟨fun i j p q hi hj e => ?_, fun k q hk => ?_⟩
  · obtain ⟨x, hx⟩ := key i p hi
    obtain ⟨y, hy⟩ := key j q hj
    exact hD.1 i j _ _ hx hy e
  · obtain ⟨x, hx⟩ := key k q hk
    exact hD.2 k (q.1, x) hx
theorem mw_O {D : va_G} {ad : Nat → Nat} {cI : ClassId} {n a b : Nat} {T H R : Nat → Nat} {O O' Wy tr hd us nx : Nat → Int32} {Hp : Heap} (h : ∀ j, j < 14 → O j = O' j) (hP : va_P D classes (mw ad cI n a b T H R O Wy tr hd us nx) Hp) : va_P D classes (mw ad cI n a b T H R O' Wy tr hd us nx) Hp := by
  intro k q hk
  by_cases h4 : k = 4
  · subst h4
    obtain rfl : (ad 4, Sum.inl (cI, 14, Sum.inl O')) = q := Option.some.inj hk
    exact va_at_same h (hP 4 _ rfl)
  · refine hP k q ?_
    rw [← hk]
    match k, h4 with
    | 0, _ => rfl
    | 1, _ => rfl
    | 2, _ => rfl
    | 3, _ => rfl
    | 4, h => exact absurd rfl h
    | 5, _ => rfl
    | 6, _ => rfl
    | 7, _ => rfl
    | 8, _ => rfl
    | 9, _ => rfl
    | k + 10, _ => rfl
theorem wy_no {n a b k v : Nat} {T H R : Nat → Nat} (h : paF n a T H b R = false) (hb : b ≤ 3) (hk : k < b) : wyF n a b T H R (nI k) (nI v) = -1 := by
  rw [wyF]
  split
  · rw [ed_fd_no, if_neg (Nat.lt_irrefl a)]
    intro j _
    rw [pg_no h hb, decide_eq_false (fun z => ow_n1 k (by omega) z.symm), Bool.false_and]
  · rfl
theorem wy_yes {n a b k v : Nat} {T H R : Nat → Nat} {Wy : Nat → Int32} (hb : b ≤ 3) (hk : k < b) (hv : v < n) (n7 : n ≤ 7) (h : wy_ok a H (pg_all n a b T H R) Wy) (hH : ∀ e, e < a → H e < n) : wyF n a b T H R (nI k) (nI v) = Wy (7 * k + v) := by
  rw [wyF, if_pos ⟨is_in_nI hk (by omega), is_in_nI hv (by omega)⟩, wy_look h (by omega) (by omega)]
  have e : ed_fd (fun e => decide (pg_all n a b T H R e = nI k) && decide (nI (H e) = nI v)) a = ed_fd (fun e => decide (pg_all n a b T H R e = nI k) && decide (H e = v)) a := by
    apply ed_fd_congr
    intro j hj
    have hHj := hH j hj
    congr 1
    by_cases hz : H j = v
    · rw [decide_eq_true hz, decide_eq_true (by rw [hz])]
    · rw [decide_eq_false hz, decide_eq_false (fun z => hz ((nI_eq (by omega) (by omega)).mp z))]
  rw [e]
def rs_f (T : Nat → Nat) (e m k : Nat) : Nat → Nat := fun i => if k < i then T i else rm_f T e m i
theorem rs_0 (T : Nat → Nat) (e m : Nat) : rs_f T e m m = rm_f T e m := by
  funext i
  rw [rs_f]
  by_cases h : m < i
  · rw [if_pos h, rm_f, if_neg (by omega)]
  · rw [if_neg h]
theorem rs_s {T : Nat → Nat} {e m k : Nat} (h1 : e < k) (h2 : k ≤ m) : up (rs_f T e m k) k (rs_f T e m k (k - 1)) = rs_f T e m (k - 1) := by
  funext i
  rw [up]
  by_cases hi : i = k
  · rw [if_pos hi, rs_f, rs_f, if_neg (by omega), if_pos (by omega), rm_f, if_pos (by omega), hi, show k - 1 + 1 = k by omega]
  · rw [if_neg hi, rs_f, rs_f]
    by_cases h : k < i
    · rw [if_pos h, if_pos (by omega)]
    · rw [if_neg h, if_neg (by omega)]
theorem rs_e {T : Nat → Nat} {e m : Nat} (h : e ≤ m) : up (rs_f T e m e) e (T e) = T := by
  funext i
  rw [up]
  by_cases hi : i = e
  · rw [if_pos hi, hi]
  · rw [if_neg hi, rs_f]
    by_cases h2 : e < i
    · rw [if_pos h2]
    · rw [if_neg h2, rm_f, if_neg (by omega)]
set_option maxHeartbeats 4000000 in
set_option maxRecDepth 100000 in
theorem c_X4_isDone (l : Launch) (dC : Nat → ClassId) (dI : Nat → Nat → Nat) (cI : ClassId) (ad : Nat → Nat) (n a b : Nat) (T H R : Nat → Nat) (O Wy tr hd us nx : Nat → Int32) (sz : Nat) (s0 k had U : Nat) (hI : st_I n a T H b R) (hs0 : s0 < 16) (hk : k ≤ b) (hh : had < 2 ^ n) (hU : U < 2 ^ 14) : Met l yX4_isDone (wq yX4_isDone cX4_isDone 7 (some .boolean)) ({ frames := 3, cells := 0, slots := 0, locals := 71 }) (mu_P (dC, dI) classes [(cI, .int)] (mw ad cI n a b T H R O Wy tr hd us nx) sz [.ref (ad 0), .int (nI s0), .int (nI k), .int (nI had), .int (nI U)]) (va_Qi (fun (r : Int32) (u : Nat × Nat) => r = nI (ed_b (decide (u.1 = b))) ∧ u.1 ≤ b ∧ u.2 < 2 ^ n ∧ (u.1 < b → u.2 ≠ 2 ^ n - 1) ∧ go n a b T H R u.1 u.2 U = go n a b T H R k had U) (mu_B (dC, dI) classes [(cI, .int)] (mw ad cI n a b T H R O Wy tr hd us nx) sz (fun u => mw ad cI n a b T H R O Wy (upd tr s0 (nI u.1)) (upd hd s0 (nI u.2)) (upd us s0 (nI U)) (upd nx s0 (nI (nxv a b u.1 (go n a b T H R u.1 u.2 U)))))) (va_A (mw ad cI n a b T H R O Wy tr hd us nx) sz)) 0 0 (va_A (mw ad cI n a b T H R O Wy tr hd us nx) sz) := by
  have hI0 := hI
  obtain ⟨n1, n7, a14, hT, hT2, hb3, hR3, hR⟩ := hI
  have p7 := bi_p7 n7
  have p0 := Nat.two_pow_pos n
  refine Met.ofW (cc := cX4_isDone) (maxL := 7) (ret := (some .boolean)) (by decide) rfl ?_
  intro p e s m args below meth c s₁ B hml hv
  obtain ⟨rfl, hsz, hP, hK, hN, hD0⟩ := hv
  have hx := B.exec
  have hb := B.bytes
  have hr := B.returns
  have hlocks := B.notSynchronized
  have hts := atoms_spec (ws := (wq yX4_isDone cX4_isDone 7 (some .boolean))) B.pre
  have hw : ∀ w ∈ bigW, w.before _ s = true := fun w h => hts w (List.mem_cons_of_mem _ h)
  have hown : s.vm.findClass RX4 = some m.cls := findClass_of_methodNamed B.named
  subst hsz
  have hD := hD0.self (sz := s.heap.size)
  generalize hAe : va_A (mw ad cI n a b T H R O Wy tr hd us nx) s.heap.size = A at hD ⊢
  have hA : ∀ q : Nat, s.heap.size ≤ q → A q := fun q h => by rw [← hAe]; exact Or.inr h
  have hS : va_S A s.heap s.heap [] := va_S.rf
  have hl := lv_entry ([.ref (ad 0), .int (nI s0), .int (nI k), .int (nI had), .int (nI U)]) (n := 7) (Nat.le_of_ble_eq_true rfl)
  rw [lg_entry_eq]
  generalize (lg_sl ([.ref (ad 0), .int (nI s0), .int (nI k), .int (nI had), .int (nI U)]) ++ List.replicate (7 - (lg_sl ([.ref (ad 0), .int (nI s0), .int (nI k), .int (nI had), .int (nI U)])).length) Slot.unset).toArray = ls at hl ⊢
  have hl : lv_has ls 7 [(0, .ref (ad 0)), (1, .int (nI s0)), (2, .int (nI k)), (3, .int (nI had)), (4, .int (nI U))] := hl
  refine lv_iload_n hx hb dX4_isDone_0 rfl (lv_at hl 2 rfl) ?_
  refine lv_istore (lv' := [(5, .int (nI k)), (0, .ref (ad 0)), (1, .int (nI s0)), (2, .int (nI k)), (3, .int (nI had)), (4, .int (nI U))]) hx hb dX4_isDone_1 hl (by decide) rfl (fun ls hl => ?_)
  refine lv_iload_n hx hb dX4_isDone_3 rfl (lv_at hl 4 rfl) ?_
  refine lv_istore (lv' := [(6, .int (nI had)), (5, .int (nI k)), (0, .ref (ad 0)), (1, .int (nI s0)), (2, .int (nI k)), (3, .int (nI had)), (4, .int (nI U))]) hx hb dX4_isDone_4 hl (by decide) rfl (fun ls hl => ?_)
  refine wl_loop (fun k9 ls => ∃ (tt : Nat) (hv : Nat), b - tt = k9 ∧ (tt ≤ b) ∧ (hv < 2 ^ n) ∧ (go n a b T H R tt hv U = go n a b T H R k had U) ∧ lv_has ls 7 [(0, .ref (ad 0)), (1, .int (nI s0)), (4, .int (nI U)), (5, .int (nI tt)), (6, .int (nI hv))]) ?_ _ ⟨k, had, rfl, hk, hh, rfl, lv_sub hl [2, 3, 6, 1, 0] rfl⟩
  clear hl
  intro k9 ls ih9 h9
  obtain ⟨tt, hv, k9e, htb, hv2, hgo, hl⟩ := h9
  have ih_6 := ih9
  clear ih9
  subst k9e
  refine lv_iload hx hb dX4_isDone_6 (lv_at hl 3 rfl) ?_
  refine lv_aload_n hx hb dX4_isDone_8 rfl (lv_at hl 0 rfl) ?_
  refine va_get (D := (dC, dI)) (ci := 4) (v := .int (nI b)) (C := RX4) (T := TX4) (N := 12) hx hb hw in_X4 hown hK hP 0 rfl rfl 2 (by decide) (hw _ mq_fl_X4_56) (fun _ h9 => h9) rfl dX4_isDone_9 ?_
  refine lv_icmp_ge (tgt := 52) hx hb dX4_isDone_12 (by decide) (fun b12 => ?_) (fun b12 => ?_)
  -- if_icmpge at 12, t
  · have t12 := (nI_leI (by omega) (by omega)).mp b12
    have e12 : tt = b := by omega
    have e7 : nxv a b tt (go n a b T H R tt hv U) = 0 := if_neg (fun z => absurd z.1 (by omega))
    refine lv_aload_n hx hb dX4_isDone_52 rfl (lv_at hl 0 rfl) ?_
    refine va_get (D := (dC, dI)) (ci := 4) (v := .ref (ad 6)) (C := RX4) (T := TX4) (N := 12) hx hb hw in_X4 hown hK hP 0 rfl rfl 8 (by decide) (hw _ mq_fl_X4_29) (fun _ h9 => h9) rfl dX4_isDone_53 ?_
    refine lv_iload_n hx hb dX4_isDone_56 rfl (lv_at hl 1 rfl) ?_
    refine lv_iload hx hb dX4_isDone_57 (lv_at hl 3 rfl) ?_
    refine va_iast hx hb hK hP hD hS 6 0 rfl rfl (vp_in_nI hs0 (by decide)) dX4_isDone_59 (fun Hp locs hP hD hS => ?_)
    rw [nI_clamp (show s0 < 2 ^ 31 by omega)] at hP hD
    have hP : va_P (dC, dI) classes (mw ad cI n a b T H R O Wy (upd tr s0 (nI tt)) hd us nx) Hp := hP
    have hD : va_D A (mw ad cI n a b T H R O Wy (upd tr s0 (nI tt)) hd us nx) := hD
    refine lv_aload_n hx hb dX4_isDone_60 rfl (lv_at hl 0 rfl) ?_
    refine va_get (D := (dC, dI)) (ci := 4) (v := .ref (ad 7)) (C := RX4) (T := TX4) (N := 12) hx hb hw in_X4 hown hK hP 0 rfl rfl 9 (by decide) (hw _ mq_fl_X4_32) (fun _ h9 => h9) rfl dX4_isDone_61 ?_
    refine lv_iload_n hx hb dX4_isDone_64 rfl (lv_at hl 1 rfl) ?_
    refine lv_iload hx hb dX4_isDone_65 (lv_at hl 4 rfl) ?_
    refine va_iast hx hb hK hP hD hS 7 0 rfl rfl (vp_in_nI hs0 (by decide)) dX4_isDone_67 (fun Hp locs hP hD hS => ?_)
    rw [nI_clamp (show s0 < 2 ^ 31 by omega)] at hP hD
    have hP : va_P (dC, dI) classes (mw ad cI n a b T H R O Wy (upd tr s0 (nI tt)) (upd hd s0 (nI hv)) us nx) Hp := hP
    have hD : va_D A (mw ad cI n a b T H R O Wy (upd tr s0 (nI tt)) (upd hd s0 (nI hv)) us nx) := hD
    refine lv_aload_n hx hb dX4_isDone_68 rfl (lv_at hl 0 rfl) ?_
    refine va_get (D := (dC, dI)) (ci := 4) (v := .ref (ad 8)) (C := RX4) (T := TX4) (N := 12) hx hb hw in_X4 hown hK hP 0 rfl rfl 10 (by decide) (hw _ mq_fl_X4_35) (fun _ h9 => h9) rfl dX4_isDone_69 ?_
    refine lv_iload_n hx hb dX4_isDone_72 rfl (lv_at hl 1 rfl) ?_
    refine lv_iload hx hb dX4_isDone_73 (lv_at hl 2 rfl) ?_
    refine va_iast hx hb hK hP hD hS 8 0 rfl rfl (vp_in_nI hs0 (by decide)) dX4_isDone_75 (fun Hp locs hP hD hS => ?_)
    rw [nI_clamp (show s0 < 2 ^ 31 by omega)] at hP hD
    have hP : va_P (dC, dI) classes (mw ad cI n a b T H R O Wy (upd tr s0 (nI tt)) (upd hd s0 (nI hv)) (upd us s0 (nI U)) nx) Hp := hP
    have hD : va_D A (mw ad cI n a b T H R O Wy (upd tr s0 (nI tt)) (upd hd s0 (nI hv)) (upd us s0 (nI U)) nx) := hD
    refine lv_aload_n hx hb dX4_isDone_76 rfl (lv_at hl 0 rfl) ?_
    refine va_get (D := (dC, dI)) (ci := 4) (v := .ref (ad 9)) (C := RX4) (T := TX4) (N := 12) hx hb hw in_X4 hown hK hP 0 rfl rfl 11 (by decide) (hw _ mq_fl_X4_38) (fun _ h9 => h9) rfl dX4_isDone_77 ?_
    refine lv_iload_n hx hb dX4_isDone_80 rfl (lv_at hl 1 rfl) ?_
    refine lv_iload hx hb dX4_isDone_81 (lv_at hl 3 rfl) ?_
    refine lv_aload_n hx hb dX4_isDone_83 rfl (lv_at hl 0 rfl) ?_
    refine va_get (D := (dC, dI)) (ci := 4) (v := .int (nI b)) (C := RX4) (T := TX4) (N := 12) hx hb hw in_X4 hown hK hP 0 rfl rfl 2 (by decide) (hw _ mq_fl_X4_56) (fun _ h9 => h9) rfl dX4_isDone_84 ?_
    refine lv_icmp_ge (tgt := 110) hx hb dX4_isDone_87 (by decide) (fun _ => ?_) (fun b9 => absurd (nI_le (by omega) (by omega)) b9)
    refine lv_iconst (v := nI (nxv a b tt (go n a b T H R tt hv U))) hx hb dX4_isDone_110 (by rw [e7]; rfl) ?_
    refine va_iast hx hb hK hP hD hS 9 0 rfl rfl (vp_in_nI hs0 (by decide)) dX4_isDone_111 (fun Hp locs hP hD hS => ?_)
    rw [nI_clamp (show s0 < 2 ^ 31 by omega)] at hP hD
    have hP : va_P (dC, dI) classes (mw ad cI n a b T H R O Wy (upd tr s0 (nI tt)) (upd hd s0 (nI hv)) (upd us s0 (nI U)) (upd nx s0 (nI (nxv a b tt (go n a b T H R tt hv U))))) Hp := hP
    have hD : va_D A (mw ad cI n a b T H R O Wy (upd tr s0 (nI tt)) (upd hd s0 (nI hv)) (upd us s0 (nI U)) (upd nx s0 (nI (nxv a b tt (go n a b T H R tt hv U))))) := hD
    refine lv_iload hx hb dX4_isDone_112 (lv_at hl 3 rfl) ?_
    refine lv_aload_n hx hb dX4_isDone_114 rfl (lv_at hl 0 rfl) ?_
    refine va_get (D := (dC, dI)) (ci := 4) (v := .int (nI b)) (C := RX4) (T := TX4) (N := 12) hx hb hw in_X4 hown hK hP 0 rfl rfl 2 (by decide) (hw _ mq_fl_X4_56) (fun _ h9 => h9) rfl dX4_isDone_115 ?_
    refine lv_icmp_ne (tgt := 125) hx hb dX4_isDone_118 (by decide) (fun b9 => absurd (by rw [e12]) b9) (fun _ => ?_)
    refine lv_iconst (v := 1) hx hb dX4_isDone_121 (by decide) ?_
    refine lv_goto (tgt := 126) hx hb dX4_isDone_122 (by decide) ?_
    exact W.zret (v := 1) hx hb hr rfl (fun t ht hW => ⟨⟨_, (tt, hv), rfl, ⟨zb_t e12, htb, hv2, fun z => absurd z (by show ¬ tt < b; omega), hgo⟩, by rw [ht]; exact hP, va_K.moved hW.alike hK, by rw [hAe]; exact hD⟩, hS.F ht⟩) hS.2.2 dX4_isDone_126
  -- if_icmpge at 12, f
  · have t12 : tt < b := Nat.lt_of_not_le (fun z => b12 (nI_le z (by omega)))
    refine lv_iload hx hb dX4_isDone_15 (lv_at hl 4 rfl) ?_
    refine lv_aload_n hx hb dX4_isDone_17 rfl (lv_at hl 0 rfl) ?_
    refine ro_V (As := []) (rest := [.int (nI hv)]) (b := ad 0) ⟨hx, hb, hml, hown, hts⟩ (c_X4_all l dC dI cI ad n a b T H R O Wy tr hd us nx n7) (cwV 0 hts (bw_V mq_ml_X4_41 mq_im_X4_all mq_se_X4_all mq_in_X4 mq_co_X4_all) rfl rfl rfl (by decide +kernel) ⟨Nat.le_of_ble_eq_true rfl, Nat.le_of_ble_eq_true rfl⟩) hP hK hN 0 rfl rfl rfl hl.1 rfl (Nat.le_of_ble_eq_true rfl) dX4_isDone_18 ⟨Nat.zero_le _, Nat.zero_le _⟩ (fun r9 h9 => ?_)
    obtain rfl : r9 = nI (2 ^ n - 1) := h9
    refine lv_icmp_ne (tgt := 52) hx hb dX4_isDone_21 (by decide) (fun b21 => ?_) (fun b21 => ?_)
    -- if_icmpne at 21, t
    · have t21 : hv ≠ 2 ^ n - 1 := fun z => b21 (by rw [z])
      refine lv_aload_n hx hb dX4_isDone_52 rfl (lv_at hl 0 rfl) ?_
      refine va_get (D := (dC, dI)) (ci := 4) (v := .ref (ad 6)) (C := RX4) (T := TX4) (N := 12) hx hb hw in_X4 hown hK hP 0 rfl rfl 8 (by decide) (hw _ mq_fl_X4_29) (fun _ h9 => h9) rfl dX4_isDone_53 ?_
      refine lv_iload_n hx hb dX4_isDone_56 rfl (lv_at hl 1 rfl) ?_
      refine lv_iload hx hb dX4_isDone_57 (lv_at hl 3 rfl) ?_
      refine va_iast hx hb hK hP hD hS 6 0 rfl rfl (vp_in_nI hs0 (by decide)) dX4_isDone_59 (fun Hp locs hP hD hS => ?_)
      rw [nI_clamp (show s0 < 2 ^ 31 by omega)] at hP hD
      have hP : va_P (dC, dI) classes (mw ad cI n a b T H R O Wy (upd tr s0 (nI tt)) hd us nx) Hp := hP
      have hD : va_D A (mw ad cI n a b T H R O Wy (upd tr s0 (nI tt)) hd us nx) := hD
      refine lv_aload_n hx hb dX4_isDone_60 rfl (lv_at hl 0 rfl) ?_
      refine va_get (D := (dC, dI)) (ci := 4) (v := .ref (ad 7)) (C := RX4) (T := TX4) (N := 12) hx hb hw in_X4 hown hK hP 0 rfl rfl 9 (by decide) (hw _ mq_fl_X4_32) (fun _ h9 => h9) rfl dX4_isDone_61 ?_
      refine lv_iload_n hx hb dX4_isDone_64 rfl (lv_at hl 1 rfl) ?_
      refine lv_iload hx hb dX4_isDone_65 (lv_at hl 4 rfl) ?_
      refine va_iast hx hb hK hP hD hS 7 0 rfl rfl (vp_in_nI hs0 (by decide)) dX4_isDone_67 (fun Hp locs hP hD hS => ?_)
      rw [nI_clamp (show s0 < 2 ^ 31 by omega)] at hP hD
      have hP : va_P (dC, dI) classes (mw ad cI n a b T H R O Wy (upd tr s0 (nI tt)) (upd hd s0 (nI hv)) us nx) Hp := hP
      have hD : va_D A (mw ad cI n a b T H R O Wy (upd tr s0 (nI tt)) (upd hd s0 (nI hv)) us nx) := hD
      refine lv_aload_n hx hb dX4_isDone_68 rfl (lv_at hl 0 rfl) ?_
      refine va_get (D := (dC, dI)) (ci := 4) (v := .ref (ad 8)) (C := RX4) (T := TX4) (N := 12) hx hb hw in_X4 hown hK hP 0 rfl rfl 10 (by decide) (hw _ mq_fl_X4_35) (fun _ h9 => h9) rfl dX4_isDone_69 ?_
      refine lv_iload_n hx hb dX4_isDone_72 rfl (lv_at hl 1 rfl) ?_
      refine lv_iload hx hb dX4_isDone_73 (lv_at hl 2 rfl) ?_
      refine va_iast hx hb hK hP hD hS 8 0 rfl rfl (vp_in_nI hs0 (by decide)) dX4_isDone_75 (fun Hp locs hP hD hS => ?_)
      rw [nI_clamp (show s0 < 2 ^ 31 by omega)] at hP hD
      have hP : va_P (dC, dI) classes (mw ad cI n a b T H R O Wy (upd tr s0 (nI tt)) (upd hd s0 (nI hv)) (upd us s0 (nI U)) nx) Hp := hP
      have hD : va_D A (mw ad cI n a b T H R O Wy (upd tr s0 (nI tt)) (upd hd s0 (nI hv)) (upd us s0 (nI U)) nx) := hD
      refine lv_aload_n hx hb dX4_isDone_76 rfl (lv_at hl 0 rfl) ?_
      refine va_get (D := (dC, dI)) (ci := 4) (v := .ref (ad 9)) (C := RX4) (T := TX4) (N := 12) hx hb hw in_X4 hown hK hP 0 rfl rfl 11 (by decide) (hw _ mq_fl_X4_38) (fun _ h9 => h9) rfl dX4_isDone_77 ?_
      refine lv_iload_n hx hb dX4_isDone_80 rfl (lv_at hl 1 rfl) ?_
      refine lv_iload hx hb dX4_isDone_81 (lv_at hl 3 rfl) ?_
      refine lv_aload_n hx hb dX4_isDone_83 rfl (lv_at hl 0 rfl) ?_
      refine va_get (D := (dC, dI)) (ci := 4) (v := .int (nI b)) (C := RX4) (T := TX4) (N := 12) hx hb hw in_X4 hown hK hP 0 rfl rfl 2 (by decide) (hw _ mq_fl_X4_56) (fun _ h9 => h9) rfl dX4_isDone_84 ?_
      refine lv_icmp_ge (tgt := 110) hx hb dX4_isDone_87 (by decide) (fun b9 => absurd b9 (fun z => absurd ((nI_leI (by omega) (by omega)).mp z) (by omega))) (fun _ => ?_)
      refine lv_aload_n hx hb dX4_isDone_90 rfl (lv_at hl 0 rfl) ?_
      refine lv_iload hx hb dX4_isDone_91 (lv_at hl 3 rfl) ?_
      refine lv_iload hx hb dX4_isDone_93 (lv_at hl 4 rfl) ?_
      refine lv_iload hx hb dX4_isDone_95 (lv_at hl 2 rfl) ?_
      refine ro_V (As := [.int (nI tt), .int (nI hv), .int (nI U)]) (rest := [.int (nI s0), .ref (ad 9)]) (b := ad 0) ⟨hx, hb, hml, hown, hts⟩ (c_X4_isStopped l dC dI cI ad n a b T H R O Wy (upd tr s0 (nI tt)) (upd hd s0 (nI hv)) (upd us s0 (nI U)) nx tt hv U hI0 (by omega) hU t12) (cwV 3 hts (bw_V mq_ml_X4_83 mq_im_X4_isStopped mq_se_X4_isStopped mq_in_X4 mq_co_X4_isStopped) rfl rfl rfl (by decide +kernel) ⟨Nat.le_of_ble_eq_true rfl, Nat.le_of_ble_eq_true rfl⟩) hP hK hN 0 rfl rfl rfl hl.1 rfl (Nat.le_of_ble_eq_true rfl) dX4_isDone_97 ⟨Nat.zero_le _, Nat.zero_le _⟩ (fun r9 h9 => ?_)
      obtain rfl : r9 = nI (ed_b (!ru_ok n a b T H R tt hv (Nat.testBit U))) := h9
      refine lv_if_eq (tgt := 110) hx hb dX4_isDone_100 (by decide) (fun b100 => ?_) (fun b100 => ?_)
      -- ifeq at 100, t
      · have t100 := zb_0.mp b100
        have e7 : nxv a b tt (go n a b T H R tt hv U) = 0 := if_neg (fun z => by rw [go_lt t12, nb_f t100] at z; exact absurd z.2 (by decide))
        refine lv_iconst (v := nI (nxv a b tt (go n a b T H R tt hv U))) hx hb dX4_isDone_110 (by rw [e7]; rfl) ?_
        refine va_iast hx hb hK hP hD hS 9 0 rfl rfl (vp_in_nI hs0 (by decide)) dX4_isDone_111 (fun Hp locs hP hD hS => ?_)
        rw [nI_clamp (show s0 < 2 ^ 31 by omega)] at hP hD
        have hP : va_P (dC, dI) classes (mw ad cI n a b T H R O Wy (upd tr s0 (nI tt)) (upd hd s0 (nI hv)) (upd us s0 (nI U)) (upd nx s0 (nI (nxv a b tt (go n a b T H R tt hv U))))) Hp := hP
        have hD : va_D A (mw ad cI n a b T H R O Wy (upd tr s0 (nI tt)) (upd hd s0 (nI hv)) (upd us s0 (nI U)) (upd nx s0 (nI (nxv a b tt (go n a b T H R tt hv U))))) := hD
        refine lv_iload hx hb dX4_isDone_112 (lv_at hl 3 rfl) ?_
        refine lv_aload_n hx hb dX4_isDone_114 rfl (lv_at hl 0 rfl) ?_
        refine va_get (D := (dC, dI)) (ci := 4) (v := .int (nI b)) (C := RX4) (T := TX4) (N := 12) hx hb hw in_X4 hown hK hP 0 rfl rfl 2 (by decide) (hw _ mq_fl_X4_56) (fun _ h9 => h9) rfl dX4_isDone_115 ?_
        refine lv_icmp_ne (tgt := 125) hx hb dX4_isDone_118 (by decide) (fun _ => ?_) (fun b9 => absurd b9 (fun z => absurd ((nI_eq (by omega) (by omega)).mp z) (by omega)))
        refine lv_iconst (v := 0) hx hb dX4_isDone_125 (by decide) ?_
        exact W.zret (v := 0) hx hb hr rfl (fun t ht hW => ⟨⟨_, (tt, hv), rfl, ⟨zb_f (by show ¬ tt = b; omega), htb, hv2, fun _ => t21, hgo⟩, by rw [ht]; exact hP, va_K.moved hW.alike hK, by rw [hAe]; exact hD⟩, hS.F ht⟩) hS.2.2 dX4_isDone_126
      -- ifeq at 100, f
      · have t100 := zb_n0.mp b100
        have e7 : nxv a b tt (go n a b T H R tt hv U) = a := if_pos ⟨t12, by rw [go_lt t12, nb_t t100]⟩
        refine lv_aload_n hx hb dX4_isDone_103 rfl (lv_at hl 0 rfl) ?_
        refine va_get (D := (dC, dI)) (ci := 4) (v := .int (nI a)) (C := RX4) (T := TX4) (N := 12) hx hb hw in_X4 hown hK hP 0 rfl rfl 1 (by decide) (hw _ mq_fl_X4_45) (fun _ h9 => h9) rfl dX4_isDone_104 ?_
        refine lv_topi (fun z9 e9 => ?_)
        obtain rfl : z9 = nI (nxv a b tt (go n a b T H R tt hv U)) := e9.trans (by rw [e7])
        refine lv_goto (tgt := 111) hx hb dX4_isDone_107 (by decide) ?_
        refine va_iast hx hb hK hP hD hS 9 0 rfl rfl (vp_in_nI hs0 (by decide)) dX4_isDone_111 (fun Hp locs hP hD hS => ?_)
        rw [nI_clamp (show s0 < 2 ^ 31 by omega)] at hP hD
        have hP : va_P (dC, dI) classes (mw ad cI n a b T H R O Wy (upd tr s0 (nI tt)) (upd hd s0 (nI hv)) (upd us s0 (nI U)) (upd nx s0 (nI (nxv a b tt (go n a b T H R tt hv U))))) Hp := hP
        have hD : va_D A (mw ad cI n a b T H R O Wy (upd tr s0 (nI tt)) (upd hd s0 (nI hv)) (upd us s0 (nI U)) (upd nx s0 (nI (nxv a b tt (go n a b T H R tt hv U))))) := hD
        refine lv_iload hx hb dX4_isDone_112 (lv_at hl 3 rfl) ?_
        refine lv_aload_n hx hb dX4_isDone_114 rfl (lv_at hl 0 rfl) ?_
        refine va_get (D := (dC, dI)) (ci := 4) (v := .int (nI b)) (C := RX4) (T := TX4) (N := 12) hx hb hw in_X4 hown hK hP 0 rfl rfl 2 (by decide) (hw _ mq_fl_X4_56) (fun _ h9 => h9) rfl dX4_isDone_115 ?_
        refine lv_icmp_ne (tgt := 125) hx hb dX4_isDone_118 (by decide) (fun _ => ?_) (fun b9 => absurd b9 (fun z => absurd ((nI_eq (by omega) (by omega)).mp z) (by omega)))
        refine lv_iconst (v := 0) hx hb dX4_isDone_125 (by decide) ?_
        exact W.zret (v := 0) hx hb hr rfl (fun t ht hW => ⟨⟨_, (tt, hv), rfl, ⟨zb_f (by show ¬ tt = b; omega), htb, hv2, fun _ => t21, hgo⟩, by rw [ht]; exact hP, va_K.moved hW.alike hK, by rw [hAe]; exact hD⟩, hS.F ht⟩) hS.2.2 dX4_isDone_126
    -- if_icmpne at 21, f
    · have t21 : hv = 2 ^ n - 1 := (nI_eq (by omega) (by omega)).mp b21
      refine lv_iinc (k := 3) (v := nI (tt + 1)) (lv' := [(5, .int (nI (tt + 1))), (0, .ref (ad 0)), (1, .int (nI s0)), (4, .int (nI U)), (6, .int (nI hv))]) hx hb dX4_isDone_24 hl rfl (ii_1 _) (by decide) rfl (fun ls hl => ?_)
      refine lv_iload hx hb dX4_isDone_27 (lv_at hl 0 rfl) ?_
      refine lv_aload_n hx hb dX4_isDone_29 rfl (lv_at hl 1 rfl) ?_
      refine va_get (D := (dC, dI)) (ci := 4) (v := .int (nI b)) (C := RX4) (T := TX4) (N := 12) hx hb hw in_X4 hown hK hP 0 rfl rfl 2 (by decide) (hw _ mq_fl_X4_56) (fun _ h9 => h9) rfl dX4_isDone_30 ?_
      refine lv_icmp_ge (tgt := 46) hx hb dX4_isDone_33 (by decide) (fun b33 => ?_) (fun b33 => ?_)
      -- if_icmpge at 33, t
      · have t33 := (nI_leI (by omega) (by omega)).mp b33
        refine lv_iconst (v := nI 0) hx hb dX4_isDone_46 (by decide) ?_
        refine lv_istore (lv' := [(6, .int (nI 0)), (5, .int (nI (tt + 1))), (0, .ref (ad 0)), (1, .int (nI s0)), (4, .int (nI U))]) hx hb dX4_isDone_47 hl (by decide) rfl (fun ls hl => ?_)
        refine lv_goto (tgt := 6) hx hb dX4_isDone_49 (by decide) ?_
        have hgo2 : go n a b T H R (tt + 1) 0 U = go n a b T H R k had U := by rw [← hgo, t21, go_next t12, if_neg (by omega)]
        exact ih_6 _ _ (by omega) ⟨tt + 1, 0, rfl, by omega, p0, hgo2, lv_sub hl [2, 3, 4, 1, 0] rfl⟩
      -- if_icmpge at 33, f
      · have t33 : tt + 1 < b := Nat.lt_of_not_le (fun z => b33 (nI_le z (by omega)))
        refine lv_aload_n hx hb dX4_isDone_36 rfl (lv_at hl 1 rfl) ?_
        refine va_get (D := (dC, dI)) (ci := 4) (v := .ref (ad 3)) (C := RX4) (T := TX4) (N := 12) hx hb hw in_X4 hown hK hP 0 rfl rfl 5 (by decide) (hw _ mq_fl_X4_20) (fun _ h9 => h9) rfl dX4_isDone_37 ?_
        refine lv_iload hx hb dX4_isDone_40 (lv_at hl 0 rfl) ?_
        refine va_iald hx hb hK hP 3 0 rfl rfl (vp_in_nI (by omega) (by decide)) dX4_isDone_42 ?_
        refine lv_topi (fun z9 e9 => ?_)
        obtain rfl : z9 = nI (R (tt + 1)) := e9.trans (ar_at R (by omega))
        refine lv_goto (tgt := 47) hx hb dX4_isDone_43 (by decide) ?_
        refine lv_istore (lv' := [(6, .int (nI (R (tt + 1)))), (5, .int (nI (tt + 1))), (0, .ref (ad 0)), (1, .int (nI s0)), (4, .int (nI U))]) hx hb dX4_isDone_47 hl (by decide) rfl (fun ls hl => ?_)
        refine lv_goto (tgt := 6) hx hb dX4_isDone_49 (by decide) ?_
        have hgo2 : go n a b T H R (tt + 1) (R (tt + 1)) U = go n a b T H R k had U := by rw [← hgo, t21, go_next t12, if_pos t33]
        exact ih_6 _ _ (by omega) ⟨tt + 1, R (tt + 1), rfl, by omega, (hR3 (tt + 1) t33).2, hgo2, lv_sub hl [2, 3, 4, 1, 0] rfl⟩
set_option maxHeartbeats 4000000 in
set_option maxRecDepth 100000 in
theorem c_X4_canGoOn (l : Launch) (dC : Nat → ClassId) (dI : Nat → Nat → Nat) (cI : ClassId) (ad : Nat → Nat) (n a b : Nat) (T H R : Nat → Nat) (O Wy tr hd us nx : Nat → Int32) (sz : Nat) (k had U : Nat) (hI : st_I n a T H b R) (hk : k ≤ b) (hh : had < 2 ^ n) (hU : U < 2 ^ 14) : Met l yX4_canGoOn (wq yX4_canGoOn cX4_canGoOn 7 (some .boolean)) ({ frames := 4, cells := 0, slots := 0, locals := 97 }) (mu_P (dC, dI) classes [(cI, .int)] (mw ad cI n a b T H R O Wy tr hd us nx) sz [.ref (ad 0), .int (nI k), .int (nI had), .int (nI U)]) (va_Qi (fun (r : Int32) (u : (Nat → Int32) × (Nat → Int32) × (Nat → Int32) × (Nat → Int32)) => r = nI (ed_b (go n a b T H R k had U))) (mu_B (dC, dI) classes [(cI, .int)] (mw ad cI n a b T H R O Wy tr hd us nx) sz (fun u => mw ad cI n a b T H R O Wy u.1 u.2.1 u.2.2.1 u.2.2.2)) (va_A (mw ad cI n a b T H R O Wy tr hd us nx) sz)) 0 0 (va_A (mw ad cI n a b T H R O Wy tr hd us nx) sz) := by
  have hI0 := hI
  obtain ⟨n1, n7, a14, hT, hT2, hb3, hR3, hR⟩ := hI
  have p7 := bi_p7 n7
  have p0 := Nat.two_pow_pos n
  refine Met.ofW (cc := cX4_canGoOn) (maxL := 7) (ret := (some .boolean)) (by decide) rfl ?_
  intro p e s m args below meth c s₁ B hml hv
  obtain ⟨rfl, hsz, hP, hK, hN, hD0⟩ := hv
  have hx := B.exec
  have hb := B.bytes
  have hr := B.returns
  have hlocks := B.notSynchronized
  have hts := atoms_spec (ws := (wq yX4_canGoOn cX4_canGoOn 7 (some .boolean))) B.pre
  have hw : ∀ w ∈ bigW, w.before _ s = true := fun w h => hts w (List.mem_cons_of_mem _ h)
  have hown : s.vm.findClass RX4 = some m.cls := findClass_of_methodNamed B.named
  subst hsz
  have hD := hD0.self (sz := s.heap.size)
  generalize hAe : va_A (mw ad cI n a b T H R O Wy tr hd us nx) s.heap.size = A at hD ⊢
  have hA : ∀ q : Nat, s.heap.size ≤ q → A q := fun q h => by rw [← hAe]; exact Or.inr h
  have hS : va_S A s.heap s.heap [] := va_S.rf
  have hl := lv_entry ([.ref (ad 0), .int (nI k), .int (nI had), .int (nI U)]) (n := 7) (Nat.le_of_ble_eq_true rfl)
  rw [lg_entry_eq]
  generalize (lg_sl ([.ref (ad 0), .int (nI k), .int (nI had), .int (nI U)]) ++ List.replicate (7 - (lg_sl ([.ref (ad 0), .int (nI k), .int (nI had), .int (nI U)])).length) Slot.unset).toArray = ls at hl ⊢
  have hl : lv_has ls 7 [(0, .ref (ad 0)), (1, .int (nI k)), (2, .int (nI had)), (3, .int (nI U))] := hl
  refine lv_iconst (v := nI 0) hx hb dX4_canGoOn_0 (by decide) ?_
  refine lv_istore (lv' := [(4, .int (nI 0)), (0, .ref (ad 0)), (1, .int (nI k)), (2, .int (nI had)), (3, .int (nI U))]) hx hb dX4_canGoOn_1 hl (by decide) rfl (fun ls hl => ?_)
  refine lv_aload_n hx hb dX4_canGoOn_3 rfl (lv_at hl 1 rfl) ?_
  refine lv_iconst (v := nI 0) hx hb dX4_canGoOn_4 (by decide) ?_
  refine lv_iload_n hx hb dX4_canGoOn_5 rfl (lv_at hl 2 rfl) ?_
  refine lv_iload_n hx hb dX4_canGoOn_6 rfl (lv_at hl 3 rfl) ?_
  refine lv_iload_n hx hb dX4_canGoOn_7 rfl (lv_at hl 4 rfl) ?_
  refine mu_Vi (As := [.int (nI 0), .int (nI k), .int (nI had), .int (nI U)]) (rest := []) (b := ad 0) ⟨hx, hb, hml, hown, hts⟩ (c_X4_isDone l dC dI cI ad n a b T H R O Wy tr hd us nx _ 0 k had U hI0 (by decide) hk hh hU) (cwV 4 hts (bw_V mq_ml_X4_87 mq_im_X4_isDone mq_se_X4_isDone mq_in_X4 mq_co_X4_isDone) rfl rfl rfl (by decide +kernel) ⟨Nat.le_of_ble_eq_true rfl, Nat.le_of_ble_eq_true rfl⟩) hP hK hN hD hS hA 0 rfl rfl rfl hl.1 rfl (Nat.le_of_ble_eq_true rfl) dX4_canGoOn_8 ⟨Nat.zero_le _, Nat.zero_le _⟩ (fun r9 u9 Hp locs h9 hP hD hS => ?_)
  obtain ⟨⟨tt, hv⟩, rfl⟩ : ∃ z, z = u9 := ⟨_, rfl⟩
  obtain ⟨q1, q2, q3, q4, q5⟩ := h9
  obtain rfl : r9 = nI (ed_b (decide (tt = b))) := q1
  have hP : va_P (dC, dI) classes (mw ad cI n a b T H R O Wy (upd tr 0 (nI tt)) (upd hd 0 (nI hv)) (upd us 0 (nI U)) (upd nx 0 (nI (nxv a b tt (go n a b T H R tt hv U))))) Hp := hP
  have hD : va_D A (mw ad cI n a b T H R O Wy (upd tr 0 (nI tt)) (upd hd 0 (nI hv)) (upd us 0 (nI U)) (upd nx 0 (nI (nxv a b tt (go n a b T H R tt hv U))))) := hD
  obtain ⟨mu0, hdf0⟩ := df_start (tr := tr) (hd := hd) (us := us) (nx := nx) (n := n) (T := T) (H := H) (R := R) (G := go n a b T H R k had U) a14 q2 q3 q4 q5 hU
  refine lv_istore (lv' := [(5, .int (nI (ed_b (decide (tt = b))))), (4, .int (nI 0)), (0, .ref (ad 0)), (1, .int (nI k)), (2, .int (nI had)), (3, .int (nI U))]) hx hb dX4_canGoOn_11 hl (by decide) rfl (fun ls hl => ?_)
  refine wl_loopH (fun k9 Hp locs ls => ∃ (dn : Int32) (stp : Int32) (mu9 : Nat) (tr1 : Nat → Int32) (hd1 : Nat → Int32) (us1 : Nat → Int32) (nx1 : Nat → Int32), mu9 = k9 ∧ (df_I n a b T H R (go n a b T H R k had U) tr1 hd1 us1 nx1 dn stp mu9) ∧ lv_has ls 7 [(0, .ref (ad 0)), (4, .int stp), (5, .int dn)] ∧ va_P (dC, dI) classes (mw ad cI n a b T H R O Wy tr1 hd1 us1 nx1) Hp ∧ va_D A (mw ad cI n a b T H R O Wy tr1 hd1 us1 nx1) ∧ va_S A s.heap Hp locs) ?_ _ ⟨_, _, mu0, _, _, _, _, rfl, hdf0, lv_sub hl [2, 1, 0] rfl, hP, hD, hS⟩
  clear hP hD hS hl
  intro k9 Hp locs ls ih9 h9
  obtain ⟨dn, stp, mu9, tr1, hd1, us1, nx1, k9e, hdf, hl, hP, hD, hS⟩ := h9
  have ih_13 := ih9
  clear ih9
  subst k9e
  rcases hdf with hA9 | hB9 | hC9 | hD9 | hE9
  · obtain ⟨rfl, hG⟩ := hA9
    refine lv_iload hx hb dX4_canGoOn_13 (lv_at hl 2 rfl) ?_
    refine lv_if_ne (tgt := 133) hx hb dX4_canGoOn_15 (by decide) (fun _ => ?_) (fun b9 => absurd b9 (by decide))
    refine lv_iload hx hb dX4_canGoOn_133 (lv_at hl 2 rfl) ?_
    exact W.zret (v := 1) hx hb hr rfl (fun t ht hW => ⟨⟨_, (tr1, hd1, us1, nx1), rfl, zb_T hG, by rw [ht]; exact hP, va_K.moved hW.alike hK, by rw [hAe]; exact hD⟩, hS.F ht⟩) hS.2.2 dX4_canGoOn_135
  · obtain ⟨rfl, rfl, hG⟩ := hB9
    refine lv_iload hx hb dX4_canGoOn_13 (lv_at hl 2 rfl) ?_
    refine lv_if_ne (tgt := 133) hx hb dX4_canGoOn_15 (by decide) (fun b9 => absurd (rfl) b9) (fun _ => ?_)
    refine lv_iload hx hb dX4_canGoOn_18 (lv_at hl 1 rfl) ?_
    refine lv_if_lt (tgt := 133) hx hb dX4_canGoOn_20 (by decide) (fun _ => ?_) (fun b9 => absurd (by decide) b9)
    refine lv_iload hx hb dX4_canGoOn_133 (lv_at hl 2 rfl) ?_
    exact W.zret (v := 0) hx hb hr rfl (fun t ht hW => ⟨⟨_, (tr1, hd1, us1, nx1), rfl, zb_F hG, by rw [ht]; exact hP, va_K.moved hW.alike hK, by rw [hAe]; exact hD⟩, hS.F ht⟩) hS.2.2 dX4_canGoOn_135
  · obtain ⟨em, rfl, rfl, hn0, hG⟩ := hC9
    refine lv_iload hx hb dX4_canGoOn_13 (lv_at hl 2 rfl) ?_
    refine lv_if_ne (tgt := 133) hx hb dX4_canGoOn_15 (by decide) (fun b9 => absurd (rfl) b9) (fun _ => ?_)
    refine lv_iload hx hb dX4_canGoOn_18 (lv_at hl 1 rfl) ?_
    refine lv_if_lt (tgt := 133) hx hb dX4_canGoOn_20 (by decide) (fun b9 => absurd b9 (nI_pos (by decide))) (fun _ => ?_)
    refine lv_aload_n hx hb dX4_canGoOn_23 rfl (lv_at hl 0 rfl) ?_
    refine va_get (D := (dC, dI)) (ci := 4) (v := .ref (ad 9)) (C := RX4) (T := TX4) (N := 12) hx hb hw in_X4 hown hK hP 0 rfl rfl 11 (by decide) (hw _ mq_fl_X4_38) (fun _ h9 => h9) rfl dX4_canGoOn_24 ?_
    refine lv_iload hx hb dX4_canGoOn_27 (lv_at hl 1 rfl) ?_
    refine va_iald hx hb hK hP 9 0 rfl rfl (vp_in_nI (by decide) (by decide)) dX4_canGoOn_29 ?_
    refine lv_topi (fun z9 e9 => ?_)
    obtain rfl : z9 = nI a := e9.trans (by rw [nI_clamp (by decide)]; exact hn0)
    refine lv_istore (lv' := [(6, .int (nI a)), (0, .ref (ad 0)), (4, .int (nI 0)), (5, .int 0)]) hx hb dX4_canGoOn_30 hl (by decide) rfl (fun ls hl => ?_)
    refine lv_iload hx hb dX4_canGoOn_32 (lv_at hl 0 rfl) ?_
    refine lv_aload_n hx hb dX4_canGoOn_34 rfl (lv_at hl 1 rfl) ?_
    refine va_get (D := (dC, dI)) (ci := 4) (v := .int (nI a)) (C := RX4) (T := TX4) (N := 12) hx hb hw in_X4 hown hK hP 0 rfl rfl 1 (by decide) (hw _ mq_fl_X4_45) (fun _ h9 => h9) rfl dX4_canGoOn_35 ?_
    refine lv_icmp_ne (tgt := 47) hx hb dX4_canGoOn_38 (by decide) (fun b9 => absurd (rfl) b9) (fun _ => ?_)
    refine lv_iinc (k := 2) (v := -1) (lv' := [(4, .int (-1)), (6, .int (nI a)), (0, .ref (ad 0)), (5, .int 0)]) hx hb dX4_canGoOn_41 hl rfl (by decide) (by decide) rfl (fun ls hl => ?_)
    refine lv_goto (tgt := 130) hx hb dX4_canGoOn_44 (by decide) ?_
    refine lv_goto (tgt := 13) hx hb dX4_canGoOn_130 (by decide) ?_
    exact ih_13 _ _ _ _ (by omega) ⟨0, -1, 0, _, _, _, _, rfl, Or.inr (Or.inl ⟨rfl, rfl, hG⟩), lv_sub hl [2, 0, 3] rfl, hP, hD, hS⟩
  · obtain ⟨s0, t0, h0, V, e0, em, rfl, rfl, hC, hG⟩ := hD9
    have he0 := df_more (fun e he => (hT2 e he).1) hC
    have hC0 := hC
    obtain ⟨c1, c2, c3, c4, c5, c6, c7, c8, c9, c10, c11, c12⟩ := hC
    have q7 := hT e0
    have z9 : ru_left a V ≤ a := ed_ct_le _ _
    have z8 : s0 ≤ 14 := by omega
    refine lv_iload hx hb dX4_canGoOn_13 (lv_at hl 2 rfl) ?_
    refine lv_if_ne (tgt := 133) hx hb dX4_canGoOn_15 (by decide) (fun b9 => absurd (rfl) b9) (fun _ => ?_)
    refine lv_iload hx hb dX4_canGoOn_18 (lv_at hl 1 rfl) ?_
    refine lv_if_lt (tgt := 133) hx hb dX4_canGoOn_20 (by decide) (fun b9 => absurd b9 (nI_pos (by omega))) (fun _ => ?_)
    refine lv_aload_n hx hb dX4_canGoOn_23 rfl (lv_at hl 0 rfl) ?_
    refine va_get (D := (dC, dI)) (ci := 4) (v := .ref (ad 9)) (C := RX4) (T := TX4) (N := 12) hx hb hw in_X4 hown hK hP 0 rfl rfl 11 (by decide) (hw _ mq_fl_X4_38) (fun _ h9 => h9) rfl dX4_canGoOn_24 ?_
    refine lv_iload hx hb dX4_canGoOn_27 (lv_at hl 1 rfl) ?_
    refine va_iald hx hb hK hP 9 0 rfl rfl (vp_in_nI (by omega) (by decide)) dX4_canGoOn_29 ?_
    refine lv_topi (fun z9 e9 => ?_)
    obtain rfl : z9 = nI e0 := e9.trans (by rw [nI_clamp (by omega)]; exact c4)
    refine lv_istore (lv' := [(6, .int (nI e0)), (0, .ref (ad 0)), (4, .int (nI s0)), (5, .int 0)]) hx hb dX4_canGoOn_30 hl (by decide) rfl (fun ls hl => ?_)
    refine lv_iload hx hb dX4_canGoOn_32 (lv_at hl 0 rfl) ?_
    refine lv_aload_n hx hb dX4_canGoOn_34 rfl (lv_at hl 1 rfl) ?_
    refine va_get (D := (dC, dI)) (ci := 4) (v := .int (nI a)) (C := RX4) (T := TX4) (N := 12) hx hb hw in_X4 hown hK hP 0 rfl rfl 1 (by decide) (hw _ mq_fl_X4_45) (fun _ h9 => h9) rfl dX4_canGoOn_35 ?_
    refine lv_icmp_ne (tgt := 47) hx hb dX4_canGoOn_38 (by decide) (fun _ => ?_) (fun b9 => absurd b9 (fun z => absurd ((nI_eq (by omega) (by omega)).mp z) (by omega)))
    refine lv_aload_n hx hb dX4_canGoOn_47 rfl (lv_at hl 1 rfl) ?_
    refine va_get (D := (dC, dI)) (ci := 4) (v := .ref (ad 9)) (C := RX4) (T := TX4) (N := 12) hx hb hw in_X4 hown hK hP 0 rfl rfl 11 (by decide) (hw _ mq_fl_X4_38) (fun _ h9 => h9) rfl dX4_canGoOn_48 ?_
    refine lv_iload hx hb dX4_canGoOn_51 (lv_at hl 2 rfl) ?_
    refine lv_iload hx hb dX4_canGoOn_53 (lv_at hl 0 rfl) ?_
    refine lv_iconst (v := 1) hx hb dX4_canGoOn_55 (by decide) ?_
    refine lv_iadd hx hb dX4_canGoOn_56 ?_
    refine lv_topi (fun z9 e9 => ?_)
    obtain rfl : z9 = nI (e0 + 1) := e9.trans (nI_1 e0)
    refine va_iast hx hb hK hP hD hS 9 0 rfl rfl (vp_in_nI (by omega) (by decide)) dX4_canGoOn_57 (fun Hp locs hP hD hS => ?_)
    rw [nI_clamp (show s0 < 2 ^ 31 by omega)] at hP hD
    have hP : va_P (dC, dI) classes (mw ad cI n a b T H R O Wy tr1 hd1 us1 (upd nx1 s0 (nI (e0 + 1)))) Hp := hP
    have hD : va_D A (mw ad cI n a b T H R O Wy tr1 hd1 us1 (upd nx1 s0 (nI (e0 + 1)))) := hD
    refine lv_aload_n hx hb dX4_canGoOn_58 rfl (lv_at hl 1 rfl) ?_
    refine lv_aload_n hx hb dX4_canGoOn_59 rfl (lv_at hl 1 rfl) ?_
    refine va_get (D := (dC, dI)) (ci := 4) (v := .ref (ad 7)) (C := RX4) (T := TX4) (N := 12) hx hb hw in_X4 hown hK hP 0 rfl rfl 9 (by decide) (hw _ mq_fl_X4_32) (fun _ h9 => h9) rfl dX4_canGoOn_60 ?_
    refine lv_iload hx hb dX4_canGoOn_63 (lv_at hl 2 rfl) ?_
    refine va_iald hx hb hK hP 7 0 rfl rfl (vp_in_nI (by omega) (by decide)) dX4_canGoOn_65 ?_
    refine lv_topi (fun z9 e9 => ?_)
    obtain rfl : z9 = nI h0 := e9.trans (by rw [nI_clamp (by omega)]; exact c2)
    refine lv_aload_n hx hb dX4_canGoOn_66 rfl (lv_at hl 1 rfl) ?_
    refine va_get (D := (dC, dI)) (ci := 4) (v := .ref (ad 8)) (C := RX4) (T := TX4) (N := 12) hx hb hw in_X4 hown hK hP 0 rfl rfl 10 (by decide) (hw _ mq_fl_X4_35) (fun _ h9 => h9) rfl dX4_canGoOn_67 ?_
    refine lv_iload hx hb dX4_canGoOn_70 (lv_at hl 2 rfl) ?_
    refine va_iald hx hb hK hP 8 0 rfl rfl (vp_in_nI (by omega) (by decide)) dX4_canGoOn_72 ?_
    refine lv_topi (fun z9 e9 => ?_)
    obtain rfl : z9 = nI V := e9.trans (by rw [nI_clamp (by omega)]; exact c3)
    refine lv_iload hx hb dX4_canGoOn_73 (lv_at hl 0 rfl) ?_
    refine ro_V (As := [.int (nI h0), .int (nI V), .int (nI e0)]) (rest := []) (b := ad 0) ⟨hx, hb, hml, hown, hts⟩ (c_X4_grows l dC dI cI ad n a b T H R O Wy tr1 hd1 us1 (upd nx1 s0 (nI (e0 + 1))) h0 V e0 (by omega) (by omega) c11 hT) (cwV 3 hts (bw_V mq_ml_X4_91 mq_im_X4_grows mq_se_X4_grows mq_in_X4 mq_co_X4_grows) rfl rfl rfl (by decide +kernel) ⟨Nat.le_of_ble_eq_true rfl, Nat.le_of_ble_eq_true rfl⟩) hP hK hN 0 rfl rfl rfl hl.1 rfl (Nat.le_of_ble_eq_true rfl) dX4_canGoOn_75 ⟨Nat.zero_le _, Nat.zero_le _⟩ (fun r9 h9 => ?_)
    obtain rfl : r9 = nI (ed_b (ru_gr T H h0 (Nat.testBit V) e0)) := h9
    refine lv_if_eq (tgt := 130) hx hb dX4_canGoOn_78 (by decide) (fun b78 => ?_) (fun b78 => ?_)
    -- ifeq at 78, t
    · have t78 := zb_0.mp b78
      refine lv_goto (tgt := 13) hx hb dX4_canGoOn_130 (by decide) ?_
      exact ih_13 _ _ _ _ (by omega) ⟨0, nI s0, ru_left a V * 64 + 2 * (a - (e0 + 1)) + 2, _, _, _, _, rfl, df_skip hC0 hG he0 t78, lv_sub hl [1, 2, 3] rfl, hP, hD, hS⟩
    -- ifeq at 78, f
    · have t78 := zb_n0.mp b78
      refine lv_aload_n hx hb dX4_canGoOn_81 rfl (lv_at hl 1 rfl) ?_
      refine lv_iload hx hb dX4_canGoOn_82 (lv_at hl 2 rfl) ?_
      refine lv_iconst (v := 1) hx hb dX4_canGoOn_84 (by decide) ?_
      refine lv_iadd hx hb dX4_canGoOn_85 ?_
      refine lv_topi (fun z9 e9 => ?_)
      obtain rfl : z9 = nI (s0 + 1) := e9.trans (nI_1 s0)
      refine lv_aload_n hx hb dX4_canGoOn_86 rfl (lv_at hl 1 rfl) ?_
      refine va_get (D := (dC, dI)) (ci := 4) (v := .ref (ad 6)) (C := RX4) (T := TX4) (N := 12) hx hb hw in_X4 hown hK hP 0 rfl rfl 8 (by decide) (hw _ mq_fl_X4_29) (fun _ h9 => h9) rfl dX4_canGoOn_87 ?_
      refine lv_iload hx hb dX4_canGoOn_90 (lv_at hl 2 rfl) ?_
      refine va_iald hx hb hK hP 6 0 rfl rfl (vp_in_nI (by omega) (by decide)) dX4_canGoOn_92 ?_
      refine lv_topi (fun z9 e9 => ?_)
      obtain rfl : z9 = nI t0 := e9.trans (by rw [nI_clamp (by omega)]; exact c1)
      refine lv_aload_n hx hb dX4_canGoOn_93 rfl (lv_at hl 1 rfl) ?_
      refine va_get (D := (dC, dI)) (ci := 4) (v := .ref (ad 7)) (C := RX4) (T := TX4) (N := 12) hx hb hw in_X4 hown hK hP 0 rfl rfl 9 (by decide) (hw _ mq_fl_X4_32) (fun _ h9 => h9) rfl dX4_canGoOn_94 ?_
      refine lv_iload hx hb dX4_canGoOn_97 (lv_at hl 2 rfl) ?_
      refine va_iald hx hb hK hP 7 0 rfl rfl (vp_in_nI (by omega) (by decide)) dX4_canGoOn_99 ?_
      refine lv_topi (fun z9 e9 => ?_)
      obtain rfl : z9 = nI h0 := e9.trans (by rw [nI_clamp (by omega)]; exact c2)
      refine lv_iconst (v := 1) hx hb dX4_canGoOn_100 (by decide) ?_
      refine lv_aload_n hx hb dX4_canGoOn_101 rfl (lv_at hl 1 rfl) ?_
      refine va_get (D := (dC, dI)) (ci := 4) (v := .ref (ad 2)) (C := RX4) (T := TX4) (N := 12) hx hb hw in_X4 hown hK hP 0 rfl rfl 4 (by decide) (hw _ mq_fl_X4_17) (fun _ h9 => h9) rfl dX4_canGoOn_102 ?_
      refine lv_iload hx hb dX4_canGoOn_105 (lv_at hl 0 rfl) ?_
      refine va_iald hx hb hK hP 2 0 rfl rfl (vp_in_nI (by omega) (by decide)) dX4_canGoOn_107 ?_
      refine lv_topi (fun z9 e9 => ?_)
      obtain rfl : z9 = nI (H e0) := e9.trans (ar_at H (by omega))
      refine lv_ishl hx hb dX4_canGoOn_108 ?_
      refine lv_ior hx hb dX4_canGoOn_109 ?_
      refine lv_topi (fun z9 e9 => ?_)
      obtain rfl : z9 = nI (h0 ||| 2 ^ H e0) := e9.trans (by rw [bi_sh _ (by omega), bi_or])
      refine lv_aload_n hx hb dX4_canGoOn_110 rfl (lv_at hl 1 rfl) ?_
      refine va_get (D := (dC, dI)) (ci := 4) (v := .ref (ad 8)) (C := RX4) (T := TX4) (N := 12) hx hb hw in_X4 hown hK hP 0 rfl rfl 10 (by decide) (hw _ mq_fl_X4_35) (fun _ h9 => h9) rfl dX4_canGoOn_111 ?_
      refine lv_iload hx hb dX4_canGoOn_114 (lv_at hl 2 rfl) ?_
      refine va_iald hx hb hK hP 8 0 rfl rfl (vp_in_nI (by omega) (by decide)) dX4_canGoOn_116 ?_
      refine lv_topi (fun z9 e9 => ?_)
      obtain rfl : z9 = nI V := e9.trans (by rw [nI_clamp (by omega)]; exact c3)
      refine lv_iconst (v := 1) hx hb dX4_canGoOn_117 (by decide) ?_
      refine lv_iload hx hb dX4_canGoOn_118 (lv_at hl 0 rfl) ?_
      refine lv_ishl hx hb dX4_canGoOn_120 ?_
      refine lv_ior hx hb dX4_canGoOn_121 ?_
      refine lv_topi (fun z9 e9 => ?_)
      obtain rfl : z9 = nI (V ||| 2 ^ e0) := e9.trans (by rw [bi_sh _ (by omega), bi_or])
      refine mu_Vi (As := [.int (nI (s0 + 1)), .int (nI t0), .int (nI (h0 ||| 2 ^ H e0)), .int (nI (V ||| 2 ^ e0))]) (rest := []) (b := ad 0) ⟨hx, hb, hml, hown, hts⟩ (c_X4_isDone l dC dI cI ad n a b T H R O Wy tr1 hd1 us1 (upd nx1 s0 (nI (e0 + 1))) _ (s0 + 1) t0 (h0 ||| 2 ^ H e0) (V ||| 2 ^ e0) hI0 (by omega) (by omega) (Nat.or_lt_two_pow c6 (bi_pw (hT2 e0 he0).2)) (df_used c11 (by omega))) (cwV 4 hts (bw_V mq_ml_X4_87 mq_im_X4_isDone mq_se_X4_isDone mq_in_X4 mq_co_X4_isDone) rfl rfl rfl (by decide +kernel) ⟨Nat.le_of_ble_eq_true rfl, Nat.le_of_ble_eq_true rfl⟩) hP hK hN hD hS hA 0 rfl rfl rfl hl.1 rfl (Nat.le_of_ble_eq_true rfl) dX4_canGoOn_122 ⟨Nat.zero_le _, Nat.zero_le _⟩ (fun r9 u9 Hp locs h9 hP hD hS => ?_)
      obtain ⟨⟨tt, hv⟩, rfl⟩ : ∃ z, z = u9 := ⟨_, rfl⟩
      obtain ⟨q1, q2, q3, q4, q5⟩ := h9
      obtain rfl : r9 = nI (ed_b (decide (tt = b))) := q1
      have hP : va_P (dC, dI) classes (mw ad cI n a b T H R O Wy (upd tr1 (s0 + 1) (nI tt)) (upd hd1 (s0 + 1) (nI hv)) (upd us1 (s0 + 1) (nI (V ||| 2 ^ e0))) (upd (upd nx1 s0 (nI (e0 + 1))) (s0 + 1) (nI (nxv a b tt (go n a b T H R tt hv (V ||| 2 ^ e0)))))) Hp := hP
      have hD : va_D A (mw ad cI n a b T H R O Wy (upd tr1 (s0 + 1) (nI tt)) (upd hd1 (s0 + 1) (nI hv)) (upd us1 (s0 + 1) (nI (V ||| 2 ^ e0))) (upd (upd nx1 s0 (nI (e0 + 1))) (s0 + 1) (nI (nxv a b tt (go n a b T H R tt hv (V ||| 2 ^ e0)))))) := hD
      refine lv_istore (lv' := [(5, .int (nI (ed_b (decide (tt = b))))), (6, .int (nI e0)), (0, .ref (ad 0)), (4, .int (nI s0))]) hx hb dX4_canGoOn_125 hl (by decide) rfl (fun ls hl => ?_)
      refine lv_iinc (k := 3) (v := nI (s0 + 1)) (lv' := [(4, .int (nI (s0 + 1))), (5, .int (nI (ed_b (decide (tt = b))))), (6, .int (nI e0)), (0, .ref (ad 0))]) hx hb dX4_canGoOn_127 hl rfl (ii_1 _) (by decide) rfl (fun ls hl => ?_)
      refine lv_goto (tgt := 13) hx hb dX4_canGoOn_130 (by decide) ?_
      obtain ⟨mu1, hlt, hdf1⟩ := df_down hC0 hG he0 a14 t78 q2 q3 q4 q5
      exact ih_13 _ _ _ _ (by omega) ⟨nI (ed_b (decide (tt = b))), nI (s0 + 1), mu1, _, _, _, _, rfl, hdf1, lv_sub hl [3, 0, 1] rfl, hP, hD, hS⟩
  · obtain ⟨s0, t0, h0, V, e0, em, rfl, rfl, hx1, hC, hs14, hG⟩ := hE9
    refine lv_iload hx hb dX4_canGoOn_13 (lv_at hl 2 rfl) ?_
    refine lv_if_ne (tgt := 133) hx hb dX4_canGoOn_15 (by decide) (fun b9 => absurd (rfl) b9) (fun _ => ?_)
    refine lv_iload hx hb dX4_canGoOn_18 (lv_at hl 1 rfl) ?_
    refine lv_if_lt (tgt := 133) hx hb dX4_canGoOn_20 (by decide) (fun b9 => absurd b9 (nI_pos (by omega))) (fun _ => ?_)
    refine lv_aload_n hx hb dX4_canGoOn_23 rfl (lv_at hl 0 rfl) ?_
    refine va_get (D := (dC, dI)) (ci := 4) (v := .ref (ad 9)) (C := RX4) (T := TX4) (N := 12) hx hb hw in_X4 hown hK hP 0 rfl rfl 11 (by decide) (hw _ mq_fl_X4_38) (fun _ h9 => h9) rfl dX4_canGoOn_24 ?_
    refine lv_iload hx hb dX4_canGoOn_27 (lv_at hl 1 rfl) ?_
    refine va_iald hx hb hK hP 9 0 rfl rfl (vp_in_nI (by omega) (by decide)) dX4_canGoOn_29 ?_
    refine lv_topi (fun z9 e9 => ?_)
    obtain rfl : z9 = nI a := e9.trans (by rw [nI_clamp (by omega)]; exact hx1)
    refine lv_istore (lv' := [(6, .int (nI a)), (0, .ref (ad 0)), (4, .int (nI (s0 + 1))), (5, .int 0)]) hx hb dX4_canGoOn_30 hl (by decide) rfl (fun ls hl => ?_)
    refine lv_iload hx hb dX4_canGoOn_32 (lv_at hl 0 rfl) ?_
    refine lv_aload_n hx hb dX4_canGoOn_34 rfl (lv_at hl 1 rfl) ?_
    refine va_get (D := (dC, dI)) (ci := 4) (v := .int (nI a)) (C := RX4) (T := TX4) (N := 12) hx hb hw in_X4 hown hK hP 0 rfl rfl 1 (by decide) (hw _ mq_fl_X4_45) (fun _ h9 => h9) rfl dX4_canGoOn_35 ?_
    refine lv_icmp_ne (tgt := 47) hx hb dX4_canGoOn_38 (by decide) (fun b9 => absurd (rfl) b9) (fun _ => ?_)
    refine lv_iinc (k := 2) (v := nI s0) (lv' := [(4, .int (nI s0)), (6, .int (nI a)), (0, .ref (ad 0)), (5, .int 0)]) hx hb dX4_canGoOn_41 hl rfl (pk_m1 s0) (by decide) rfl (fun ls hl => ?_)
    refine lv_goto (tgt := 130) hx hb dX4_canGoOn_44 (by decide) ?_
    refine lv_goto (tgt := 13) hx hb dX4_canGoOn_130 (by decide) ?_
    exact ih_13 _ _ _ _ (by omega) ⟨0, nI s0, ru_left a V * 64 + 2 * (a - e0) + 2, _, _, _, _, rfl, Or.inr (Or.inr (Or.inr (Or.inl ⟨s0, t0, h0, V, e0, rfl, rfl, rfl, hC, hG⟩))), lv_sub hl [2, 0, 3] rfl, hP, hD, hS⟩
set_option maxHeartbeats 4000000 in
set_option maxRecDepth 100000 in
theorem c_X4_packs (l : Launch) (dC : Nat → ClassId) (dI : Nat → Nat → Nat) (cI : ClassId) (ad : Nat → Nat) (n a b : Nat) (T H R : Nat → Nat) (O Wy tr hd us nx : Nat → Int32) (sz : Nat) (hI : st_I n a T H b R) : Met l yX4_packs (wq yX4_packs cX4_packs 1 (some .boolean)) ({ frames := 5, cells := 0, slots := 0, locals := 123 }) (mu_P (dC, dI) classes [(cI, .int)] (mw ad cI n a b T H R O Wy tr hd us nx) sz [.ref (ad 0)]) (va_Qi (fun (r : Int32) (u : (Nat → Int32) × (Nat → Int32) × (Nat → Int32) × (Nat → Int32)) => r = nI (ed_b (paF n a T H b R))) (mu_B (dC, dI) classes [(cI, .int)] (mw ad cI n a b T H R O Wy tr hd us nx) sz (fun u => mw ad cI n a b T H R O Wy u.1 u.2.1 u.2.2.1 u.2.2.2)) (va_A (mw ad cI n a b T H R O Wy tr hd us nx) sz)) 0 0 (va_A (mw ad cI n a b T H R O Wy tr hd us nx) sz) := by
  have hI0 := hI
  obtain ⟨n1, n7, a14, hT, hT2, hb3, hR3, hR⟩ := hI
  have p7 := bi_p7 n7
  have p0 := Nat.two_pow_pos n
  refine Met.ofW (cc := cX4_packs) (maxL := 1) (ret := (some .boolean)) (by decide) rfl ?_
  intro p e s m args below meth c s₁ B hml hv
  obtain ⟨rfl, hsz, hP, hK, hN, hD0⟩ := hv
  have hx := B.exec
  have hb := B.bytes
  have hr := B.returns
  have hlocks := B.notSynchronized
  have hts := atoms_spec (ws := (wq yX4_packs cX4_packs 1 (some .boolean))) B.pre
  have hw : ∀ w ∈ bigW, w.before _ s = true := fun w h => hts w (List.mem_cons_of_mem _ h)
  have hown : s.vm.findClass RX4 = some m.cls := findClass_of_methodNamed B.named
  subst hsz
  have hD := hD0.self (sz := s.heap.size)
  generalize hAe : va_A (mw ad cI n a b T H R O Wy tr hd us nx) s.heap.size = A at hD ⊢
  have hA : ∀ q : Nat, s.heap.size ≤ q → A q := fun q h => by rw [← hAe]; exact Or.inr h
  have hS : va_S A s.heap s.heap [] := va_S.rf
  have hl := lv_entry ([.ref (ad 0)]) (n := 1) (Nat.le_of_ble_eq_true rfl)
  rw [lg_entry_eq]
  generalize (lg_sl ([.ref (ad 0)]) ++ List.replicate (1 - (lg_sl ([.ref (ad 0)])).length) Slot.unset).toArray = ls at hl ⊢
  have hl : lv_has ls 1 [(0, .ref (ad 0))] := hl
  refine lv_aload_n hx hb dX4_packs_0 rfl (lv_at hl 0 rfl) ?_
  refine lv_iconst (v := nI 0) hx hb dX4_packs_1 (by decide) ?_
  refine lv_aload_n hx hb dX4_packs_2 rfl (lv_at hl 0 rfl) ?_
  refine va_get (D := (dC, dI)) (ci := 4) (v := .int (nI b)) (C := RX4) (T := TX4) (N := 12) hx hb hw in_X4 hown hK hP 0 rfl rfl 2 (by decide) (hw _ mq_fl_X4_56) (fun _ h9 => h9) rfl dX4_packs_3 ?_
  refine lv_if_le (tgt := 18) hx hb dX4_packs_6 (by decide) (fun b6 => ?_) (fun b6 => ?_)
  -- ifle at 6, t
  · have t6 : b = 0 := by
      have z := (nI_leI (b := 0) (by omega) (by decide)).mp b6
      omega
    refine lv_iconst (v := nI 0) hx hb dX4_packs_18 (by decide) ?_
    refine lv_iconst (v := nI 0) hx hb dX4_packs_19 (by decide) ?_
    refine mu_Vi (As := [.int (nI 0), .int (nI 0), .int (nI 0)]) (rest := []) (b := ad 0) ⟨hx, hb, hml, hown, hts⟩ (c_X4_canGoOn l dC dI cI ad n a b T H R O Wy tr hd us nx _ 0 0 0 hI0 (by omega) p0 (by decide)) (cwV 3 hts (bw_V mq_ml_X4_94 mq_im_X4_canGoOn mq_se_X4_canGoOn mq_in_X4 mq_co_X4_canGoOn) rfl rfl rfl (by decide +kernel) ⟨Nat.le_of_ble_eq_true rfl, Nat.le_of_ble_eq_true rfl⟩) hP hK hN hD hS hA 0 rfl rfl rfl hl.1 rfl (Nat.le_of_ble_eq_true rfl) dX4_packs_20 ⟨Nat.zero_le _, Nat.zero_le _⟩ (fun r9 u9 Hp locs h9 hP hD hS => ?_)
    obtain ⟨⟨tr1, hd1, us1, nx1⟩, rfl⟩ : ∃ z, z = u9 := ⟨_, rfl⟩
    obtain rfl : r9 = nI (ed_b (paF n a T H b R)) := h9.trans (by rw [go_pa0 t6])
    have hP : va_P (dC, dI) classes (mw ad cI n a b T H R O Wy tr1 hd1 us1 nx1) Hp := hP
    have hD : va_D A (mw ad cI n a b T H R O Wy tr1 hd1 us1 nx1) := hD
    exact W.zret (v := nI (ed_b (paF n a T H b R))) hx hb hr (zb_n _) (fun t ht hW => ⟨⟨_, (tr1, hd1, us1, nx1), rfl, rfl, by rw [ht]; exact hP, va_K.moved hW.alike hK, by rw [hAe]; exact hD⟩, hS.F ht⟩) hS.2.2 dX4_packs_23
  -- ifle at 6, f
  · have t6 : 0 < b := Nat.pos_of_ne_zero (fun z => b6 (by rw [z]; decide))
    refine lv_aload_n hx hb dX4_packs_9 rfl (lv_at hl 0 rfl) ?_
    refine va_get (D := (dC, dI)) (ci := 4) (v := .ref (ad 3)) (C := RX4) (T := TX4) (N := 12) hx hb hw in_X4 hown hK hP 0 rfl rfl 5 (by decide) (hw _ mq_fl_X4_20) (fun _ h9 => h9) rfl dX4_packs_10 ?_
    refine lv_iconst (v := nI 0) hx hb dX4_packs_13 (by decide) ?_
    refine va_iald hx hb hK hP 3 0 rfl rfl (vp_in_nI (by decide) (by decide)) dX4_packs_14 ?_
    refine lv_topi (fun z9 e9 => ?_)
    obtain rfl : z9 = nI (R 0) := e9.trans (ar_at R (by decide))
    refine lv_goto (tgt := 19) hx hb dX4_packs_15 (by decide) ?_
    refine lv_iconst (v := nI 0) hx hb dX4_packs_19 (by decide) ?_
    refine mu_Vi (As := [.int (nI 0), .int (nI (R 0)), .int (nI 0)]) (rest := []) (b := ad 0) ⟨hx, hb, hml, hown, hts⟩ (c_X4_canGoOn l dC dI cI ad n a b T H R O Wy tr hd us nx _ 0 (R 0) 0 hI0 (by omega) (hR3 0 t6).2 (by decide)) (cwV 3 hts (bw_V mq_ml_X4_94 mq_im_X4_canGoOn mq_se_X4_canGoOn mq_in_X4 mq_co_X4_canGoOn) rfl rfl rfl (by decide +kernel) ⟨Nat.le_of_ble_eq_true rfl, Nat.le_of_ble_eq_true rfl⟩) hP hK hN hD hS hA 0 rfl rfl rfl hl.1 rfl (Nat.le_of_ble_eq_true rfl) dX4_packs_20 ⟨Nat.zero_le _, Nat.zero_le _⟩ (fun r9 u9 Hp locs h9 hP hD hS => ?_)
    obtain ⟨⟨tr1, hd1, us1, nx1⟩, rfl⟩ : ∃ z, z = u9 := ⟨_, rfl⟩
    obtain rfl : r9 = nI (ed_b (paF n a T H b R)) := h9.trans (by rw [go_pa t6])
    have hP : va_P (dC, dI) classes (mw ad cI n a b T H R O Wy tr1 hd1 us1 nx1) Hp := hP
    have hD : va_D A (mw ad cI n a b T H R O Wy tr1 hd1 us1 nx1) := hD
    exact W.zret (v := nI (ed_b (paF n a T H b R))) hx hb hr (zb_n _) (fun t ht hW => ⟨⟨_, (tr1, hd1, us1, nx1), rfl, rfl, by rw [ht]; exact hP, va_K.moved hW.alike hK, by rw [hAe]; exact hD⟩, hS.F ht⟩) hS.2.2 dX4_packs_23
set_option maxHeartbeats 4000000 in
set_option maxRecDepth 100000 in
theorem c_X4_pack (l : Launch) (dC : Nat → ClassId) (dI : Nat → Nat → Nat) (cI : ClassId) (ad : Nat → Nat) (n a b : Nat) (T H R : Nat → Nat) (O Wy tr hd us nx : Nat → Int32) (sz : Nat) (hI : st_I n a T H b R) : Met l yX4_pack (wq yX4_pack cX4_pack 5 (some .boolean)) ({ frames := 6, cells := 0, slots := 0, locals := 143 }) (mu_P (dC, dI) classes [(cI, .int)] (mw ad cI n a b T H R O Wy tr hd us nx) sz [.ref (ad 0)]) (va_Qi (fun (r : Int32) (u : (Nat → Int32) × (Nat → Int32) × (Nat → Int32) × (Nat → Int32) × (Nat → Int32) × (Nat → Int32)) => r = nI (ed_b (paF n a T H b R)) ∧ (paF n a T H b R = true → (∀ j, j < 14 → u.1 j = pg_all n a b T H R j) ∧ wy_ok a H (pg_all n a b T H R) u.2.1)) (mu_B (dC, dI) classes [(cI, .int)] (mw ad cI n a b T H R O Wy tr hd us nx) sz (fun u => mw ad cI n a b T H R u.1 u.2.1 u.2.2.1 u.2.2.2.1 u.2.2.2.2.1 u.2.2.2.2.2)) (va_A (mw ad cI n a b T H R O Wy tr hd us nx) sz)) 0 0 (va_A (mw ad cI n a b T H R O Wy tr hd us nx) sz) := by
  have hI0 := hI
  obtain ⟨n1, n7, a14, hT, hT2, hb3, hR3, hR⟩ := hI
  have p7 := bi_p7 n7
  have p0 := Nat.two_pow_pos n
  refine Met.ofW (cc := cX4_pack) (maxL := 5) (ret := (some .boolean)) (by decide) rfl ?_
  intro p e s m args below meth c s₁ B hml hv
  obtain ⟨rfl, hsz, hP, hK, hN, hD0⟩ := hv
  have hx := B.exec
  have hb := B.bytes
  have hr := B.returns
  have hlocks := B.notSynchronized
  have hts := atoms_spec (ws := (wq yX4_pack cX4_pack 5 (some .boolean))) B.pre
  have hw : ∀ w ∈ bigW, w.before _ s = true := fun w h => hts w (List.mem_cons_of_mem _ h)
  have hown : s.vm.findClass RX4 = some m.cls := findClass_of_methodNamed B.named
  subst hsz
  have hD := hD0.self (sz := s.heap.size)
  generalize hAe : va_A (mw ad cI n a b T H R O Wy tr hd us nx) s.heap.size = A at hD ⊢
  have hA : ∀ q : Nat, s.heap.size ≤ q → A q := fun q h => by rw [← hAe]; exact Or.inr h
  have hS : va_S A s.heap s.heap [] := va_S.rf
  have hl := lv_entry ([.ref (ad 0)]) (n := 5) (Nat.le_of_ble_eq_true rfl)
  rw [lg_entry_eq]
  generalize (lg_sl ([.ref (ad 0)]) ++ List.replicate (5 - (lg_sl ([.ref (ad 0)])).length) Slot.unset).toArray = ls at hl ⊢
  have hl : lv_has ls 5 [(0, .ref (ad 0))] := hl
  refine lv_iconst (v := nI 0) hx hb dX4_pack_0 (by decide) ?_
  refine lv_istore_n (lv' := [(1, .int (nI 0)), (0, .ref (ad 0))]) hx hb dX4_pack_1 rfl hl (by decide) rfl (fun ls hl => ?_)
  refine wl_loopH (fun k9 Hp locs ls => ∃ (i : Nat) (O1 : Nat → Int32), 14 - i = k9 ∧ (i ≤ 14) ∧ (∀ j, j < i → O1 j = -1) ∧ lv_has ls 5 [(0, .ref (ad 0)), (1, .int (nI i))] ∧ va_P (dC, dI) classes (mw ad cI n a b T H R O1 Wy tr hd us nx) Hp ∧ va_D A (mw ad cI n a b T H R O1 Wy tr hd us nx) ∧ va_S A s.heap Hp locs) ?_ _ ⟨0, O, rfl, by omega, fun j hj => by omega, lv_sub hl [1, 0] rfl, hP, hD, hS⟩
  clear hP hD hS hl
  intro k9 Hp locs ls ih9 h9
  obtain ⟨i, O1, k9e, hi, hO, hl, hP, hD, hS⟩ := h9
  have ih_2 := ih9
  clear ih9
  subst k9e
  refine lv_iload_n hx hb dX4_pack_2 rfl (lv_at hl 1 rfl) ?_
  refine lv_bipush (v := nI 14) hx hb dX4_pack_3 (by decide) ?_
  refine lv_icmp_ge (tgt := 21) hx hb dX4_pack_5 (by decide) (fun b5 => ?_) (fun b5 => ?_)
  -- if_icmpge at 5, t
  · have t5 := (nI_leI (by omega) (by omega)).mp b5
    have hP : va_P (dC, dI) classes (mw ad cI n a b T H R (fun _ => -1) Wy tr hd us nx) Hp := mw_O (fun j hj => hO j (by omega)) hP
    have hD : va_D A (mw ad cI n a b T H R (fun _ => -1) Wy tr hd us nx) := mw_D hD
    refine lv_iconst (v := nI 0) hx hb dX4_pack_21 (by decide) ?_
    refine lv_istore_n (lv' := [(1, .int (nI 0)), (0, .ref (ad 0))]) hx hb dX4_pack_22 rfl hl (by decide) rfl (fun ls hl => ?_)
    refine wl_loopH (fun k9 Hp locs ls => ∃ (i : Nat) (W1 : Nat → Int32), 21 - i = k9 ∧ (i ≤ 21) ∧ (∀ j, j < i → W1 j = -1) ∧ lv_has ls 5 [(0, .ref (ad 0)), (1, .int (nI i))] ∧ va_P (dC, dI) classes (mw ad cI n a b T H R (fun _ => -1) W1 tr hd us nx) Hp ∧ va_D A (mw ad cI n a b T H R (fun _ => -1) W1 tr hd us nx) ∧ va_S A s.heap Hp locs) ?_ _ ⟨0, Wy, rfl, by omega, fun j hj => by omega, lv_sub hl [1, 0] rfl, hP, hD, hS⟩
    clear hP hD hS hl
    intro k9 Hp locs ls ih9 h9
    obtain ⟨i, W1, k9e, hi, hW, hl, hP, hD, hS⟩ := h9
    have ih_23 := ih9
    clear ih9
    subst k9e
    refine lv_iload_n hx hb dX4_pack_23 rfl (lv_at hl 1 rfl) ?_
    refine lv_bipush (v := nI 21) hx hb dX4_pack_24 (by decide) ?_
    refine lv_icmp_ge (tgt := 42) hx hb dX4_pack_26 (by decide) (fun b26 => ?_) (fun b26 => ?_)
    -- if_icmpge at 26, t
    · have t26 := (nI_leI (by omega) (by omega)).mp b26
      refine lv_aload_n hx hb dX4_pack_42 rfl (lv_at hl 0 rfl) ?_
      refine mu_Vi (As := []) (rest := []) (b := ad 0) ⟨hx, hb, hml, hown, hts⟩ (c_X4_packs l dC dI cI ad n a b T H R (fun _ => -1) W1 tr hd us nx _ hI0) (cwV 0 hts (bw_V mq_ml_X4_97 mq_im_X4_packs mq_se_X4_packs mq_in_X4 mq_co_X4_packs) rfl rfl rfl (by decide +kernel) ⟨Nat.le_of_ble_eq_true rfl, Nat.le_of_ble_eq_true rfl⟩) hP hK hN hD hS hA 0 rfl rfl rfl hl.1 rfl (Nat.le_of_ble_eq_true rfl) dX4_pack_43 ⟨Nat.zero_le _, Nat.zero_le _⟩ (fun r9 u9 Hp locs h9 hP hD hS => ?_)
      obtain ⟨⟨tr5, hd5, us5, nx5⟩, rfl⟩ : ∃ z, z = u9 := ⟨_, rfl⟩
      obtain rfl : r9 = nI (ed_b (paF n a T H b R)) := h9
      have hP : va_P (dC, dI) classes (mw ad cI n a b T H R (fun _ => -1) W1 tr5 hd5 us5 nx5) Hp := hP
      have hD : va_D A (mw ad cI n a b T H R (fun _ => -1) W1 tr5 hd5 us5 nx5) := hD
      refine lv_if_ne (tgt := 51) hx hb dX4_pack_46 (by decide) (fun b46 => ?_) (fun b46 => ?_)
      -- ifne at 46, t
      · have t46 := zb_n0.mp b46
        refine lv_iconst (v := nI 0) hx hb dX4_pack_51 (by decide) ?_
        refine lv_istore_n (lv' := [(1, .int (nI 0)), (0, .ref (ad 0))]) hx hb dX4_pack_52 rfl hl (by decide) rfl (fun ls hl => ?_)
        refine lv_iconst (v := nI 0) hx hb dX4_pack_53 (by decide) ?_
        refine lv_istore_n (lv' := [(2, .int (nI 0)), (1, .int (nI 0)), (0, .ref (ad 0))]) hx hb dX4_pack_54 rfl hl (by decide) rfl (fun ls hl => ?_)
        have hPI0 : pg_I n a b T H R 0 (pg_O n a b T H R 0) := ⟨fun z => by rw [show ow_u (pg_O n a b T H R 0) = fun _ => false from ow_m1]; exact ru_ok_iff.mp ((pa_ok z).symm.trans t46), fun e => Or.inl rfl⟩
        refine wl_loopH (fun k9 Hp locs ls => ∃ (k : Nat) (U2 : Nat) (W2 : Nat → Int32) (tr2 : Nat → Int32) (hd2 : Nat → Int32) (us2 : Nat → Int32) (nx2 : Nat → Int32), b - k = k9 ∧ (k ≤ b) ∧ (pg_I n a b T H R k (pg_O n a b T H R k)) ∧ (Nat.testBit U2 = ow_u (pg_O n a b T H R k)) ∧ (U2 < 2 ^ 14) ∧ (wy_ok a H (pg_O n a b T H R k) W2) ∧ lv_has ls 5 [(0, .ref (ad 0)), (1, .int (nI U2)), (2, .int (nI k))] ∧ va_P (dC, dI) classes (mw ad cI n a b T H R (pg_O n a b T H R k) W2 tr2 hd2 us2 nx2) Hp ∧ va_D A (mw ad cI n a b T H R (pg_O n a b T H R k) W2 tr2 hd2 us2 nx2) ∧ va_S A s.heap Hp locs) ?_ _ ⟨0, 0, W1, _, _, _, _, rfl, by omega, hPI0, tb_0.trans ow_m1.symm, by decide, wy_0 (fun e he => rfl) (fun j hj => hW j (by omega)), lv_sub hl [2, 1, 0] rfl, hP, hD, hS⟩
        clear hP hD hS hl
        intro k9 Hp locs ls ih9 h9
        obtain ⟨k, U2, W2, tr2, hd2, us2, nx2, k9e, hk, hPI, hU2, hU24, hW2, hl, hP, hD, hS⟩ := h9
        have ih_55 := ih9
        clear ih9
        subst k9e
        refine lv_iload_n hx hb dX4_pack_55 rfl (lv_at hl 2 rfl) ?_
        refine lv_aload_n hx hb dX4_pack_56 rfl (lv_at hl 0 rfl) ?_
        refine va_get (D := (dC, dI)) (ci := 4) (v := .int (nI b)) (C := RX4) (T := TX4) (N := 12) hx hb hw in_X4 hown hK hP 0 rfl rfl 2 (by decide) (hw _ mq_fl_X4_56) (fun _ h9 => h9) rfl dX4_pack_57 ?_
        refine lv_icmp_ge (tgt := 178) hx hb dX4_pack_60 (by decide) (fun b60 => ?_) (fun b60 => ?_)
        -- if_icmpge at 60, t
        · have t60 := (nI_leI (by omega) (by omega)).mp b60
          refine lv_iconst (v := 1) hx hb dX4_pack_178 (by decide) ?_
          have e60 : k = b := by omega
          rw [e60] at hW2 hP hD
          exact W.zret (v := 1) hx hb hr rfl (fun t ht hW => ⟨⟨_, (pg_O n a b T H R b, W2, tr2, hd2, us2, nx2), rfl, ⟨zb_T t46, fun _ => ⟨fun j _ => by rw [pg_yes t46], by rw [pg_yes t46]; exact hW2⟩⟩, by rw [ht]; exact hP, va_K.moved hW.alike hK, by rw [hAe]; exact hD⟩, hS.F ht⟩) hS.2.2 dX4_pack_179
        -- if_icmpge at 60, f
        · have t60 : k < b := Nat.lt_of_not_le (fun z => b60 (nI_le z (by omega)))
          refine lv_aload_n hx hb dX4_pack_63 rfl (lv_at hl 0 rfl) ?_
          refine va_get (D := (dC, dI)) (ci := 4) (v := .ref (ad 3)) (C := RX4) (T := TX4) (N := 12) hx hb hw in_X4 hown hK hP 0 rfl rfl 5 (by decide) (hw _ mq_fl_X4_20) (fun _ h9 => h9) rfl dX4_pack_64 ?_
          refine lv_iload_n hx hb dX4_pack_67 rfl (lv_at hl 2 rfl) ?_
          refine va_iald hx hb hK hP 3 0 rfl rfl (vp_in_nI (by omega) (by decide)) dX4_pack_68 ?_
          refine lv_topi (fun z9 e9 => ?_)
          obtain rfl : z9 = nI (R k) := e9.trans (ar_at R (by omega))
          refine lv_istore_n (lv' := [(3, .int (nI (R k))), (0, .ref (ad 0)), (1, .int (nI U2)), (2, .int (nI k))]) hx hb dX4_pack_69 rfl hl (by decide) rfl (fun ls hl => ?_)
          have hI1 := pg_start hR3 hb3 t60 hPI
          refine wl_loopH (fun k9 Hp locs ls => ∃ (i : Nat) (U3 : Nat) (W3 : Nat → Int32) (tr3 : Nat → Int32) (hd3 : Nat → Int32) (us3 : Nat → Int32) (nx3 : Nat → Int32), ru_left n (ru_it n a b T H R k i (R k, pg_O n a b T H R k)).1 = k9 ∧ (Nat.testBit U3 = ow_u (ru_it n a b T H R k i (R k, pg_O n a b T H R k)).2) ∧ (U3 < 2 ^ 14) ∧ (wy_ok a H (ru_it n a b T H R k i (R k, pg_O n a b T H R k)).2 W3) ∧ lv_has ls 5 [(0, .ref (ad 0)), (1, .int (nI U3)), (2, .int (nI k)), (3, .int (nI (ru_it n a b T H R k i (R k, pg_O n a b T H R k)).1))] ∧ va_P (dC, dI) classes (mw ad cI n a b T H R ((ru_it n a b T H R k i (R k, pg_O n a b T H R k)).2) W3 tr3 hd3 us3 nx3) Hp ∧ va_D A (mw ad cI n a b T H R ((ru_it n a b T H R k i (R k, pg_O n a b T H R k)).2) W3 tr3 hd3 us3 nx3) ∧ va_S A s.heap Hp locs) ?_ _ ⟨0, U2, W2, _, _, _, _, rfl, hU2, hU24, hW2, lv_sub hl [1, 2, 3, 0] rfl, hP, hD, hS⟩
          clear hP hD hS hl
          intro k9 Hp locs ls ih9 h9
          obtain ⟨i, U3, W3, tr3, hd3, us3, nx3, k9e, hU3, hU34, hW3, hl, hP, hD, hS⟩ := h9
          have ih_70 := ih9
          clear ih9
          subst k9e
          obtain ⟨I1, I2, I3, I4, I5⟩ := ru_I_it hT2 (by omega : k < 3) hI1 i
          refine lv_iload_n hx hb dX4_pack_70 rfl (lv_at hl 3 rfl) ?_
          refine lv_aload_n hx hb dX4_pack_71 rfl (lv_at hl 0 rfl) ?_
          refine ro_V (As := []) (rest := [.int (nI (ru_it n a b T H R k i (R k, pg_O n a b T H R k)).1)]) (b := ad 0) ⟨hx, hb, hml, hown, hts⟩ (c_X4_all l dC dI cI ad n a b T H R ((ru_it n a b T H R k i (R k, pg_O n a b T H R k)).2) W3 tr3 hd3 us3 nx3 n7) (cwV 0 hts (bw_V mq_ml_X4_41 mq_im_X4_all mq_se_X4_all mq_in_X4 mq_co_X4_all) rfl rfl rfl (by decide +kernel) ⟨Nat.le_of_ble_eq_true rfl, Nat.le_of_ble_eq_true rfl⟩) hP hK hN 0 rfl rfl rfl hl.1 rfl (Nat.le_of_ble_eq_true rfl) dX4_pack_72 ⟨Nat.zero_le _, Nat.zero_le _⟩ (fun r9 h9 => ?_)
          obtain rfl : r9 = nI (2 ^ n - 1) := h9
          refine lv_icmp_eq (tgt := 172) hx hb dX4_pack_75 (by decide) (fun b75 => ?_) (fun b75 => ?_)
          -- if_icmpeq at 75, t
          · have hf : (ru_it n a b T H R k i (R k, pg_O n a b T H R k)).1 = 2 ^ n - 1 := (nI_eq (by omega) (by omega)).mp b75
            refine lv_iinc (k := 2) (v := nI (k + 1)) (lv' := [(2, .int (nI (k + 1))), (0, .ref (ad 0)), (1, .int (nI U3)), (3, .int (nI (ru_it n a b T H R k i (R k, pg_O n a b T H R k)).1))]) hx hb dX4_pack_172 hl rfl (ii_1 _) (by decide) rfl (fun ls hl => ?_)
            refine lv_goto (tgt := 55) hx hb dX4_pack_175 (by decide) ?_
            have e8 := ru_it_two hf (ru_it_all hT2 (by omega : k < 3) hI1)
            rw [e8] at hP hD hU3 hW3
            exact ih_55 _ _ _ _ (by omega) ⟨k + 1, U3, W3, _, _, _, _, rfl, by omega, pg_step hT2 hR3 hb3 t60 hPI, hU3, hU34, hW3, lv_sub hl [1, 2, 0] rfl, hP, hD, hS⟩
          -- if_icmpeq at 75, f
          · have hf : ¬ (ru_it n a b T H R k i (R k, pg_O n a b T H R k)).1 = 2 ^ n - 1 := fun z => b75 (by rw [z])
            obtain ⟨p1, p2, p3, p4⟩ := ru_pick_at I1 (fun e he => (hT2 e he).1) I2 hf
            obtain ⟨j, hj⟩ : ∃ j, j = ru_pick n a b T H R k (ru_it n a b T H R k i (R k, pg_O n a b T H R k)).1 (ow_u (ru_it n a b T H R k i (R k, pg_O n a b T H R k)).2) := ⟨_, rfl⟩
            rw [← hj] at p1 p2 p3 p4
            have hgj : ru_good n a b T H R k (ru_it n a b T H R k i (R k, pg_O n a b T H R k)).1 (ow_u (ru_it n a b T H R k i (R k, pg_O n a b T H R k)).2) j = true := by rw [ru_good, p2, ru_ok_iff.mpr p3]; rfl
            refine lv_iconst (v := nI 0) hx hb dX4_pack_78 (by decide) ?_
            refine lv_istore (lv' := [(4, .int (nI 0)), (0, .ref (ad 0)), (1, .int (nI U3)), (2, .int (nI k)), (3, .int (nI (ru_it n a b T H R k i (R k, pg_O n a b T H R k)).1))]) hx hb dX4_pack_79 hl (by decide) rfl (fun ls hl => ?_)
            refine wl_loopH (fun k9 Hp locs ls => ∃ (e0 : Nat) (tr4 : Nat → Int32) (hd4 : Nat → Int32) (us4 : Nat → Int32) (nx4 : Nat → Int32), a - e0 = k9 ∧ (e0 ≤ j) ∧ lv_has ls 5 [(0, .ref (ad 0)), (1, .int (nI U3)), (2, .int (nI k)), (3, .int (nI (ru_it n a b T H R k i (R k, pg_O n a b T H R k)).1)), (4, .int (nI e0))] ∧ va_P (dC, dI) classes (mw ad cI n a b T H R ((ru_it n a b T H R k i (R k, pg_O n a b T H R k)).2) W3 tr4 hd4 us4 nx4) Hp ∧ va_D A (mw ad cI n a b T H R ((ru_it n a b T H R k i (R k, pg_O n a b T H R k)).2) W3 tr4 hd4 us4 nx4) ∧ va_S A s.heap Hp locs) ?_ _ ⟨0, _, _, _, _, rfl, by omega, lv_sub hl [1, 2, 3, 4, 0] rfl, hP, hD, hS⟩
            clear hP hD hS hl
            intro k9 Hp locs ls ih9 h9
            obtain ⟨e0, tr4, hd4, us4, nx4, k9e, he, hl, hP, hD, hS⟩ := h9
            have ih_81 := ih9
            clear ih9
            subst k9e
            have q7 := hT e0
            refine lv_aload_n hx hb dX4_pack_81 rfl (lv_at hl 0 rfl) ?_
            refine lv_iload_n hx hb dX4_pack_82 rfl (lv_at hl 3 rfl) ?_
            refine lv_iload_n hx hb dX4_pack_83 rfl (lv_at hl 1 rfl) ?_
            refine lv_iload hx hb dX4_pack_84 (lv_at hl 4 rfl) ?_
            refine ro_V (As := [.int (nI (ru_it n a b T H R k i (R k, pg_O n a b T H R k)).1), .int (nI U3), .int (nI e0)]) (rest := []) (b := ad 0) ⟨hx, hb, hml, hown, hts⟩ (c_X4_grows l dC dI cI ad n a b T H R ((ru_it n a b T H R k i (R k, pg_O n a b T H R k)).2) W3 tr4 hd4 us4 nx4 (ru_it n a b T H R k i (R k, pg_O n a b T H R k)).1 U3 e0 (by omega) (by omega) hU34 hT) (cwV 3 hts (bw_V mq_ml_X4_91 mq_im_X4_grows mq_se_X4_grows mq_in_X4 mq_co_X4_grows) rfl rfl rfl (by decide +kernel) ⟨Nat.le_of_ble_eq_true rfl, Nat.le_of_ble_eq_true rfl⟩) hP hK hN 0 rfl rfl rfl hl.1 rfl (Nat.le_of_ble_eq_true rfl) dX4_pack_86 ⟨Nat.zero_le _, Nat.zero_le _⟩ (fun r9 h9 => ?_)
            obtain rfl : r9 = nI (ed_b (ru_gr T H (ru_it n a b T H R k i (R k, pg_O n a b T H R k)).1 (Nat.testBit U3) e0)) := h9
            refine lv_if_eq (tgt := 117) hx hb dX4_pack_89 (by decide) (fun b89 => ?_) (fun b89 => ?_)
            -- ifeq at 89, t
            · have t89 := zb_0.mp b89
              refine lv_iinc (k := 4) (v := nI (e0 + 1)) (lv' := [(4, .int (nI (e0 + 1))), (0, .ref (ad 0)), (1, .int (nI U3)), (2, .int (nI k)), (3, .int (nI (ru_it n a b T H R k i (R k, pg_O n a b T H R k)).1))]) hx hb dX4_pack_117 hl rfl (ii_1 _) (by decide) rfl (fun ls hl => ?_)
              refine lv_goto (tgt := 81) hx hb dX4_pack_120 (by decide) ?_
              have g9 : ru_good n a b T H R k (ru_it n a b T H R k i (R k, pg_O n a b T H R k)).1 (ow_u (ru_it n a b T H R k i (R k, pg_O n a b T H R k)).2) e0 = false := by rw [← hU3, ru_good, t89, Bool.false_and]
              have ne9 : e0 ≠ j := fun z => by rw [z, hgj] at g9; cases g9
              exact ih_81 _ _ _ _ (by omega) ⟨e0 + 1, _, _, _, _, rfl, by omega, lv_sub hl [1, 2, 3, 4, 0] rfl, hP, hD, hS⟩
            -- ifeq at 89, f
            · have t89 := zb_n0.mp b89
              refine lv_aload_n hx hb dX4_pack_92 rfl (lv_at hl 0 rfl) ?_
              refine lv_iload_n hx hb dX4_pack_93 rfl (lv_at hl 2 rfl) ?_
              refine lv_iload_n hx hb dX4_pack_94 rfl (lv_at hl 3 rfl) ?_
              refine lv_iconst (v := 1) hx hb dX4_pack_95 (by decide) ?_
              refine lv_aload_n hx hb dX4_pack_96 rfl (lv_at hl 0 rfl) ?_
              refine va_get (D := (dC, dI)) (ci := 4) (v := .ref (ad 2)) (C := RX4) (T := TX4) (N := 12) hx hb hw in_X4 hown hK hP 0 rfl rfl 4 (by decide) (hw _ mq_fl_X4_17) (fun _ h9 => h9) rfl dX4_pack_97 ?_
              refine lv_iload hx hb dX4_pack_100 (lv_at hl 4 rfl) ?_
              refine va_iald hx hb hK hP 2 0 rfl rfl (vp_in_nI (by omega) (by decide)) dX4_pack_102 ?_
              refine lv_topi (fun z9 e9 => ?_)
              obtain rfl : z9 = nI (H e0) := e9.trans (ar_at H (by omega))
              refine lv_ishl hx hb dX4_pack_103 ?_
              refine lv_ior hx hb dX4_pack_104 ?_
              refine lv_topi (fun z9 e9 => ?_)
              obtain rfl : z9 = nI ((ru_it n a b T H R k i (R k, pg_O n a b T H R k)).1 ||| 2 ^ H e0) := e9.trans (by rw [bi_sh _ (by omega), bi_or])
              refine lv_iload_n hx hb dX4_pack_105 rfl (lv_at hl 1 rfl) ?_
              refine lv_iconst (v := 1) hx hb dX4_pack_106 (by decide) ?_
              refine lv_iload hx hb dX4_pack_107 (lv_at hl 4 rfl) ?_
              refine lv_ishl hx hb dX4_pack_109 ?_
              refine lv_ior hx hb dX4_pack_110 ?_
              refine lv_topi (fun z9 e9 => ?_)
              obtain rfl : z9 = nI (U3 ||| 2 ^ e0) := e9.trans (by rw [bi_sh _ (by omega), bi_or])
              refine mu_Vi (As := [.int (nI k), .int (nI ((ru_it n a b T H R k i (R k, pg_O n a b T H R k)).1 ||| 2 ^ H e0)), .int (nI (U3 ||| 2 ^ e0))]) (rest := []) (b := ad 0) ⟨hx, hb, hml, hown, hts⟩ (c_X4_canGoOn l dC dI cI ad n a b T H R ((ru_it n a b T H R k i (R k, pg_O n a b T H R k)).2) W3 tr4 hd4 us4 nx4 _ k ((ru_it n a b T H R k i (R k, pg_O n a b T H R k)).1 ||| 2 ^ H e0) (U3 ||| 2 ^ e0) hI0 (by omega) (Nat.or_lt_two_pow I2 (bi_pw (hT2 e0 (by omega)).2)) (df_used hU34 (by omega))) (cwV 3 hts (bw_V mq_ml_X4_94 mq_im_X4_canGoOn mq_se_X4_canGoOn mq_in_X4 mq_co_X4_canGoOn) rfl rfl rfl (by decide +kernel) ⟨Nat.le_of_ble_eq_true rfl, Nat.le_of_ble_eq_true rfl⟩) hP hK hN hD hS hA 0 rfl rfl rfl hl.1 rfl (Nat.le_of_ble_eq_true rfl) dX4_pack_111 ⟨Nat.zero_le _, Nat.zero_le _⟩ (fun r9 u9 Hp locs h9 hP hD hS => ?_)
              obtain ⟨⟨tr6, hd6, us6, nx6⟩, rfl⟩ : ∃ z, z = u9 := ⟨_, rfl⟩
              obtain rfl : r9 = nI (ed_b (go n a b T H R k ((ru_it n a b T H R k i (R k, pg_O n a b T H R k)).1 ||| 2 ^ H e0) (U3 ||| 2 ^ e0))) := h9
              have hP : va_P (dC, dI) classes (mw ad cI n a b T H R ((ru_it n a b T H R k i (R k, pg_O n a b T H R k)).2) W3 tr6 hd6 us6 nx6) Hp := hP
              have hD : va_D A (mw ad cI n a b T H R ((ru_it n a b T H R k i (R k, pg_O n a b T H R k)).2) W3 tr6 hd6 us6 nx6) := hD
              refine lv_if_ne (tgt := 123) hx hb dX4_pack_114 (by decide) (fun b114 => ?_) (fun b114 => ?_)
              -- ifne at 114, t
              · have t114 := zb_n0.mp b114
                have g9 : ru_good n a b T H R k (ru_it n a b T H R k i (R k, pg_O n a b T H R k)).1 (ow_u (ru_it n a b T H R k i (R k, pg_O n a b T H R k)).2) e0 = true := by rw [← hU3, go_good t60, t89, t114]; rfl
                have ej : j = e0 := by
                  rcases Nat.lt_or_ge e0 j with z | z
                  · rw [p4 e0 z] at g9
                    cases g9
                  · omega
                rw [ej] at hj p1 p2 p3 p4
                refine lv_aload_n hx hb dX4_pack_123 rfl (lv_at hl 0 rfl) ?_
                refine va_get (D := (dC, dI)) (ci := 4) (v := .ref (ad 4)) (C := RX4) (T := TX4) (N := 12) hx hb hw in_X4 hown hK hP 0 rfl rfl 6 (by decide) (hw _ mq_fl_X4_23) (fun _ h9 => h9) rfl dX4_pack_124 ?_
                refine lv_iload hx hb dX4_pack_127 (lv_at hl 4 rfl) ?_
                refine lv_iload_n hx hb dX4_pack_129 rfl (lv_at hl 2 rfl) ?_
                refine va_iast hx hb hK hP hD hS 4 0 rfl rfl (vp_in_nI (by omega) (by decide)) dX4_pack_130 (fun Hp locs hP hD hS => ?_)
                rw [nI_clamp (show e0 < 2 ^ 31 by omega)] at hP hD
                have hP : va_P (dC, dI) classes (mw ad cI n a b T H R (upd (ru_it n a b T H R k i (R k, pg_O n a b T H R k)).2 e0 (nI k)) W3 tr6 hd6 us6 nx6) Hp := hP
                have hD : va_D A (mw ad cI n a b T H R (upd (ru_it n a b T H R k i (R k, pg_O n a b T H R k)).2 e0 (nI k)) W3 tr6 hd6 us6 nx6) := hD
                refine lv_aload_n hx hb dX4_pack_131 rfl (lv_at hl 0 rfl) ?_
                refine va_get (D := (dC, dI)) (ci := 4) (v := .ref (ad 5)) (C := RX4) (T := TX4) (N := 12) hx hb hw in_X4 hown hK hP 0 rfl rfl 7 (by decide) (hw _ mq_fl_X4_26) (fun _ h9 => h9) rfl dX4_pack_132 ?_
                refine lv_bipush (v := nI 7) hx hb dX4_pack_135 (by decide) ?_
                refine lv_iload_n hx hb dX4_pack_137 rfl (lv_at hl 2 rfl) ?_
                refine lv_imul hx hb dX4_pack_138 ?_
                refine lv_topi (fun z9 e9 => ?_)
                obtain rfl : z9 = nI (7 * k) := e9.trans (pk_mul 7 k)
                refine lv_aload_n hx hb dX4_pack_139 rfl (lv_at hl 0 rfl) ?_
                refine va_get (D := (dC, dI)) (ci := 4) (v := .ref (ad 2)) (C := RX4) (T := TX4) (N := 12) hx hb hw in_X4 hown hK hP 0 rfl rfl 4 (by decide) (hw _ mq_fl_X4_17) (fun _ h9 => h9) rfl dX4_pack_140 ?_
                refine lv_iload hx hb dX4_pack_143 (lv_at hl 4 rfl) ?_
                refine va_iald hx hb hK hP 2 0 rfl rfl (vp_in_nI (by omega) (by decide)) dX4_pack_145 ?_
                refine lv_topi (fun z9 e9 => ?_)
                obtain rfl : z9 = nI (H e0) := e9.trans (ar_at H (by omega))
                refine lv_iadd hx hb dX4_pack_146 ?_
                refine lv_topi (fun z9 e9 => ?_)
                obtain rfl : z9 = nI (7 * k + H e0) := e9.trans (nI_add _ _)
                refine lv_iload hx hb dX4_pack_147 (lv_at hl 4 rfl) ?_
                refine va_iast hx hb hK hP hD hS 5 0 rfl rfl (vp_in_nI (by omega) (by decide)) dX4_pack_149 (fun Hp locs hP hD hS => ?_)
                rw [nI_clamp (show 7 * k + H e0 < 2 ^ 31 by omega)] at hP hD
                have hP : va_P (dC, dI) classes (mw ad cI n a b T H R (upd (ru_it n a b T H R k i (R k, pg_O n a b T H R k)).2 e0 (nI k)) (upd W3 (7 * k + H e0) (nI e0)) tr6 hd6 us6 nx6) Hp := hP
                have hD : va_D A (mw ad cI n a b T H R (upd (ru_it n a b T H R k i (R k, pg_O n a b T H R k)).2 e0 (nI k)) (upd W3 (7 * k + H e0) (nI e0)) tr6 hd6 us6 nx6) := hD
                refine lv_iload_n hx hb dX4_pack_150 rfl (lv_at hl 3 rfl) ?_
                refine lv_iconst (v := 1) hx hb dX4_pack_151 (by decide) ?_
                refine lv_aload_n hx hb dX4_pack_152 rfl (lv_at hl 0 rfl) ?_
                refine va_get (D := (dC, dI)) (ci := 4) (v := .ref (ad 2)) (C := RX4) (T := TX4) (N := 12) hx hb hw in_X4 hown hK hP 0 rfl rfl 4 (by decide) (hw _ mq_fl_X4_17) (fun _ h9 => h9) rfl dX4_pack_153 ?_
                refine lv_iload hx hb dX4_pack_156 (lv_at hl 4 rfl) ?_
                refine va_iald hx hb hK hP 2 0 rfl rfl (vp_in_nI (by omega) (by decide)) dX4_pack_158 ?_
                refine lv_topi (fun z9 e9 => ?_)
                obtain rfl : z9 = nI (H e0) := e9.trans (ar_at H (by omega))
                refine lv_ishl hx hb dX4_pack_159 ?_
                refine lv_ior hx hb dX4_pack_160 ?_
                refine lv_topi (fun z9 e9 => ?_)
                obtain rfl : z9 = nI ((ru_it n a b T H R k i (R k, pg_O n a b T H R k)).1 ||| 2 ^ H e0) := e9.trans (by rw [bi_sh _ (by omega), bi_or])
                refine lv_istore_n (lv' := [(3, .int (nI ((ru_it n a b T H R k i (R k, pg_O n a b T H R k)).1 ||| 2 ^ H e0))), (0, .ref (ad 0)), (1, .int (nI U3)), (2, .int (nI k)), (4, .int (nI e0))]) hx hb dX4_pack_161 rfl hl (by decide) rfl (fun ls hl => ?_)
                refine lv_iload_n hx hb dX4_pack_162 rfl (lv_at hl 2 rfl) ?_
                refine lv_iconst (v := 1) hx hb dX4_pack_163 (by decide) ?_
                refine lv_iload hx hb dX4_pack_164 (lv_at hl 4 rfl) ?_
                refine lv_ishl hx hb dX4_pack_166 ?_
                refine lv_ior hx hb dX4_pack_167 ?_
                refine lv_topi (fun z9 e9 => ?_)
                obtain rfl : z9 = nI (U3 ||| 2 ^ e0) := e9.trans (by rw [bi_sh _ (by omega), bi_or])
                refine lv_istore_n (lv' := [(1, .int (nI (U3 ||| 2 ^ e0))), (3, .int (nI ((ru_it n a b T H R k i (R k, pg_O n a b T H R k)).1 ||| 2 ^ H e0))), (0, .ref (ad 0)), (2, .int (nI k)), (4, .int (nI e0))]) hx hb dX4_pack_168 rfl hl (by decide) rfl (fun ls hl => ?_)
                refine lv_goto (tgt := 70) hx hb dX4_pack_169 (by decide) ?_
                have e8 : ru_it n a b T H R k (i + 1) (R k, pg_O n a b T H R k) = ((ru_it n a b T H R k i (R k, pg_O n a b T H R k)).1 ||| 2 ^ H e0, upd (ru_it n a b T H R k i (R k, pg_O n a b T H R k)).2 e0 (nI k)) := by rw [ru_it_s, ru_st_go hf, ← hj]
                have e81 : (ru_it n a b T H R k (i + 1) (R k, pg_O n a b T H R k)).1 = (ru_it n a b T H R k i (R k, pg_O n a b T H R k)).1 ||| 2 ^ H e0 := by rw [e8]
                have e82 : (ru_it n a b T H R k (i + 1) (R k, pg_O n a b T H R k)).2 = upd (ru_it n a b T H R k i (R k, pg_O n a b T H R k)).2 e0 (nI k) := by rw [e8]
                rw [← e81] at hl
                rw [← e82] at hP hD
                have hU5 : Nat.testBit (U3 ||| 2 ^ e0) = ow_u (ru_it n a b T H R k (i + 1) (R k, pg_O n a b T H R k)).2 := by rw [e82, ub_use, hU3, ow_upd _ _ (by omega)]
                have hO1 : (ru_it n a b T H R k i (R k, pg_O n a b T H R k)).2 e0 = -1 := Decidable.not_not.mp (decide_eq_false_iff_not.mp (ru_gr_iff.mp p2).1)
                have hW5 : wy_ok a H (ru_it n a b T H R k (i + 1) (R k, pg_O n a b T H R k)).2 (upd W3 (7 * k + H e0) (nI e0)) := by
                  rw [e82]
                  refine wy_st hW3 (by omega) p1 hO1 (by omega) (fun q hq hO hz => ?_)
                  have z1 := I4 q hq hO
                  rw [hz, (ru_gr_iff.mp p2).2.2] at z1
                  cases z1
                have z7 := ru_left_st (hT2 e0 p1).2 (ru_gr_iff.mp p2).2.2
                have z6 : ru_left n (ru_it n a b T H R k (i + 1) (R k, pg_O n a b T H R k)).1 < ru_left n (ru_it n a b T H R k i (R k, pg_O n a b T H R k)).1 := by rw [e81]; omega
                exact ih_70 _ _ _ _ (z6) ⟨i + 1, U3 ||| 2 ^ e0, _, _, _, _, _, rfl, hU5, df_used hU34 (by omega), hW5, lv_sub hl [2, 0, 3, 1] rfl, hP, hD, hS⟩
              -- ifne at 114, f
              · have t114 := zb_0.mp b114
                refine lv_iinc (k := 4) (v := nI (e0 + 1)) (lv' := [(4, .int (nI (e0 + 1))), (0, .ref (ad 0)), (1, .int (nI U3)), (2, .int (nI k)), (3, .int (nI (ru_it n a b T H R k i (R k, pg_O n a b T H R k)).1))]) hx hb dX4_pack_117 hl rfl (ii_1 _) (by decide) rfl (fun ls hl => ?_)
                refine lv_goto (tgt := 81) hx hb dX4_pack_120 (by decide) ?_
                have g9 : ru_good n a b T H R k (ru_it n a b T H R k i (R k, pg_O n a b T H R k)).1 (ow_u (ru_it n a b T H R k i (R k, pg_O n a b T H R k)).2) e0 = false := by rw [← hU3, go_good t60, t114, Bool.and_false]
                have ne9 : e0 ≠ j := fun z => by rw [z, hgj] at g9; cases g9
                exact ih_81 _ _ _ _ (by omega) ⟨e0 + 1, _, _, _, _, rfl, by omega, lv_sub hl [1, 2, 3, 4, 0] rfl, hP, hD, hS⟩
      -- ifne at 46, f
      · have t46 := zb_0.mp b46
        refine lv_iconst (v := 0) hx hb dX4_pack_49 (by decide) ?_
        exact W.zret (v := 0) hx hb hr rfl (fun t ht hW => ⟨⟨_, (fun _ => -1, W1, tr5, hd5, us5, nx5), rfl, ⟨zb_F t46, fun z => by rw [t46] at z; cases z⟩, by rw [ht]; exact hP, va_K.moved hW.alike hK, by rw [hAe]; exact hD⟩, hS.F ht⟩) hS.2.2 dX4_pack_50
    -- if_icmpge at 26, f
    · have t26 : i < 21 := Nat.lt_of_not_le (fun z => b26 (nI_le z (by omega)))
      refine lv_aload_n hx hb dX4_pack_29 rfl (lv_at hl 0 rfl) ?_
      refine va_get (D := (dC, dI)) (ci := 4) (v := .ref (ad 5)) (C := RX4) (T := TX4) (N := 12) hx hb hw in_X4 hown hK hP 0 rfl rfl 7 (by decide) (hw _ mq_fl_X4_26) (fun _ h9 => h9) rfl dX4_pack_30 ?_
      refine lv_iload_n hx hb dX4_pack_33 rfl (lv_at hl 1 rfl) ?_
      refine lv_iconst (v := -1) hx hb dX4_pack_34 (by decide) ?_
      refine va_iast hx hb hK hP hD hS 5 0 rfl rfl (vp_in_nI (by omega) (by decide)) dX4_pack_35 (fun Hp locs hP hD hS => ?_)
      rw [nI_clamp (show i < 2 ^ 31 by omega)] at hP hD
      have hP : va_P (dC, dI) classes (mw ad cI n a b T H R (fun _ => -1) (upd W1 i (-1)) tr hd us nx) Hp := hP
      have hD : va_D A (mw ad cI n a b T H R (fun _ => -1) (upd W1 i (-1)) tr hd us nx) := hD
      refine lv_iinc (k := 1) (v := nI (i + 1)) (lv' := [(1, .int (nI (i + 1))), (0, .ref (ad 0))]) hx hb dX4_pack_36 hl rfl (ii_1 _) (by decide) rfl (fun ls hl => ?_)
      refine lv_goto (tgt := 23) hx hb dX4_pack_39 (by decide) ?_
      have hW2 : ∀ j, j < i + 1 → upd W1 i (-1) j = -1 := by
        intro j hj
        by_cases h : j = i
        · rw [h, pk_us]
        · rw [pk_un h]
          exact hW j (by omega)
      exact ih_23 _ _ _ _ (by omega) ⟨i + 1, _, rfl, by omega, hW2, lv_sub hl [1, 0] rfl, hP, hD, hS⟩
  -- if_icmpge at 5, f
  · have t5 : i < 14 := Nat.lt_of_not_le (fun z => b5 (nI_le z (by omega)))
    refine lv_aload_n hx hb dX4_pack_8 rfl (lv_at hl 0 rfl) ?_
    refine va_get (D := (dC, dI)) (ci := 4) (v := .ref (ad 4)) (C := RX4) (T := TX4) (N := 12) hx hb hw in_X4 hown hK hP 0 rfl rfl 6 (by decide) (hw _ mq_fl_X4_23) (fun _ h9 => h9) rfl dX4_pack_9 ?_
    refine lv_iload_n hx hb dX4_pack_12 rfl (lv_at hl 1 rfl) ?_
    refine lv_iconst (v := -1) hx hb dX4_pack_13 (by decide) ?_
    refine va_iast hx hb hK hP hD hS 4 0 rfl rfl (vp_in_nI (by omega) (by decide)) dX4_pack_14 (fun Hp locs hP hD hS => ?_)
    rw [nI_clamp (show i < 2 ^ 31 by omega)] at hP hD
    have hP : va_P (dC, dI) classes (mw ad cI n a b T H R (upd O1 i (-1)) Wy tr hd us nx) Hp := hP
    have hD : va_D A (mw ad cI n a b T H R (upd O1 i (-1)) Wy tr hd us nx) := hD
    refine lv_iinc (k := 1) (v := nI (i + 1)) (lv' := [(1, .int (nI (i + 1))), (0, .ref (ad 0))]) hx hb dX4_pack_15 hl rfl (ii_1 _) (by decide) rfl (fun ls hl => ?_)
    refine lv_goto (tgt := 2) hx hb dX4_pack_18 (by decide) ?_
    have hO2 : ∀ j, j < i + 1 → upd O1 i (-1) j = -1 := by
      intro j hj
      by_cases h : j = i
      · rw [h, pk_us]
      · rw [pk_un h]
        exact hO j (by omega)
    exact ih_2 _ _ _ _ (by omega) ⟨i + 1, _, rfl, by omega, hO2, lv_sub hl [1, 0] rfl, hP, hD, hS⟩
set_option maxHeartbeats 4000000 in
set_option maxRecDepth 100000 in
theorem c_X4_owner (l : Launch) (dC : Nat → ClassId) (dI : Nat → Nat → Nat) (cI : ClassId) (ad : Nat → Nat) (n a b : Nat) (T H R : Nat → Nat) (O Wy tr hd us nx : Nat → Int32) (sz : Nat) (x : Int32) (hI : st_I n a T H b R) : Met l yX4_owner (wq yX4_owner cX4_owner 2 (some .int)) ({ frames := 7, cells := 0, slots := 0, locals := 167 }) (mu_P (dC, dI) classes [(cI, .int)] (mw ad cI n a b T H R O Wy tr hd us nx) sz [.ref (ad 0), .int x]) (va_Qi (fun (r : Int32) (u : (Nat → Int32) × (Nat → Int32) × (Nat → Int32) × (Nat → Int32) × (Nat → Int32) × (Nat → Int32)) => r = owF n a b T H R x) (mu_B (dC, dI) classes [(cI, .int)] (mw ad cI n a b T H R O Wy tr hd us nx) sz (fun u => mw ad cI n a b T H R u.1 u.2.1 u.2.2.1 u.2.2.2.1 u.2.2.2.2.1 u.2.2.2.2.2)) (va_A (mw ad cI n a b T H R O Wy tr hd us nx) sz)) 0 0 (va_A (mw ad cI n a b T H R O Wy tr hd us nx) sz) := by
  have hI0 := hI
  obtain ⟨n1, n7, a14, hT, hT2, hb3, hR3, hR⟩ := hI
  have p7 := bi_p7 n7
  have p0 := Nat.two_pow_pos n
  refine Met.ofW (cc := cX4_owner) (maxL := 2) (ret := (some .int)) (by decide) rfl ?_
  intro p e s m args below meth c s₁ B hml hv
  obtain ⟨rfl, hsz, hP, hK, hN, hD0⟩ := hv
  have hx := B.exec
  have hb := B.bytes
  have hr := B.returns
  have hlocks := B.notSynchronized
  have hts := atoms_spec (ws := (wq yX4_owner cX4_owner 2 (some .int))) B.pre
  have hw : ∀ w ∈ bigW, w.before _ s = true := fun w h => hts w (List.mem_cons_of_mem _ h)
  have hown : s.vm.findClass RX4 = some m.cls := findClass_of_methodNamed B.named
  subst hsz
  have hD := hD0.self (sz := s.heap.size)
  generalize hAe : va_A (mw ad cI n a b T H R O Wy tr hd us nx) s.heap.size = A at hD ⊢
  have hA : ∀ q : Nat, s.heap.size ≤ q → A q := fun q h => by rw [← hAe]; exact Or.inr h
  have hS : va_S A s.heap s.heap [] := va_S.rf
  have hl := lv_entry ([.ref (ad 0), .int x]) (n := 2) (Nat.le_of_ble_eq_true rfl)
  rw [lg_entry_eq]
  generalize (lg_sl ([.ref (ad 0), .int x]) ++ List.replicate (2 - (lg_sl ([.ref (ad 0), .int x])).length) Slot.unset).toArray = ls at hl ⊢
  have hl : lv_has ls 2 [(0, .ref (ad 0)), (1, .int x)] := hl
  refine lv_aload_n hx hb dX4_owner_0 rfl (lv_at hl 0 rfl) ?_
  refine lv_iload_n hx hb dX4_owner_1 rfl (lv_at hl 1 rfl) ?_
  refine ro_V (As := [.int x]) (rest := []) (b := ad 0) ⟨hx, hb, hml, hown, hts⟩ (c_X4_isArc l dC dI cI ad n a b T H R O Wy tr hd us nx x) (cwV 1 hts (bw_V mq_ml_X4_59 mq_im_X4_isArc mq_se_X4_isArc mq_in_X4 mq_co_X4_isArc) rfl rfl rfl (by decide +kernel) ⟨Nat.le_of_ble_eq_true rfl, Nat.le_of_ble_eq_true rfl⟩) hP hK hN 0 rfl rfl rfl hl.1 rfl (Nat.le_of_ble_eq_true rfl) dX4_owner_2 ⟨Nat.zero_le _, Nat.zero_le _⟩ (fun r9 h9 => ?_)
  obtain rfl : r9 = nI (ed_b (decide (0 ≤ x ∧ x < nI a))) := h9
  refine lv_if_eq (tgt := 24) hx hb dX4_owner_5 (by decide) (fun b5 => ?_) (fun b5 => ?_)
  -- ifeq at 5, t
  · have t5 := decide_eq_false_iff_not.mp (zb_0.mp b5)
    refine lv_iconst (v := -1) hx hb dX4_owner_24 (by decide) ?_
    exact W.iret (v := -1) hx hb hr (fun t ht hW => ⟨⟨_, (O, Wy, tr, hd, us, nx), rfl, (by rw [owF, if_neg t5]), by rw [ht]; exact hP, va_K.moved hW.alike hK, by rw [hAe]; exact hD⟩, hS.F ht⟩) hS.2.2 dX4_owner_25
  -- ifeq at 5, f
  · have t5 := decide_eq_true_eq.mp (zb_n0.mp b5)
    obtain ⟨j, hj, rfl⟩ := is_in_of t5 (by omega)
    refine lv_aload_n hx hb dX4_owner_8 rfl (lv_at hl 0 rfl) ?_
    refine mu_Vi (As := []) (rest := []) (b := ad 0) ⟨hx, hb, hml, hown, hts⟩ (c_X4_pack l dC dI cI ad n a b T H R O Wy tr hd us nx _ hI0) (cwV 0 hts (bw_V mq_ml_X4_101 mq_im_X4_pack mq_se_X4_pack mq_in_X4 mq_co_X4_pack) rfl rfl rfl (by decide +kernel) ⟨Nat.le_of_ble_eq_true rfl, Nat.le_of_ble_eq_true rfl⟩) hP hK hN hD hS hA 0 rfl rfl rfl hl.1 rfl (Nat.le_of_ble_eq_true rfl) dX4_owner_9 ⟨Nat.zero_le _, Nat.zero_le _⟩ (fun r9 u9 Hp locs h9 hP hD hS => ?_)
    obtain ⟨⟨O9, W9, tr9, hd9, us9, nx9⟩, rfl⟩ : ∃ z, z = u9 := ⟨_, rfl⟩
    obtain rfl : r9 = nI (ed_b (paF n a T H b R)) := h9.1
    have hP : va_P (dC, dI) classes (mw ad cI n a b T H R O9 W9 tr9 hd9 us9 nx9) Hp := hP
    have hD : va_D A (mw ad cI n a b T H R O9 W9 tr9 hd9 us9 nx9) := hD
    refine lv_if_eq (tgt := 24) hx hb dX4_owner_12 (by decide) (fun b12 => ?_) (fun b12 => ?_)
    -- ifeq at 12, t
    · have t12 := zb_0.mp b12
      refine lv_iconst (v := -1) hx hb dX4_owner_24 (by decide) ?_
      exact W.iret (v := -1) hx hb hr (fun t ht hW => ⟨⟨_, (O9, W9, tr9, hd9, us9, nx9), rfl, (by rw [owF, if_pos t5, pg_no t12 hb3]), by rw [ht]; exact hP, va_K.moved hW.alike hK, by rw [hAe]; exact hD⟩, hS.F ht⟩) hS.2.2 dX4_owner_25
    -- ifeq at 12, f
    · have t12 := zb_n0.mp b12
      refine lv_aload_n hx hb dX4_owner_15 rfl (lv_at hl 0 rfl) ?_
      refine va_get (D := (dC, dI)) (ci := 4) (v := .ref (ad 4)) (C := RX4) (T := TX4) (N := 12) hx hb hw in_X4 hown hK hP 0 rfl rfl 6 (by decide) (hw _ mq_fl_X4_23) (fun _ h9 => h9) rfl dX4_owner_16 ?_
      refine lv_iload_n hx hb dX4_owner_19 rfl (lv_at hl 1 rfl) ?_
      refine va_iald hx hb hK hP 4 0 rfl rfl (vp_in_nI (by omega) (by decide)) dX4_owner_20 ?_
      refine lv_topi (fun z9 e9 => ?_)
      obtain rfl : z9 = pg_all n a b T H R j := e9.trans (by rw [nI_clamp (by omega)]; exact (h9.2 t12).1 j (by omega))
      refine lv_goto (tgt := 25) hx hb dX4_owner_21 (by decide) ?_
      exact W.iret (v := pg_all n a b T H R j) hx hb hr (fun t ht hW => ⟨⟨_, (O9, W9, tr9, hd9, us9, nx9), rfl, (by rw [owF, if_pos t5, nI_clamp (by omega)]), by rw [ht]; exact hP, va_K.moved hW.alike hK, by rw [hAe]; exact hD⟩, hS.F ht⟩) hS.2.2 dX4_owner_25
set_option maxHeartbeats 4000000 in
set_option maxRecDepth 100000 in
theorem c_X4_way (l : Launch) (dC : Nat → ClassId) (dI : Nat → Nat → Nat) (cI : ClassId) (ad : Nat → Nat) (n a b : Nat) (T H R : Nat → Nat) (O Wy tr hd us nx : Nat → Int32) (sz : Nat) (x y : Int32) (hI : st_I n a T H b R) : Met l yX4_way (wq yX4_way cX4_way 4 (some .int)) ({ frames := 7, cells := 0, slots := 0, locals := 167 }) (mu_P (dC, dI) classes [(cI, .int)] (mw ad cI n a b T H R O Wy tr hd us nx) sz [.ref (ad 0), .int x, .int y]) (va_Qi (fun (r : Int32) (u : (Nat → Int32) × (Nat → Int32) × (Nat → Int32) × (Nat → Int32) × (Nat → Int32) × (Nat → Int32)) => r = wyF n a b T H R x y) (mu_B (dC, dI) classes [(cI, .int)] (mw ad cI n a b T H R O Wy tr hd us nx) sz (fun u => mw ad cI n a b T H R u.1 u.2.1 u.2.2.1 u.2.2.2.1 u.2.2.2.2.1 u.2.2.2.2.2)) (va_A (mw ad cI n a b T H R O Wy tr hd us nx) sz)) 0 0 (va_A (mw ad cI n a b T H R O Wy tr hd us nx) sz) := by
  have hI0 := hI
  obtain ⟨n1, n7, a14, hT, hT2, hb3, hR3, hR⟩ := hI
  have p7 := bi_p7 n7
  have p0 := Nat.two_pow_pos n
  refine Met.ofW (cc := cX4_way) (maxL := 4) (ret := (some .int)) (by decide) rfl ?_
  intro p e s m args below meth c s₁ B hml hv
  obtain ⟨rfl, hsz, hP, hK, hN, hD0⟩ := hv
  have hx := B.exec
  have hb := B.bytes
  have hr := B.returns
  have hlocks := B.notSynchronized
  have hts := atoms_spec (ws := (wq yX4_way cX4_way 4 (some .int))) B.pre
  have hw : ∀ w ∈ bigW, w.before _ s = true := fun w h => hts w (List.mem_cons_of_mem _ h)
  have hown : s.vm.findClass RX4 = some m.cls := findClass_of_methodNamed B.named
  subst hsz
  have hD := hD0.self (sz := s.heap.size)
  generalize hAe : va_A (mw ad cI n a b T H R O Wy tr hd us nx) s.heap.size = A at hD ⊢
  have hA : ∀ q : Nat, s.heap.size ≤ q → A q := fun q h => by rw [← hAe]; exact Or.inr h
  have hS : va_S A s.heap s.heap [] := va_S.rf
  have hl := lv_entry ([.ref (ad 0), .int x, .int y]) (n := 4) (Nat.le_of_ble_eq_true rfl)
  rw [lg_entry_eq]
  generalize (lg_sl ([.ref (ad 0), .int x, .int y]) ++ List.replicate (4 - (lg_sl ([.ref (ad 0), .int x, .int y])).length) Slot.unset).toArray = ls at hl ⊢
  have hl : lv_has ls 4 [(0, .ref (ad 0)), (1, .int x), (2, .int y)] := hl
  refine lv_iload_n hx hb dX4_way_0 rfl (lv_at hl 1 rfl) ?_
  refine lv_if_lt (tgt := 28) hx hb dX4_way_1 (by decide) (fun b1 => ?_) (fun b1 => ?_)
  -- iflt at 1, t
  · refine lv_iconst (v := 0) hx hb dX4_way_28 (by decide) ?_
    refine lv_istore_n (lv' := [(3, .int 0), (0, .ref (ad 0)), (1, .int x), (2, .int y)]) hx hb dX4_way_29 rfl hl (by decide) rfl (fun ls hl => ?_)
    refine lv_iload_n hx hb dX4_way_30 rfl (lv_at hl 0 rfl) ?_
    refine lv_if_eq (tgt := 55) hx hb dX4_way_31 (by decide) (fun _ => ?_) (fun b9 => absurd (rfl) b9)
    refine lv_iconst (v := -1) hx hb dX4_way_55 (by decide) ?_
    exact W.iret (v := -1) hx hb hr (fun t ht hW => ⟨⟨_, (O, Wy, tr, hd, us, nx), rfl, (by rw [wyF, if_neg (fun h => absurd h.1.1 (i_le_lt.mpr b1))]), by rw [ht]; exact hP, va_K.moved hW.alike hK, by rw [hAe]; exact hD⟩, hS.F ht⟩) hS.2.2 dX4_way_56
  -- iflt at 1, f
  · refine lv_iload_n hx hb dX4_way_4 rfl (lv_at hl 1 rfl) ?_
    refine lv_aload_n hx hb dX4_way_5 rfl (lv_at hl 0 rfl) ?_
    refine va_get (D := (dC, dI)) (ci := 4) (v := .int (nI b)) (C := RX4) (T := TX4) (N := 12) hx hb hw in_X4 hown hK hP 0 rfl rfl 2 (by decide) (hw _ mq_fl_X4_56) (fun _ h9 => h9) rfl dX4_way_6 ?_
    refine lv_icmp_ge (tgt := 28) hx hb dX4_way_9 (by decide) (fun b9 => ?_) (fun b9 => ?_)
    -- if_icmpge at 9, t
    · refine lv_iconst (v := 0) hx hb dX4_way_28 (by decide) ?_
      refine lv_istore_n (lv' := [(3, .int 0), (0, .ref (ad 0)), (1, .int x), (2, .int y)]) hx hb dX4_way_29 rfl hl (by decide) rfl (fun ls hl => ?_)
      refine lv_iload_n hx hb dX4_way_30 rfl (lv_at hl 0 rfl) ?_
      refine lv_if_eq (tgt := 55) hx hb dX4_way_31 (by decide) (fun _ => ?_) (fun b9 => absurd (rfl) b9)
      refine lv_iconst (v := -1) hx hb dX4_way_55 (by decide) ?_
      exact W.iret (v := -1) hx hb hr (fun t ht hW => ⟨⟨_, (O, Wy, tr, hd, us, nx), rfl, (by rw [wyF, if_neg (fun h => absurd h.1.2 (i_lt_le.mpr b9))]), by rw [ht]; exact hP, va_K.moved hW.alike hK, by rw [hAe]; exact hD⟩, hS.F ht⟩) hS.2.2 dX4_way_56
    -- if_icmpge at 9, f
    · refine lv_iload_n hx hb dX4_way_12 rfl (lv_at hl 2 rfl) ?_
      refine lv_if_lt (tgt := 28) hx hb dX4_way_13 (by decide) (fun b13 => ?_) (fun b13 => ?_)
      -- iflt at 13, t
      · refine lv_iconst (v := 0) hx hb dX4_way_28 (by decide) ?_
        refine lv_istore_n (lv' := [(3, .int 0), (0, .ref (ad 0)), (1, .int x), (2, .int y)]) hx hb dX4_way_29 rfl hl (by decide) rfl (fun ls hl => ?_)
        refine lv_iload_n hx hb dX4_way_30 rfl (lv_at hl 0 rfl) ?_
        refine lv_if_eq (tgt := 55) hx hb dX4_way_31 (by decide) (fun _ => ?_) (fun b9 => absurd (rfl) b9)
        refine lv_iconst (v := -1) hx hb dX4_way_55 (by decide) ?_
        exact W.iret (v := -1) hx hb hr (fun t ht hW => ⟨⟨_, (O, Wy, tr, hd, us, nx), rfl, (by rw [wyF, if_neg (fun h => absurd h.2.1 (i_le_lt.mpr b13))]), by rw [ht]; exact hP, va_K.moved hW.alike hK, by rw [hAe]; exact hD⟩, hS.F ht⟩) hS.2.2 dX4_way_56
      -- iflt at 13, f
      · refine lv_iload_n hx hb dX4_way_16 rfl (lv_at hl 2 rfl) ?_
        refine lv_aload_n hx hb dX4_way_17 rfl (lv_at hl 0 rfl) ?_
        refine va_get (D := (dC, dI)) (ci := 4) (v := .int (nI n)) (C := RX4) (T := TX4) (N := 12) hx hb hw in_X4 hown hK hP 0 rfl rfl 0 (by decide) (hw _ mq_fl_X4_7) (fun _ h9 => h9) rfl dX4_way_18 ?_
        refine lv_icmp_ge (tgt := 28) hx hb dX4_way_21 (by decide) (fun b21 => ?_) (fun b21 => ?_)
        -- if_icmpge at 21, t
        · refine lv_iconst (v := 0) hx hb dX4_way_28 (by decide) ?_
          refine lv_istore_n (lv' := [(3, .int 0), (0, .ref (ad 0)), (1, .int x), (2, .int y)]) hx hb dX4_way_29 rfl hl (by decide) rfl (fun ls hl => ?_)
          refine lv_iload_n hx hb dX4_way_30 rfl (lv_at hl 0 rfl) ?_
          refine lv_if_eq (tgt := 55) hx hb dX4_way_31 (by decide) (fun _ => ?_) (fun b9 => absurd (rfl) b9)
          refine lv_iconst (v := -1) hx hb dX4_way_55 (by decide) ?_
          exact W.iret (v := -1) hx hb hr (fun t ht hW => ⟨⟨_, (O, Wy, tr, hd, us, nx), rfl, (by rw [wyF, if_neg (fun h => absurd h.2.2 (i_lt_le.mpr b21))]), by rw [ht]; exact hP, va_K.moved hW.alike hK, by rw [hAe]; exact hD⟩, hS.F ht⟩) hS.2.2 dX4_way_56
        -- if_icmpge at 21, f
        · obtain ⟨k, hk3, rfl⟩ := is_in_of ⟨i_lt_le.mp b1, i_le_lt.mp b9⟩ (by omega)
          obtain ⟨v, hv3, rfl⟩ := is_in_of ⟨i_lt_le.mp b13, i_le_lt.mp b21⟩ (by omega)
          refine lv_iconst (v := 1) hx hb dX4_way_24 (by decide) ?_
          refine lv_goto (tgt := 29) hx hb dX4_way_25 (by decide) ?_
          refine lv_istore_n (lv' := [(3, .int 1), (0, .ref (ad 0)), (1, .int (nI k)), (2, .int (nI v))]) hx hb dX4_way_29 rfl hl (by decide) rfl (fun ls hl => ?_)
          refine lv_iload_n hx hb dX4_way_30 rfl (lv_at hl 0 rfl) ?_
          refine lv_if_eq (tgt := 55) hx hb dX4_way_31 (by decide) (fun b9 => absurd b9 (by decide)) (fun _ => ?_)
          refine lv_aload_n hx hb dX4_way_34 rfl (lv_at hl 1 rfl) ?_
          refine mu_Vi (As := []) (rest := []) (b := ad 0) ⟨hx, hb, hml, hown, hts⟩ (c_X4_pack l dC dI cI ad n a b T H R O Wy tr hd us nx _ hI0) (cwV 0 hts (bw_V mq_ml_X4_101 mq_im_X4_pack mq_se_X4_pack mq_in_X4 mq_co_X4_pack) rfl rfl rfl (by decide +kernel) ⟨Nat.le_of_ble_eq_true rfl, Nat.le_of_ble_eq_true rfl⟩) hP hK hN hD hS hA 0 rfl rfl rfl hl.1 rfl (Nat.le_of_ble_eq_true rfl) dX4_way_35 ⟨Nat.zero_le _, Nat.zero_le _⟩ (fun r9 u9 Hp locs h9 hP hD hS => ?_)
          obtain ⟨⟨O9, W9, tr9, hd9, us9, nx9⟩, rfl⟩ : ∃ z, z = u9 := ⟨_, rfl⟩
          obtain rfl : r9 = nI (ed_b (paF n a T H b R)) := h9.1
          have hP : va_P (dC, dI) classes (mw ad cI n a b T H R O9 W9 tr9 hd9 us9 nx9) Hp := hP
          have hD : va_D A (mw ad cI n a b T H R O9 W9 tr9 hd9 us9 nx9) := hD
          refine lv_if_eq (tgt := 55) hx hb dX4_way_38 (by decide) (fun b38 => ?_) (fun b38 => ?_)
          -- ifeq at 38, t
          · have t38 := zb_0.mp b38
            refine lv_iconst (v := -1) hx hb dX4_way_55 (by decide) ?_
            exact W.iret (v := -1) hx hb hr (fun t ht hW => ⟨⟨_, (O9, W9, tr9, hd9, us9, nx9), rfl, (wy_no t38 hb3 hk3).symm, by rw [ht]; exact hP, va_K.moved hW.alike hK, by rw [hAe]; exact hD⟩, hS.F ht⟩) hS.2.2 dX4_way_56
          -- ifeq at 38, f
          · have t38 := zb_n0.mp b38
            refine lv_aload_n hx hb dX4_way_41 rfl (lv_at hl 1 rfl) ?_
            refine va_get (D := (dC, dI)) (ci := 4) (v := .ref (ad 5)) (C := RX4) (T := TX4) (N := 12) hx hb hw in_X4 hown hK hP 0 rfl rfl 7 (by decide) (hw _ mq_fl_X4_26) (fun _ h9 => h9) rfl dX4_way_42 ?_
            refine lv_bipush (v := nI 7) hx hb dX4_way_45 (by decide) ?_
            refine lv_iload_n hx hb dX4_way_47 rfl (lv_at hl 2 rfl) ?_
            refine lv_imul hx hb dX4_way_48 ?_
            refine lv_topi (fun z9 e9 => ?_)
            obtain rfl : z9 = nI (7 * k) := e9.trans (pk_mul 7 k)
            refine lv_iload_n hx hb dX4_way_49 rfl (lv_at hl 3 rfl) ?_
            refine lv_iadd hx hb dX4_way_50 ?_
            refine lv_topi (fun z9 e9 => ?_)
            obtain rfl : z9 = nI (7 * k + v) := e9.trans (nI_add _ _)
            refine va_iald hx hb hK hP 5 0 rfl rfl (vp_in_nI (by omega) (by decide)) dX4_way_51 ?_
            refine lv_topi (fun z9 e9 => ?_)
            obtain rfl : z9 = W9 (7 * k + v) := e9.trans (by rw [nI_clamp (by omega)])
            refine lv_goto (tgt := 56) hx hb dX4_way_52 (by decide) ?_
            exact W.iret (v := W9 (7 * k + v)) hx hb hr (fun t ht hW => ⟨⟨_, (O9, W9, tr9, hd9, us9, nx9), rfl, (wy_yes (by omega) hk3 hv3 n7 (h9.2 t38).2 (fun e he => (hT2 e he).2)).symm, by rw [ht]; exact hP, va_K.moved hW.alike hK, by rw [hAe]; exact hD⟩, hS.F ht⟩) hS.2.2 dX4_way_56
set_option maxHeartbeats 4000000 in
set_option maxRecDepth 100000 in
theorem c_X4_spare (l : Launch) (dC : Nat → ClassId) (dI : Nat → Nat → Nat) (cI : ClassId) (ad : Nat → Nat) (n a b : Nat) (T H R : Nat → Nat) (O Wy tr hd us nx : Nat → Int32) (sz : Nat) (x : Int32) (hI : st_I n a T H b R) : Met l yX4_spare (wq yX4_spare cX4_spare 6 (some .boolean)) ({ frames := 6, cells := 0, slots := 0, locals := 143 }) (mu_P (dC, dI) classes [(cI, .int)] (mw ad cI n a b T H R O Wy tr hd us nx) sz [.ref (ad 0), .int x]) (va_Qi (fun (r : Int32) (u : (Nat → Int32) × (Nat → Int32) × (Nat → Int32) × (Nat → Int32)) => r = nI (ed_b (srF n a T H b R x))) (mu_B (dC, dI) classes [(cI, .int)] (mw ad cI n a b T H R O Wy tr hd us nx) sz (fun u => mw ad cI n a b T H R O Wy u.1 u.2.1 u.2.2.1 u.2.2.2)) (va_A (mw ad cI n a b T H R O Wy tr hd us nx) sz)) 0 0 (va_A (mw ad cI n a b T H R O Wy tr hd us nx) sz) := by
  have hI0 := hI
  obtain ⟨n1, n7, a14, hT, hT2, hb3, hR3, hR⟩ := hI
  have p7 := bi_p7 n7
  have p0 := Nat.two_pow_pos n
  refine Met.ofW (cc := cX4_spare) (maxL := 6) (ret := (some .boolean)) (by decide) rfl ?_
  intro p e s m args below meth c s₁ B hml hv
  obtain ⟨rfl, hsz, hP, hK, hN, hD0⟩ := hv
  have hx := B.exec
  have hb := B.bytes
  have hr := B.returns
  have hlocks := B.notSynchronized
  have hts := atoms_spec (ws := (wq yX4_spare cX4_spare 6 (some .boolean))) B.pre
  have hw : ∀ w ∈ bigW, w.before _ s = true := fun w h => hts w (List.mem_cons_of_mem _ h)
  have hown : s.vm.findClass RX4 = some m.cls := findClass_of_methodNamed B.named
  subst hsz
  have hD := hD0.self (sz := s.heap.size)
  generalize hAe : va_A (mw ad cI n a b T H R O Wy tr hd us nx) s.heap.size = A at hD ⊢
  have hA : ∀ q : Nat, s.heap.size ≤ q → A q := fun q h => by rw [← hAe]; exact Or.inr h
  have hS : va_S A s.heap s.heap [] := va_S.rf
  have hl := lv_entry ([.ref (ad 0), .int x]) (n := 6) (Nat.le_of_ble_eq_true rfl)
  rw [lg_entry_eq]
  generalize (lg_sl ([.ref (ad 0), .int x]) ++ List.replicate (6 - (lg_sl ([.ref (ad 0), .int x])).length) Slot.unset).toArray = ls at hl ⊢
  have hl : lv_has ls 6 [(0, .ref (ad 0)), (1, .int x)] := hl
  refine lv_aload_n hx hb dX4_spare_0 rfl (lv_at hl 0 rfl) ?_
  refine lv_iload_n hx hb dX4_spare_1 rfl (lv_at hl 1 rfl) ?_
  refine ro_V (As := [.int x]) (rest := []) (b := ad 0) ⟨hx, hb, hml, hown, hts⟩ (c_X4_isArc l dC dI cI ad n a b T H R O Wy tr hd us nx x) (cwV 1 hts (bw_V mq_ml_X4_59 mq_im_X4_isArc mq_se_X4_isArc mq_in_X4 mq_co_X4_isArc) rfl rfl rfl (by decide +kernel) ⟨Nat.le_of_ble_eq_true rfl, Nat.le_of_ble_eq_true rfl⟩) hP hK hN 0 rfl rfl rfl hl.1 rfl (Nat.le_of_ble_eq_true rfl) dX4_spare_2 ⟨Nat.zero_le _, Nat.zero_le _⟩ (fun r9 h9 => ?_)
  obtain rfl : r9 = nI (ed_b (decide (0 ≤ x ∧ x < nI a))) := h9
  refine lv_if_ne (tgt := 10) hx hb dX4_spare_5 (by decide) (fun b5 => ?_) (fun b5 => ?_)
  -- ifne at 5, t
  · have t5 := decide_eq_true_eq.mp (zb_n0.mp b5)
    obtain ⟨j, hj, rfl⟩ := is_in_of t5 (by omega)
    refine lv_aload_n hx hb dX4_spare_10 rfl (lv_at hl 0 rfl) ?_
    refine va_get (D := (dC, dI)) (ci := 4) (v := .ref (ad 1)) (C := RX4) (T := TX4) (N := 12) hx hb hw in_X4 hown hK hP 0 rfl rfl 3 (by decide) (hw _ mq_fl_X4_13) (fun _ h9 => h9) rfl dX4_spare_11 ?_
    refine lv_iload_n hx hb dX4_spare_14 rfl (lv_at hl 1 rfl) ?_
    refine va_iald hx hb hK hP 1 0 rfl rfl (vp_in_nI (by omega) (by decide)) dX4_spare_15 ?_
    refine lv_topi (fun z9 e9 => ?_)
    obtain rfl : z9 = nI (T j) := e9.trans (ar_at T (by omega))
    refine lv_istore_n (lv' := [(2, .int (nI (T j))), (0, .ref (ad 0)), (1, .int (nI j))]) hx hb dX4_spare_16 rfl hl (by decide) rfl (fun ls hl => ?_)
    refine lv_aload_n hx hb dX4_spare_17 rfl (lv_at hl 1 rfl) ?_
    refine va_get (D := (dC, dI)) (ci := 4) (v := .ref (ad 2)) (C := RX4) (T := TX4) (N := 12) hx hb hw in_X4 hown hK hP 0 rfl rfl 4 (by decide) (hw _ mq_fl_X4_17) (fun _ h9 => h9) rfl dX4_spare_18 ?_
    refine lv_iload_n hx hb dX4_spare_21 rfl (lv_at hl 2 rfl) ?_
    refine va_iald hx hb hK hP 2 0 rfl rfl (vp_in_nI (by omega) (by decide)) dX4_spare_22 ?_
    refine lv_topi (fun z9 e9 => ?_)
    obtain rfl : z9 = nI (H j) := e9.trans (ar_at H (by omega))
    refine lv_istore_n (lv' := [(3, .int (nI (H j))), (2, .int (nI (T j))), (0, .ref (ad 0)), (1, .int (nI j))]) hx hb dX4_spare_23 rfl hl (by decide) rfl (fun ls hl => ?_)
    refine lv_aload_n hx hb dX4_spare_24 rfl (lv_at hl 2 rfl) ?_
    refine lv_iload_n hx hb dX4_spare_25 rfl (lv_at hl 3 rfl) ?_
    refine mu_Vv (As := [.int (nI j)]) (rest := []) (b := ad 0) ⟨hx, hb, hml, hown, hts⟩ (c_X4_remove l dC dI cI ad n a b T H R O Wy tr hd us nx _ j hj a14) (cwV 1 hts (bw_V mq_ml_X4_63 mq_im_X4_remove mq_se_X4_remove mq_in_X4 mq_co_X4_remove) rfl rfl rfl (by decide +kernel) ⟨Nat.le_of_ble_eq_true rfl, Nat.le_of_ble_eq_true rfl⟩) hP hK hN hD hS hA 0 rfl rfl rfl hl.1 rfl (Nat.le_of_ble_eq_true rfl) dX4_spare_26 ⟨Nat.zero_le _, Nat.zero_le _⟩ (fun u9 Hp locs h9 hP hD hS => ?_)
    have hP : va_P (dC, dI) classes (mw ad cI n (a - 1) b (rm_f T j (a - 1)) (rm_f H j (a - 1)) R O Wy tr hd us nx) Hp := hP
    have hD : va_D A (mw ad cI n (a - 1) b (rm_f T j (a - 1)) (rm_f H j (a - 1)) R O Wy tr hd us nx) := hD
    refine lv_aload_n hx hb dX4_spare_29 rfl (lv_at hl 2 rfl) ?_
    refine mu_Vi (As := []) (rest := []) (b := ad 0) ⟨hx, hb, hml, hown, hts⟩ (c_X4_packs l dC dI cI ad n (a - 1) b (rm_f T j (a - 1)) (rm_f H j (a - 1)) R O Wy tr hd us nx _ (st_rm (by omega) hI0)) (cwV 0 hts (bw_V mq_ml_X4_97 mq_im_X4_packs mq_se_X4_packs mq_in_X4 mq_co_X4_packs) rfl rfl rfl (by decide +kernel) ⟨Nat.le_of_ble_eq_true rfl, Nat.le_of_ble_eq_true rfl⟩) hP hK hN hD hS hA 0 rfl rfl rfl hl.1 rfl (Nat.le_of_ble_eq_true rfl) dX4_spare_30 ⟨Nat.zero_le _, Nat.zero_le _⟩ (fun r9 u9 Hp locs h9 hP hD hS => ?_)
    obtain ⟨⟨tr1, hd1, us1, nx1⟩, rfl⟩ : ∃ z, z = u9 := ⟨_, rfl⟩
    obtain rfl : r9 = nI (ed_b (srF n a T H b R (nI j))) := h9.trans (by rw [srF, if_pos t5, nI_clamp (by omega), sr_rm hj])
    have hP : va_P (dC, dI) classes (mw ad cI n (a - 1) b (rm_f T j (a - 1)) (rm_f H j (a - 1)) R O Wy tr1 hd1 us1 nx1) Hp := hP
    have hD : va_D A (mw ad cI n (a - 1) b (rm_f T j (a - 1)) (rm_f H j (a - 1)) R O Wy tr1 hd1 us1 nx1) := hD
    refine lv_istore (lv' := [(4, .int (nI (ed_b (srF n a T H b R (nI j))))), (3, .int (nI (H j))), (2, .int (nI (T j))), (0, .ref (ad 0)), (1, .int (nI j))]) hx hb dX4_spare_33 hl (by decide) rfl (fun ls hl => ?_)
    refine lv_aload_n hx hb dX4_spare_35 rfl (lv_at hl 3 rfl) ?_
    refine va_get (D := (dC, dI)) (ci := 4) (v := .int (nI (a - 1))) (C := RX4) (T := TX4) (N := 12) hx hb hw in_X4 hown hK hP 0 rfl rfl 1 (by decide) (hw _ mq_fl_X4_45) (fun _ h9 => h9) rfl dX4_spare_36 ?_
    refine lv_istore (lv' := [(5, .int (nI (a - 1))), (4, .int (nI (ed_b (srF n a T H b R (nI j))))), (3, .int (nI (H j))), (2, .int (nI (T j))), (0, .ref (ad 0)), (1, .int (nI j))]) hx hb dX4_spare_39 hl (by decide) rfl (fun ls hl => ?_)
    rw [← rs_0 T j (a - 1), ← rs_0 H j (a - 1)] at hP hD
    refine wl_loopH (fun k9 Hp locs ls => ∃ (i : Nat), i = k9 ∧ (j ≤ i ∧ i ≤ a - 1) ∧ lv_has ls 6 [(0, .ref (ad 0)), (1, .int (nI j)), (2, .int (nI (T j))), (3, .int (nI (H j))), (4, .int (nI (ed_b (srF n a T H b R (nI j))))), (5, .int (nI i))] ∧ va_P (dC, dI) classes (mw ad cI n (a - 1) b (rs_f T j (a - 1) i) (rs_f H j (a - 1) i) R O Wy tr1 hd1 us1 nx1) Hp ∧ va_D A (mw ad cI n (a - 1) b (rs_f T j (a - 1) i) (rs_f H j (a - 1) i) R O Wy tr1 hd1 us1 nx1) ∧ va_S A s.heap Hp locs) ?_ _ ⟨a - 1, rfl, ⟨by omega, by omega⟩, lv_sub hl [4, 5, 3, 2, 1, 0] rfl, hP, hD, hS⟩
    clear hP hD hS hl
    intro k9 Hp locs ls ih9 h9
    obtain ⟨i, k9e, hi, hl, hP, hD, hS⟩ := h9
    have ih_41 := ih9
    clear ih9
    subst k9e
    refine lv_iload hx hb dX4_spare_41 (lv_at hl 5 rfl) ?_
    refine lv_iload_n hx hb dX4_spare_43 rfl (lv_at hl 1 rfl) ?_
    refine lv_icmp_le (tgt := 85) hx hb dX4_spare_44 (by decide) (fun b44 => ?_) (fun b44 => ?_)
    -- if_icmple at 44, t
    · have t44 := (nI_leI (by omega) (by omega)).mp b44
      have e44 : i = j := by omega
      rw [e44] at hP hD
      refine lv_aload_n hx hb dX4_spare_85 rfl (lv_at hl 0 rfl) ?_
      refine va_get (D := (dC, dI)) (ci := 4) (v := .ref (ad 1)) (C := RX4) (T := TX4) (N := 12) hx hb hw in_X4 hown hK hP 0 rfl rfl 3 (by decide) (hw _ mq_fl_X4_13) (fun _ h9 => h9) rfl dX4_spare_86 ?_
      refine lv_iload_n hx hb dX4_spare_89 rfl (lv_at hl 1 rfl) ?_
      refine lv_iload_n hx hb dX4_spare_90 rfl (lv_at hl 2 rfl) ?_
      refine va_iast hx hb hK hP hD hS 1 0 rfl rfl (vp_in_nI (by omega) (by decide)) dX4_spare_91 (fun Hp locs hP hD hS => ?_)
      rw [nI_clamp (show j < 2 ^ 31 by omega), ar_up, rs_e (by omega)] at hP hD
      have hP : va_P (dC, dI) classes (mw ad cI n (a - 1) b T (rs_f H j (a - 1) j) R O Wy tr1 hd1 us1 nx1) Hp := hP
      have hD : va_D A (mw ad cI n (a - 1) b T (rs_f H j (a - 1) j) R O Wy tr1 hd1 us1 nx1) := hD
      refine lv_aload_n hx hb dX4_spare_92 rfl (lv_at hl 0 rfl) ?_
      refine va_get (D := (dC, dI)) (ci := 4) (v := .ref (ad 2)) (C := RX4) (T := TX4) (N := 12) hx hb hw in_X4 hown hK hP 0 rfl rfl 4 (by decide) (hw _ mq_fl_X4_17) (fun _ h9 => h9) rfl dX4_spare_93 ?_
      refine lv_iload_n hx hb dX4_spare_96 rfl (lv_at hl 1 rfl) ?_
      refine lv_iload_n hx hb dX4_spare_97 rfl (lv_at hl 3 rfl) ?_
      refine va_iast hx hb hK hP hD hS 2 0 rfl rfl (vp_in_nI (by omega) (by decide)) dX4_spare_98 (fun Hp locs hP hD hS => ?_)
      rw [nI_clamp (show j < 2 ^ 31 by omega), ar_up, rs_e (by omega)] at hP hD
      have hP : va_P (dC, dI) classes (mw ad cI n (a - 1) b T H R O Wy tr1 hd1 us1 nx1) Hp := hP
      have hD : va_D A (mw ad cI n (a - 1) b T H R O Wy tr1 hd1 us1 nx1) := hD
      refine lv_aload_n hx hb dX4_spare_99 rfl (lv_at hl 0 rfl) ?_
      refine lv_dup hx hb dX4_spare_100 rfl ?_
      refine va_get (D := (dC, dI)) (ci := 4) (v := .int (nI (a - 1))) (C := RX4) (T := TX4) (N := 12) hx hb hw in_X4 hown hK hP 0 rfl rfl 1 (by decide) (hw _ mq_fl_X4_45) (fun _ h9 => h9) rfl dX4_spare_101 ?_
      refine lv_iconst (v := 1) hx hb dX4_spare_104 (by decide) ?_
      refine lv_iadd hx hb dX4_spare_105 ?_
      refine lv_topi (fun z9 e9 => ?_)
      obtain rfl : z9 = nI a := e9.trans (by rw [nI_1, show a - 1 + 1 = a by omega])
      refine va_put (D := (dC, dI)) (ci := 4) (v := .int (nI a)) (ty := .int) (C := RX4) (T := TX4) (N := 12) hx hb hw in_X4 tyX4 tyX4_ok nmX4 hown hK hP hD hS 0 rfl rfl 1 (by decide) (hw _ mq_fl_X4_45) (fun _ h9 => h9) rfl (by decide +kernel) rfl rfl (Nat.le_of_ble_eq_true rfl) dX4_spare_106 (fun Hp locs hP hD hS => ?_)
      have hP : va_P (dC, dI) classes (mw ad cI n a b T H R O Wy tr1 hd1 us1 nx1) Hp := hP
      have hD : va_D A (mw ad cI n a b T H R O Wy tr1 hd1 us1 nx1) := hD
      refine lv_iload hx hb dX4_spare_109 (lv_at hl 4 rfl) ?_
      exact W.zret (v := nI (ed_b (srF n a T H b R (nI j)))) hx hb hr (zb_n _) (fun t ht hW => ⟨⟨_, (tr1, hd1, us1, nx1), rfl, rfl, by rw [ht]; exact hP, va_K.moved hW.alike hK, by rw [hAe]; exact hD⟩, hS.F ht⟩) hS.2.2 dX4_spare_111
    -- if_icmple at 44, f
    · have t44 : j < i := Nat.lt_of_not_le (fun z => b44 (nI_le z (by omega)))
      refine lv_aload_n hx hb dX4_spare_47 rfl (lv_at hl 0 rfl) ?_
      refine va_get (D := (dC, dI)) (ci := 4) (v := .ref (ad 1)) (C := RX4) (T := TX4) (N := 12) hx hb hw in_X4 hown hK hP 0 rfl rfl 3 (by decide) (hw _ mq_fl_X4_13) (fun _ h9 => h9) rfl dX4_spare_48 ?_
      refine lv_iload hx hb dX4_spare_51 (lv_at hl 5 rfl) ?_
      refine lv_aload_n hx hb dX4_spare_53 rfl (lv_at hl 0 rfl) ?_
      refine va_get (D := (dC, dI)) (ci := 4) (v := .ref (ad 1)) (C := RX4) (T := TX4) (N := 12) hx hb hw in_X4 hown hK hP 0 rfl rfl 3 (by decide) (hw _ mq_fl_X4_13) (fun _ h9 => h9) rfl dX4_spare_54 ?_
      refine lv_iload hx hb dX4_spare_57 (lv_at hl 5 rfl) ?_
      refine lv_iconst (v := 1) hx hb dX4_spare_59 (by decide) ?_
      refine lv_isub hx hb dX4_spare_60 ?_
      refine lv_topi (fun z9 e9 => ?_)
      obtain rfl : z9 = nI (i - 1) := e9.trans (pk_sub (b := 1) (by omega))
      refine va_iald hx hb hK hP 1 0 rfl rfl (vp_in_nI (by omega) (by decide)) dX4_spare_61 ?_
      refine lv_topi (fun z9 e9 => ?_)
      obtain rfl : z9 = nI (rs_f T j (a - 1) i (i - 1)) := e9.trans (ar_at _ (by omega))
      refine va_iast hx hb hK hP hD hS 1 0 rfl rfl (vp_in_nI (by omega) (by decide)) dX4_spare_62 (fun Hp locs hP hD hS => ?_)
      rw [nI_clamp (show i < 2 ^ 31 by omega), ar_up, rs_s t44 hi.2] at hP hD
      have hP : va_P (dC, dI) classes (mw ad cI n (a - 1) b (rs_f T j (a - 1) (i - 1)) (rs_f H j (a - 1) i) R O Wy tr1 hd1 us1 nx1) Hp := hP
      have hD : va_D A (mw ad cI n (a - 1) b (rs_f T j (a - 1) (i - 1)) (rs_f H j (a - 1) i) R O Wy tr1 hd1 us1 nx1) := hD
      refine lv_aload_n hx hb dX4_spare_63 rfl (lv_at hl 0 rfl) ?_
      refine va_get (D := (dC, dI)) (ci := 4) (v := .ref (ad 2)) (C := RX4) (T := TX4) (N := 12) hx hb hw in_X4 hown hK hP 0 rfl rfl 4 (by decide) (hw _ mq_fl_X4_17) (fun _ h9 => h9) rfl dX4_spare_64 ?_
      refine lv_iload hx hb dX4_spare_67 (lv_at hl 5 rfl) ?_
      refine lv_aload_n hx hb dX4_spare_69 rfl (lv_at hl 0 rfl) ?_
      refine va_get (D := (dC, dI)) (ci := 4) (v := .ref (ad 2)) (C := RX4) (T := TX4) (N := 12) hx hb hw in_X4 hown hK hP 0 rfl rfl 4 (by decide) (hw _ mq_fl_X4_17) (fun _ h9 => h9) rfl dX4_spare_70 ?_
      refine lv_iload hx hb dX4_spare_73 (lv_at hl 5 rfl) ?_
      refine lv_iconst (v := 1) hx hb dX4_spare_75 (by decide) ?_
      refine lv_isub hx hb dX4_spare_76 ?_
      refine lv_topi (fun z9 e9 => ?_)
      obtain rfl : z9 = nI (i - 1) := e9.trans (pk_sub (b := 1) (by omega))
      refine va_iald hx hb hK hP 2 0 rfl rfl (vp_in_nI (by omega) (by decide)) dX4_spare_77 ?_
      refine lv_topi (fun z9 e9 => ?_)
      obtain rfl : z9 = nI (rs_f H j (a - 1) i (i - 1)) := e9.trans (ar_at _ (by omega))
      refine va_iast hx hb hK hP hD hS 2 0 rfl rfl (vp_in_nI (by omega) (by decide)) dX4_spare_78 (fun Hp locs hP hD hS => ?_)
      rw [nI_clamp (show i < 2 ^ 31 by omega), ar_up, rs_s t44 hi.2] at hP hD
      have hP : va_P (dC, dI) classes (mw ad cI n (a - 1) b (rs_f T j (a - 1) (i - 1)) (rs_f H j (a - 1) (i - 1)) R O Wy tr1 hd1 us1 nx1) Hp := hP
      have hD : va_D A (mw ad cI n (a - 1) b (rs_f T j (a - 1) (i - 1)) (rs_f H j (a - 1) (i - 1)) R O Wy tr1 hd1 us1 nx1) := hD
      refine lv_iinc (k := 5) (v := nI (i - 1)) (lv' := [(5, .int (nI (i - 1))), (0, .ref (ad 0)), (1, .int (nI j)), (2, .int (nI (T j))), (3, .int (nI (H j))), (4, .int (nI (ed_b (srF n a T H b R (nI j)))))]) hx hb dX4_spare_79 hl rfl (ii_m1 (by omega)) (by decide) rfl (fun ls hl => ?_)
      refine lv_goto (tgt := 41) hx hb dX4_spare_82 (by decide) ?_
      exact ih_41 _ _ _ _ (by omega) ⟨i - 1, rfl, ⟨by omega, by omega⟩, lv_sub hl [1, 2, 3, 4, 5, 0] rfl, hP, hD, hS⟩
  -- ifne at 5, f
  · have t5 := decide_eq_false_iff_not.mp (zb_0.mp b5)
    refine lv_iconst (v := 0) hx hb dX4_spare_8 (by decide) ?_
    exact W.zret (v := 0) hx hb hr rfl (fun t ht hW => ⟨⟨_, (tr, hd, us, nx), rfl, (zb_F (by rw [srF, if_neg t5])), by rw [ht]; exact hP, va_K.moved hW.alike hK, by rw [hAe]; exact hD⟩, hS.F ht⟩) hS.2.2 dX4_spare_9

/-! two worlds side by side: a call over one leaves the other -/
theorem fj_pl {D : va_G} {cl : List vw_C} {w0 wr : va_W} {H : Heap} (h : va_P D cl (w0 ++ wr) H) : va_P D cl w0 H := fun k q hk => h k q (by rw [List.getElem?_append_left (List.getElem?_eq_some_iff.mp hk).1]; exact hk)
theorem fj_pr {D : va_G} {cl : List vw_C} {w0 wr : va_W} {H : Heap} (h : va_P D cl (w0 ++ wr) H) : va_P D cl wr H := fun k q hk => h (w0.length + k) q (by rw [List.getElem?_append_right (Nat.le_add_right _ _), Nat.add_sub_cancel_left]; exact hk)
theorem fj_ap {A : Nat → Prop} {w0 wr : va_W} (h : va_D A (w0 ++ wr)) {i j : Nat} {p q : Nat × va_E} (hi : w0[i]? = some p) (hj : wr[j]? = some q) : p.1 ≠ q.1 := fun e => by
  have hl := (List.getElem?_eq_some_iff.mp hi).1
  have h1 := h.1 i (w0.length + j) p q (by rw [List.getElem?_append_left hl]; exact hi) (by rw [List.getElem?_append_right (Nat.le_add_right _ _), Nat.add_sub_cancel_left]; exact hj) e
  omega
theorem fj_dl {A : Nat → Prop} {w0 wr : va_W} (h : va_D A (w0 ++ wr)) : va_D A w0 := ⟨fun i j p q hi hj e => h.1 i j p q (by rw [List.getElem?_append_left (List.getElem?_eq_some_iff.mp hi).1]; exact hi) (by rw [List.getElem?_append_left (List.getElem?_eq_some_iff.mp hj).1]; exact hj) e, fun k q hk => h.2 k q (by rw [List.getElem?_append_left (List.getElem?_eq_some_iff.mp hk).1]; exact hk)⟩
theorem fj_dr {A : Nat → Prop} {w0 wr : va_W} (h : va_D A (w0 ++ wr)) : va_D A wr := ⟨fun i j p q hi hj e => by
    have h1 := h.1 (w0.length + i) (w0.length + j) p q (by rw [List.getElem?_append_right (Nat.le_add_right _ _), Nat.add_sub_cancel_left]; exact hi) (by rw [List.getElem?_append_right (Nat.le_add_right _ _), Nat.add_sub_cancel_left]; exact hj) e
    omega, fun k q hk => h.2 (w0.length + k) q (by rw [List.getElem?_append_right (Nat.le_add_right _ _), Nat.add_sub_cancel_left]; exact hk)⟩
theorem fj_out {D : va_G} {cl : List vw_C} {w0 wr : va_W} {H : Heap} (hP : va_P D cl wr H) (hap : ∀ (i j : Nat) (p q : Nat × va_E), w0[i]? = some p → wr[j]? = some q → p.1 ≠ q.1) {j : Nat} {q : Nat × va_E} (hj : wr[j]? = some q) : ¬ va_A w0 H.size q.1 := by
  intro h
  rcases h with ⟨k, x, h⟩ | h
  · exact hap k j (q.1, x) q h hj rfl
  · have := (hP j q hj).lt
    omega
theorem fj_keep {D : va_G} {cl : List vw_C} {w0 wr : va_W} {H H1 : Heap} (hP : va_P D cl wr H) (hap : ∀ (i j : Nat) (p q : Nat × va_E), w0[i]? = some p → wr[j]? = some q → p.1 ≠ q.1) (hk : ∀ q : Nat, q < H.size → ¬ va_A w0 H.size q → H1[q]? = H[q]?) : va_P D cl wr H1 := hP.kept (fun k q hq => hk q.1 (hP k q hq).lt (fj_out hP hap hq))
theorem fj_apart {D : va_G} {cl : List vw_C} {w0 wr w1 : va_W} {H : Heap} (hP : va_P D cl wr H) (hap : ∀ (i j : Nat) (p q : Nat × va_E), w0[i]? = some p → wr[j]? = some q → p.1 ≠ q.1) (hD1 : va_D (va_A w0 H.size) w1) : ∀ (i j : Nat) (p q : Nat × va_E), w1[i]? = some p → wr[j]? = some q → p.1 ≠ q.1 := fun i j p q hi hj e => fj_out hP hap hj (e ▸ hD1.2 i p hi)
section LWC
variable {p : Program} {l : Launch} {e : Env} {R : Room} {s : State} {m : MethodId} {args : Array Value} {below : List Frame} {meth : Method} {c : Code} {H : Heap} {locs : List Loc} {cells slots : Nat} {Q : State → Prop}
variable {pc : Nat} {ls : Array Slot} {rest st0 : List Value} {D : va_G} {cl : List vw_C} {tys : List (ClassId × FieldType)} {w0 wr : va_W}
variable {y : MethodName} {bytes cc : ByteArray} {maxL nL n index : Nat} {ret : Option FieldType} {ws : List Cond} {rm : Room} {Ts : List Cond} {own C : String} {b : Nat} {As : List Value} {post : Int32 → Prop}
theorem lx_ro (S : CallFix p m c cc nL s args Ts own) (hM : Met l y ws rm (ro_P D cl tys w0 (.ref b :: As)) (vp_Si post) 0 0 (fun _ => False)) (cw : CallW R s args own C index y bytes maxL ret ws rm 0 0 n) (hP : va_P D cl (w0 ++ wr) H) (hK : va_K D cl tys s) (hN : nx_ok s) (q0 : Nat) {ci : Nat} {fs : List Value} {T : u_T} {N : Nat} (he : w0[q0]? = some (b, .inr (ci, fs))) (hc : cl[ci]? = some (C, T, N)) (hn : As.length = n) (hl : ls.size = nL) (hst : st0 = As.reverse ++ .ref b :: rest) (hW : (rest.map fun v => v.category).sum ≤ 8) (hdg : decode cc pc = .ok (.invokevirtual index, 3)) (hf : cells ≤ R.cells ∧ slots ≤ R.slots)
    (kk : ∀ r : Int32, post r → W p l e R s m args below meth c H locs cells slots Q (F0 m (pc + 3) ls (.int r :: rest))) : W p l e R s m args below meth c H locs cells slots Q (F0 m pc ls st0) := ro_V S hM cw (fj_pl hP) hK hN q0 he hc hn hl hst hW hdg hf kk
theorem lm_ro (S : CallFix p m c cc nL s args Ts own) (hM : Met l y ws rm (ro_P D cl tys wr (.ref b :: As)) (vp_Si post) 0 0 (fun _ => False)) (cw : CallW R s args own C index y bytes maxL ret ws rm 0 0 n) (hP : va_P D cl (w0 ++ wr) H) (hK : va_K D cl tys s) (hN : nx_ok s) (q0 : Nat) {ci : Nat} {fs : List Value} {T : u_T} {N : Nat} (he : wr[q0]? = some (b, .inr (ci, fs))) (hc : cl[ci]? = some (C, T, N)) (hn : As.length = n) (hl : ls.size = nL) (hst : st0 = As.reverse ++ .ref b :: rest) (hW : (rest.map fun v => v.category).sum ≤ 8) (hdg : decode cc pc = .ok (.invokevirtual index, 3)) (hf : cells ≤ R.cells ∧ slots ≤ R.slots)
    (kk : ∀ r : Int32, post r → W p l e R s m args below meth c H locs cells slots Q (F0 m (pc + 3) ls (.int r :: rest))) : W p l e R s m args below meth c H locs cells slots Q (F0 m pc ls st0) := ro_V S hM cw (fj_pr hP) hK hN q0 he hc hn hl hst hW hdg hf kk
variable {A : Nat → Prop} {H0 : Heap} {St : Type} {w1 : St → va_W} {a : Array Value} {pi : Int32 → St → Prop}
theorem lx_mu (S : CallFix p m c cc nL s args Ts own) (hM : Met l y ws rm (mu_P D cl tys w0 H.size (.ref b :: As)) (va_Qi pi (mu_B D cl tys w0 H.size w1) (va_A w0 H.size)) 0 0 (va_A w0 H.size)) (cw : CallW R s args own C index y bytes maxL ret ws rm 0 0 n) (hP : va_P D cl (w0 ++ wr) H) (hK : va_K D cl tys s) (hN : nx_ok s) (hD : va_D A (w0 ++ wr)) (hS : va_S A H0 H locs) (hA : ∀ q, H0.size ≤ q → A q) (q0 : Nat) {ci : Nat} {fs : List Value} {T : u_T} {N : Nat} (he : w0[q0]? = some (b, .inr (ci, fs))) (hc : cl[ci]? = some (C, T, N)) (hn : As.length = n) (hl : ls.size = nL) (hst : st0 = As.reverse ++ .ref b :: rest) (hW : (rest.map fun v => v.category).sum ≤ 8) (hdg : decode cc pc = .ok (.invokevirtual index, 3)) (hf : cells ≤ R.cells ∧ slots ≤ R.slots)
    (kk : ∀ (r : Int32) (u : St) (H1 : Heap) (locs1 : List Loc), pi r u → va_P D cl (w1 u ++ wr) H1 → va_D A (w1 u ++ wr) → va_S A H0 H1 locs1 → W p l e R s m args below meth c H1 locs1 cells slots Q (F0 m (pc + 3) ls (.int r :: rest))) : W p l e R s m args below meth c H locs cells slots Q (F0 m pc ls st0) := by
  have hF := mu_free (fj_dl hD) hS hA
  have hap : ∀ (i j : Nat) (p q : Nat × va_E), w0[i]? = some p → wr[j]? = some q → p.1 ≠ q.1 := fun i j p q hi hj => fj_ap hD hi hj
  refine va_calli (va_runV (As := As) (rest := rest) (b := b) S hM cw ⟨mu_blind, va_recv hK (fj_pl hP) hc he, mu_pre (fj_pl hP) hK hN (fj_dl hD)⟩ rfl hn hl hst (lv_room hW) hdg hf) hS (fun q _ h => hF q h) hF (fun r u t H1 locs1 ht _ hp hB _ hk hS1 => ?_)
  have hP1 : va_P D cl (w1 u) H1 := by rw [← ht]; exact hB.1
  have hD1 : va_D A (w1 u) := hB.2.2.weaken (fun _ _ _ h => hF _ h)
  exact kk r u H1 locs1 hp (hP1.app (fj_keep (fj_pr hP) hap hk)) (hD1.app (fj_dr hD) (fj_apart (fj_pr hP) hap hB.2.2)) hS1
theorem lm_mu (S : CallFix p m c cc nL s args Ts own) (hM : Met l y ws rm (mu_P D cl tys wr H.size (.ref b :: As)) (va_Qi pi (mu_B D cl tys wr H.size w1) (va_A wr H.size)) 0 0 (va_A wr H.size)) (cw : CallW R s args own C index y bytes maxL ret ws rm 0 0 n) (hP : va_P D cl (w0 ++ wr) H) (hK : va_K D cl tys s) (hN : nx_ok s) (hD : va_D A (w0 ++ wr)) (hS : va_S A H0 H locs) (hA : ∀ q, H0.size ≤ q → A q) (q0 : Nat) {ci : Nat} {fs : List Value} {T : u_T} {N : Nat} (he : wr[q0]? = some (b, .inr (ci, fs))) (hc : cl[ci]? = some (C, T, N)) (hn : As.length = n) (hl : ls.size = nL) (hst : st0 = As.reverse ++ .ref b :: rest) (hW : (rest.map fun v => v.category).sum ≤ 8) (hdg : decode cc pc = .ok (.invokevirtual index, 3)) (hf : cells ≤ R.cells ∧ slots ≤ R.slots)
    (kk : ∀ (r : Int32) (u : St) (H1 : Heap) (locs1 : List Loc), pi r u → va_P D cl (w0 ++ w1 u) H1 → va_D A (w0 ++ w1 u) → va_S A H0 H1 locs1 → W p l e R s m args below meth c H1 locs1 cells slots Q (F0 m (pc + 3) ls (.int r :: rest))) : W p l e R s m args below meth c H locs cells slots Q (F0 m pc ls st0) := by
  have hF := mu_free (fj_dr hD) hS hA
  have hap : ∀ (i j : Nat) (p q : Nat × va_E), wr[i]? = some p → w0[j]? = some q → p.1 ≠ q.1 := fun i j p q hi hj => (fj_ap hD hj hi).symm
  refine va_calli (va_runV (As := As) (rest := rest) (b := b) S hM cw ⟨mu_blind, va_recv hK (fj_pr hP) hc he, mu_pre (fj_pr hP) hK hN (fj_dr hD)⟩ rfl hn hl hst (lv_room hW) hdg hf) hS (fun q _ h => hF q h) hF (fun r u t H1 locs1 ht _ hp hB _ hk hS1 => ?_)
  have hP1 : va_P D cl (w1 u) H1 := by rw [← ht]; exact hB.1
  have hD1 : va_D A (w1 u) := hB.2.2.weaken (fun _ _ _ h => hF _ h)
  exact kk r u H1 locs1 hp (va_P.app (fj_keep (fj_pl hP) hap hk) hP1) (va_D.app (fj_dl hD) hD1 (fun i j p q hi hj => (fj_apart (fj_pl hP) hap hB.2.2 j i q p hj hi).symm)) hS1
end LWC

/-! A HOUSEHOLD ADDED: the world grows -/
def tp_gad (n : Nat) (ad q : Nat → Nat) (q5 : Nat) : Nat → Nat := fun k => if k < 9 + 15 * n then ad k else if k = 9 + 15 * n then q5 else q (k - (9 + 15 * n))
def tp_gI (n : Nat) (I : Nat → Nat → Int32) (fm : Int32) : Nat → Nat → Int32 := fun k => if k < 9 + 15 * n then I k else tp_hI fm (k - (9 + 15 * n))
theorem tp_gad_lo {n k : Nat} {ad q : Nat → Nat} {q5 : Nat} (h : k < 9 + 15 * n) : tp_gad n ad q q5 k = ad k := if_pos h
theorem tp_gad_hi {n j : Nat} {ad q : Nat → Nat} {q5 : Nat} (h : 0 < j) : tp_gad n ad q q5 (9 + 15 * n + j) = q j := by
  unfold tp_gad
  rw [if_neg (by omega), if_neg (by omega), Nat.add_sub_cancel_left]
theorem tp_gad_0 {n : Nat} {ad q : Nat → Nat} {q5 : Nat} : tp_gad n ad q q5 (9 + 15 * n) = q5 := by
  unfold tp_gad
  rw [if_neg (by omega), if_pos rfl]
theorem tp_gI_lo {n k : Nat} {I : Nat → Nat → Int32} {fm : Int32} (h : k < 9 + 15 * n) : tp_gI n I fm k = I k := if_pos h
theorem tp_gI_hi {n j : Nat} {I : Nat → Nat → Int32} {fm : Int32} : tp_gI n I fm (9 + 15 * n + j) = tp_hI fm j := by
  unfold tp_gI
  rw [if_neg (by omega), Nat.add_sub_cancel_left]
theorem tp_hc_0 {cy : Nat → ClassId} {ad : Nat → Nat} {I : Nat → Nat → Int32} {b : Nat} : tp_hc cy ad I b 0 = .inr (0, [.ref (ad (b + 1)), .ref (ad (b + 7)), .int (I b 2), .int (I b 3), .ref (ad (b + 13)), .ref (ad (b + 14)), .int (I b 6), .int (I b 7), .int (I b 8)]) := rfl
theorem tp_hc_1 {cy : Nat → ClassId} {ad : Nat → Nat} {I : Nat → Nat → Int32} {b : Nat} : tp_hc cy ad I b 1 = .inl (cy 4, 5, .inr (.inr (.inr (.inr (tp_rf 5 (fun f => ad (b + 2 + f))))))) := rfl
theorem tp_hc_7 {cy : Nat → ClassId} {ad : Nat → Nat} {I : Nat → Nat → Int32} {b : Nat} : tp_hc cy ad I b 7 = .inl (cy 4, 5, .inr (.inr (.inr (.inr (tp_rf 5 (fun f => ad (b + 8 + f))))))) := rfl
theorem tp_hc_r {cy : Nat → ClassId} {ad : Nat → Nat} {I : Nat → Nat → Int32} {b j : Nat} (h0 : j ≠ 0) (h1 : j ≠ 1) (h7 : j ≠ 7) : tp_hc cy ad I b j = .inl (cy 0, 48, .inl (I (b + j))) := by
  unfold tp_hc
  split
  · exact absurd rfl h0
  · exact absurd rfl h1
  · exact absurd rfl h7
  · rfl
theorem tp_c_cong {cy : Nat → ClassId} {n n' : Nat} {ad ad' : Nat → Nat} {I I' : Nat → Nat → Int32} {o : Int64} {k : Nat} (hk : k < 9 + 15 * n) (h1 : k ≠ 1) (ha : ∀ j, j < 9 + 15 * n → ad' j = ad j) (hI : I' k = I k) : tp_c cy n' ad' I' o k = tp_c cy n ad I o k := by
  by_cases h14 : k < 9
  · rcases (show k = 0 ∨ k = 2 ∨ k = 3 ∨ k = 4 ∨ k = 5 ∨ k = 6 ∨ k = 7 ∨ k = 8 by omega) with rfl | rfl | rfl | rfl | rfl | rfl | rfl | rfl
    · show (Sum.inr (1, [.ref (ad' 1), .int (I' 0 1), .int (I' 0 2)]) : va_E) = .inr (1, [.ref (ad 1), .int (I 0 1), .int (I 0 2)])
      rw [hI, ha 1 (by omega)]
    all_goals first | rfl | (unfold tp_c; rw [hI])
  · obtain ⟨i, j, hj, rfl⟩ : ∃ i j, j < 15 ∧ k = 9 + 15 * i + j := ⟨(k - 9) / 15, (k - 9) % 15, Nat.mod_lt _ (by omega), by omega⟩
    have hi : i < n := by omega
    rw [tp_cH i hj, tp_cH i hj]
    rcases (show j = 0 ∨ j = 1 ∨ j = 7 ∨ (j ≠ 0 ∧ j ≠ 1 ∧ j ≠ 7) by omega) with rfl | rfl | rfl | ⟨n0, n1, n7⟩
    · have hI : I' (9 + 15 * i) = I (9 + 15 * i) := hI
      rw [tp_hc_0, tp_hc_0, hI, ha _ (by omega), ha _ (by omega), ha _ (by omega), ha _ (by omega)]
    · rw [tp_hc_1, tp_hc_1, tp_rf5 (f := fun f => ad' (9 + 15 * i + 2 + f)) (g := fun f => ad (9 + 15 * i + 2 + f)) (ha _ (by omega)) (ha _ (by omega)) (ha _ (by omega)) (ha _ (by omega)) (ha _ (by omega))]
    · rw [tp_hc_7, tp_hc_7, tp_rf5 (f := fun f => ad' (9 + 15 * i + 8 + f)) (g := fun f => ad (9 + 15 * i + 8 + f)) (ha _ (by omega)) (ha _ (by omega)) (ha _ (by omega)) (ha _ (by omega)) (ha _ (by omega))]
    · rw [tp_hc_r n0 n1 n7, tp_hc_r n0 n1 n7, hI]
theorem tp_gad_k {n k j : Nat} {ad q : Nat → Nat} {q5 : Nat} (h : 0 < j) (hk : k = 9 + 15 * n + j) : tp_gad n ad q q5 k = q j := by rw [hk, tp_gad_hi h]
theorem tp_hc_new {cy : Nat → ClassId} {n j : Nat} {ad q : Nat → Nat} {q5 : Nat} {I : Nat → Nat → Int32} {fm : Int32} : tp_hc cy (tp_gad n ad q q5) (tp_gI n I fm) (9 + 15 * n) j = tp_hc cy q (tp_hI fm) 0 j := by
  rcases (show j = 0 ∨ j = 1 ∨ j = 7 ∨ (j ≠ 0 ∧ j ≠ 1 ∧ j ≠ 7) by omega) with rfl | rfl | rfl | ⟨n0, n1, n7⟩
  · rw [tp_hc_0, tp_hc_0, show tp_gI n I fm (9 + 15 * n) = tp_hI fm 0 from tp_gI_hi (j := 0), tp_gad_k (j := 1) (by decide) rfl, tp_gad_k (j := 7) (by decide) rfl, tp_gad_k (j := 13) (by decide) rfl, tp_gad_k (j := 14) (by decide) rfl]
  · rw [tp_hc_1, tp_hc_1, tp_rf5 (f := fun f => tp_gad n ad q q5 (9 + 15 * n + 2 + f)) (g := fun f => q (0 + 2 + f)) (tp_gad_k (by decide) (by omega)) (tp_gad_k (by decide) (by omega)) (tp_gad_k (by decide) (by omega)) (tp_gad_k (by decide) (by omega)) (tp_gad_k (by decide) (by omega))]
  · rw [tp_hc_7, tp_hc_7, tp_rf5 (f := fun f => tp_gad n ad q q5 (9 + 15 * n + 8 + f)) (g := fun f => q (0 + 8 + f)) (tp_gad_k (by decide) (by omega)) (tp_gad_k (by decide) (by omega)) (tp_gad_k (by decide) (by omega)) (tp_gad_k (by decide) (by omega)) (tp_gad_k (by decide) (by omega))]
  · rw [tp_hc_r n0 n1 n7, tp_hc_r n0 n1 n7, tp_gI_hi, Nat.zero_add]
theorem tp_w_len {cy : Nat → ClassId} {n : Nat} {ad : Nat → Nat} {I : Nat → Nat → Int32} {o : Int64} : (tp_w cy n ad I o).length = 9 + 15 * n := by unfold tp_w; simp
theorem tp_hw_at {cy : Nat → ClassId} {q : Nat → Nat} {q5 j : Nat} {fm : Int32} (h : j < 15) : (tp_hw cy q q5 fm)[j]? = some (if j = 0 then q5 else q j, tp_hc cy q (tp_hI fm) 0 j) := by
  unfold tp_hw
  rw [List.getElem?_map, List.getElem?_range h]
  rfl
theorem tp_hw_len {cy : Nat → ClassId} {q : Nat → Nat} {q5 : Nat} {fm : Int32} : (tp_hw cy q q5 fm).length = 15 := by unfold tp_hw; simp
theorem tp_grow {cy : Nat → ClassId} {n : Nat} {ad q : Nat → Nat} {q5 : Nat} {I : Nat → Nat → Int32} {o : Int64} {fm : Int32} : (tp_w cy n ad I o ++ tp_hw cy q q5 fm).set 1 (ad 1, .inl (cy 3, 6, .inr (.inr (.inr (.inr (va_up (tp_rf n (fun j => ad (9 + 15 * j))) n (some q5))))))) = tp_w cy (n + 1) (tp_gad n ad q q5) (tp_gI n I fm) o := by
  apply List.ext_getElem?
  intro k
  by_cases h1 : k = 1
  · subst h1
    rw [List.getElem?_set_self (by rw [List.length_append, tp_w_len]; omega), tp_at (by omega), tp_gad_lo (by omega)]
    show some (ad 1, (Sum.inl (cy 3, 6, .inr (.inr (.inr (.inr (va_up (tp_rf n (fun j => ad (9 + 15 * j))) n (some q5)))))) : va_E)) = some (ad 1, .inl (cy 3, 6, .inr (.inr (.inr (.inr (tp_rf (n + 1) (fun j => tp_gad n ad q q5 (9 + 15 * j))))))))
    rw [show va_up (tp_rf n (fun j => ad (9 + 15 * j))) n (some q5) = tp_rf (n + 1) (fun j => tp_gad n ad q q5 (9 + 15 * j)) from ?_]
    funext j
    unfold tp_rf
    by_cases hj : j = n
    · subst hj
      rw [va_up_self, if_pos (by omega)]
      exact congrArg some tp_gad_0.symm
    · rw [va_up_ne _ _ hj]
      by_cases hl : j < n
      · rw [if_pos hl, if_pos (by omega)]
        exact congrArg some (tp_gad_lo (by omega)).symm
      · rw [if_neg hl, if_neg (by omega)]
  · rw [List.getElem?_set_ne (Ne.symm h1)]
    by_cases hk : k < 9 + 15 * n
    · rw [List.getElem?_append_left (by rw [tp_w_len]; exact hk), tp_at hk, tp_at (by omega), tp_gad_lo hk, tp_c_cong (n' := n + 1) (ad' := tp_gad n ad q q5) (I' := tp_gI n I fm) hk h1 (fun j hj => tp_gad_lo hj) (tp_gI_lo hk)]
    · rw [List.getElem?_append_right (by rw [tp_w_len]; omega), tp_w_len]
      by_cases hk2 : k < 9 + 15 * (n + 1)
      · obtain ⟨j, hj, rfl⟩ : ∃ j, j < 15 ∧ k = 9 + 15 * n + j := ⟨k - (9 + 15 * n), by omega, by omega⟩
        rw [Nat.add_sub_cancel_left, tp_hw_at hj, tp_at hk2, tp_cH n hj, tp_hc_new]
        by_cases h0 : j = 0
        · subst h0
          rw [if_pos rfl]
          exact congrArg (fun z => some (z, _)) tp_gad_0.symm
        · rw [if_neg h0, tp_gad_hi (by omega)]
      · rw [List.getElem?_eq_none (by rw [tp_hw_len]; omega), List.getElem?_eq_none (by rw [tp_w_len]; omega)]
theorem tp_app {ws : va_W} {l : va_W} {k : Nat} {q : Nat × va_E} (h : ws[k]? = some q) : (ws ++ l)[k]? = some q := by
  rw [List.getElem?_append_left (List.getElem?_eq_some_iff.mp h).1]
  exact h
theorem tp_lastP {D : va_G} {cl : List vw_C} {ws : va_W} {x : Nat × va_E} {H : Heap} (h : va_P D cl (ws ++ [x]) H) : va_P D cl [x] H := fun k q hk => by
  have h0 : k < 1 := (List.getElem?_eq_some_iff.mp hk).1
  obtain rfl : k = 0 := by omega
  cases hk
  exact h ws.length _ (by rw [List.getElem?_append_right (Nat.le_refl _), Nat.sub_self]; rfl)
theorem tp_lastD {A : Nat → Prop} {x : Nat × va_E} (h : A x.1) : va_D A [x] := by
  refine ⟨fun i j p q hi hj _ => ?_, fun k q hk => ?_⟩
  · have h0 : i < 1 := (List.getElem?_eq_some_iff.mp hi).1
    have h1 : j < 1 := (List.getElem?_eq_some_iff.mp hj).1
    omega
  · have h0 : k < 1 := (List.getElem?_eq_some_iff.mp hk).1
    obtain rfl : k = 0 := by omega
    cases hk
    exact h
/-- behind a call on the last cell alone -/
theorem tp_join2 {D : va_G} {cl : List vw_C} {A : Nat → Prop} {ws w1 : va_W} {x : Nat × va_E} {H H1 : Heap} (hP : va_P D cl (ws ++ [x]) H) (hD : va_D A (ws ++ [x])) (hF : ∀ q, va_A [x] H.size q → A q) (hk : ∀ q : Nat, q < H.size → ¬ va_A [x] H.size q → H1[q]? = H[q]?) (hP1 : va_P D cl w1 H1) (hD1 : va_D (va_A [x] H.size) w1) : va_P D cl (ws ++ w1) H1 ∧ va_D A (ws ++ w1) := by
  have hx : (ws ++ [x])[ws.length]? = some x := by rw [List.getElem?_append_right (Nat.le_refl _), Nat.sub_self]; rfl
  have hne : ∀ (k : Nat) (q : Nat × va_E), ws[k]? = some q → q.1 < H.size ∧ q.1 ≠ x.1 := fun k q hq => by
    have hl := (List.getElem?_eq_some_iff.mp hq).1
    refine ⟨(hP k q (tp_app hq)).lt, fun e => ?_⟩
    have := hD.1 k ws.length q x (tp_app hq) hx e
    omega
  have hout : ∀ (k : Nat) (q : Nat × va_E), ws[k]? = some q → ¬ va_A [x] H.size q.1 := fun k q hq hv => by
    obtain ⟨h1, h2⟩ := hne k q hq
    rcases hv with ⟨k9, e9, h9⟩ | h9
    · have h0 : k9 < 1 := (List.getElem?_eq_some_iff.mp h9).1
      obtain rfl : k9 = 0 := by omega
      cases h9
      exact h2 rfl
    · omega
  have hP0 : va_P D cl ws H := fun k q hq => hP k q (tp_app hq)
  refine ⟨(hP0.kept (fun k q hq => hk q.1 (hne k q hq).1 (hout k q hq))).app hP1, va_D.app ⟨fun i j p q hi hj e => hD.1 i j p q (tp_app hi) (tp_app hj) e, fun k q hq => hD.2 k q (tp_app hq)⟩ (hD1.weaken (fun _ _ _ h => hF _ h)) (fun i j p q hi hj e => ?_)⟩
  have := hD1.2 j q hj
  rw [← e] at this
  exact hout i p hi this
/-- the contract of add: the world has one household more -/
def tp_AD (l : Launch) (D : va_G) (cy : Nat → ClassId) (n : Nat) (ad : Nat → Nat) (o : Int64) (sa : Nat → Nat) (tL tM : Nat) (I : Nat → Nat → Int32) (e0 : Nat) : Prop :=
  ∀ sz : Nat, Met l yX1_add wsX1_add { frames := 2, cells := 15, slots := 595, locals := 42 } (va_Pc [.ref (ad 0)] (tp_PE D cy n ad I o sa tL tM sz)) (va_Qi (fun x (u : Nat → Nat) => x = nI n ∧ ∀ k, k < 9 + 15 * n → u k = ad k) (fun u t => va_P D vwCl (tp_w cy (n + 1) u (tp_u (tp_gI n I (nI e0)) 0 1 (nI (n + 1))) o) t.heap ∧ va_K D vwCl (tp_ty cy) t ∧ va_D (va_A (tp_w cy n ad I o) sz) (tp_w cy (n + 1) u (tp_u (tp_gI n I (nI e0)) 0 1 (nI (n + 1))) o)) (va_A (tp_w cy n ad I o) sz)) 15 595 (va_A (tp_w cy n ad I o) sz)
set_option maxHeartbeats 4000000 in
set_option maxRecDepth 100000 in
/-- add: ok -/
theorem op_add_ok (l : Launch) (D : va_G) (cy : Nat → ClassId) (n : Nat) (ad : Nat → Nat) (o : Int64) (I : Nat → Nat → Int32) (sa : Nat → Nat) (tL tM : Nat) (e0 : Nat) (hn6 : n < 6) (hna : I 0 1 = nI n) (he : I 0 2 = nI e0) (he8 : e0 < 48) : tp_AD l D cy n ad o sa tL tM I e0 := by
  intro sz
  refine Met.ofW (cc := cX1_add) (maxL := 2) (ret := some .int) (by decide) rfl ?_
  intro p e s m args below meth c s₁ B hml hv
  obtain ⟨rfl, ⟨hsz, hP, hK, hD0⟩, hE⟩ := hv
  subst hsz
  have hx := B.exec
  have hb := B.bytes
  have hr := B.returns
  have hts := atoms_spec (ws := wsX1_add) B.pre
  have hlocks := B.notSynchronized
  have hown : s.vm.findClass RX1 = some m.cls := findClass_of_methodNamed B.named
  have hD := hD0.self (sz := s.heap.size)
  generalize hAe : va_A (tp_w cy n ad I o) s.heap.size = A at hD hE ⊢
  have hA : ∀ q : Nat, s.heap.size ≤ q → A q := fun q h => by rw [← hAe]; exact Or.inr h
  have hS : va_S A s.heap s.heap [] := va_S.rf
  have hl := lv_entry ([.ref (ad 0)]) (n := 2) (Nat.le_of_ble_eq_true rfl)
  rw [lg_entry_eq]
  generalize (lg_sl ([.ref (ad 0)]) ++ List.replicate (2 - (lg_sl ([.ref (ad 0)])).length) Slot.unset).toArray = ls at hl ⊢
  have hl : lv_has ls 2 [(0, .ref (ad 0))] := hl
  obtain ⟨-, -, -, hEw, -, hEa, hEo⟩ := id hE
  refine lv_aload_n hx hb dX1_add_0 rfl (lv_at hl 0 rfl) ?_
  refine va_get (D := D) (ci := 1) (v := .int (I 0 1)) (C := RX1) (T := TX1) (N := 3) hx hb hts (fun _ h => List.mem_cons_of_mem _ (List.mem_append_left _ (List.mem_append_left _ (List.mem_append_right _ (h))))) hown hK hP 0 tp_e0 rfl 1 (by decide) (hts _ (List.mem_of_getElem? (i := 3) rfl)) (fun _ h9 => h9) rfl dX1_add_1 ?_
  refine tp_eqi (y := nI n) hna ?_
  refine lv_if_lt (tgt := 19) hx hb dX1_add_4 (by decide) (fun c4 => absurd c4 (nI_pos (by omega))) (fun c4 => ?_)
  refine lv_aload_n hx hb dX1_add_7 rfl (lv_at hl 0 rfl) ?_
  refine va_get (D := D) (ci := 1) (v := .int (I 0 1)) (C := RX1) (T := TX1) (N := 3) hx hb hts (fun _ h => List.mem_cons_of_mem _ (List.mem_append_left _ (List.mem_append_left _ (List.mem_append_right _ (h))))) hown hK hP 0 tp_e0 rfl 1 (by decide) (hts _ (List.mem_of_getElem? (i := 3) rfl)) (fun _ h9 => h9) rfl dX1_add_8 ?_
  refine tp_eqi (y := nI n) hna ?_
  refine lv_aload_n hx hb dX1_add_11 rfl (lv_at hl 0 rfl) ?_
  refine va_get (D := D) (ci := 1) (v := .ref (ad 1)) (C := RX1) (T := TX1) (N := 3) hx hb hts (fun _ h => List.mem_cons_of_mem _ (List.mem_append_left _ (List.mem_append_left _ (List.mem_append_right _ (h))))) hown hK hP 0 tp_e0 rfl 0 (by decide) (hts _ (List.mem_of_getElem? (i := 4) rfl)) (fun _ h9 => h9) rfl dX1_add_12 ?_
  refine tp_rlen hx hb hK hP dX1_add_15 ?_
  refine lv_icmp_lt (tgt := 29) hx hb dX1_add_16 (by decide) (fun c16 => ?_) (fun c16 => absurd (nI_lt (a := n) (b := 6) (by omega) (by decide)) c16)
  refine lv_aload_n hx hb dX1_add_29 rfl (lv_at hl 0 rfl) ?_
  refine va_get (D := D) (ci := 1) (v := .int (I 0 2)) (C := RX1) (T := TX1) (N := 3) hx hb hts (fun _ h => List.mem_cons_of_mem _ (List.mem_append_left _ (List.mem_append_left _ (List.mem_append_right _ (h))))) hown hK hP 0 tp_e0 rfl 2 (by decide) (hts _ (List.mem_of_getElem? (i := 5) rfl)) (fun _ h9 => h9) rfl dX1_add_30 ?_
  refine tp_eqi (y := nI e0) he ?_
  refine lv_bipush (v := 48) hx hb dX1_add_33 (by decide) ?_
  refine lv_icmp_lt (tgt := 48) hx hb dX1_add_35 (by decide) (fun c35 => ?_) (fun c35 => absurd (nI_lt (a := e0) (b := 48) (by omega) (by decide)) c35)
  refine lv_aload_n hx hb dX1_add_48 rfl (lv_at hl 0 rfl) ?_
  refine va_get (D := D) (ci := 1) (v := .int (I 0 1)) (C := RX1) (T := TX1) (N := 3) hx hb hts (fun _ h => List.mem_cons_of_mem _ (List.mem_append_left _ (List.mem_append_left _ (List.mem_append_right _ (h))))) hown hK hP 0 tp_e0 rfl 1 (by decide) (hts _ (List.mem_of_getElem? (i := 3) rfl)) (fun _ h9 => h9) rfl dX1_add_49 ?_
  refine tp_eqi (y := nI n) hna ?_
  refine lv_istore_n (lv' := [(1, .int (nI n)), (0, .ref (ad 0))]) hx hb dX1_add_52 rfl hl (by decide) rfl (fun ls hl => ?_)
  refine lv_aload_n hx hb dX1_add_53 rfl (lv_at hl 1 rfl) ?_
  refine va_get (D := D) (ci := 1) (v := .ref (ad 1)) (C := RX1) (T := TX1) (N := 3) hx hb hts (fun _ h => List.mem_cons_of_mem _ (List.mem_append_left _ (List.mem_append_left _ (List.mem_append_right _ (h))))) hown hK hP 0 tp_e0 rfl 0 (by decide) (hts _ (List.mem_of_getElem? (i := 4) rfl)) (fun _ h9 => h9) rfl dX1_add_54 ?_
  refine lv_iload_n hx hb dX1_add_57 rfl (lv_at hl 0 rfl) ?_
  refine va_new (ci := 0) (fs := [.null, .null, .int 0, .int 0, .null, .null, .int 0, .int 0, .int 0]) (C := RX0) (T := TX0) (N := 9) hx hb hts (fun _ h => List.mem_cons_of_mem _ (List.mem_append_left _ (List.mem_append_right _ (h)))) tyX0 tyX0_ok hown (hts _ (List.mem_of_getElem? (i := 6) rfl)) (hts _ (List.mem_of_getElem? (i := 7) rfl)) (hts _ (List.mem_of_getElem? (i := 8) rfl)) hK hP hD hS hA rfl (fun j hj => by rcases (show j = 0 ∨ j = 1 ∨ j = 2 ∨ j = 3 ∨ j = 4 ∨ j = 5 ∨ j = 6 ∨ j = 7 ∨ j = 8 by omega) with rfl | rfl | rfl | rfl | rfl | rfl | rfl | rfl | rfl <;> rfl) (Nat.le_of_ble_eq_true rfl) (Nat.le_of_ble_eq_true rfl) dX1_add_58 (fun q5 H hP hD hS => ?_)
  refine lv_dup hx hb dX1_add_61 rfl ?_
  refine lv_aload_n hx hb dX1_add_62 rfl (lv_at hl 1 rfl) ?_
  refine va_get (D := D) (ci := 1) (v := .int (I 0 2)) (C := RX1) (T := TX1) (N := 3) hx hb hts (fun _ h => List.mem_cons_of_mem _ (List.mem_append_left _ (List.mem_append_left _ (List.mem_append_right _ (h))))) hown hK hP 0 (tp_app tp_e0) rfl 2 (by decide) (hts _ (List.mem_of_getElem? (i := 5) rfl)) (fun _ h9 => h9) rfl dX1_add_63 ?_
  refine tp_eqi (y := nI e0) he ?_
  have hA5 : A q5 := hD.2 (tp_w cy n ad I o).length (q5, .inr (0, [.null, .null, .int 0, .int 0, .null, .null, .int 0, .int 0, .int 0])) (by rw [List.getElem?_append_right (Nat.le_refl _), Nat.sub_self]; rfl)
  have hF : ∀ q, va_A [(q5, .inr (0, [.null, .null, .int 0, .int 0, .null, .null, .int 0, .int 0, .int 0]))] H.size q → A q := by
    intro q hq
    rcases hq with ⟨k9, e9, h9⟩ | h9
    · have h0 : k9 < 1 := (List.getElem?_eq_some_iff.mp h9).1
      obtain rfl : k9 = 0 := by omega
      cases h9
      exact hA5
    · exact hA q (Nat.le_trans hS.1 h9)
  refine va_callv (va_runIN (As := [.int (nI e0)]) (rest := [.ref q5, .int (nI n), .ref (ad 1)]) ⟨hx, hb, hml, hown, hts⟩ (hc_init l D cy q5 (nI e0) H.size) ⟨va_cnB (host := "TaperOffice") 1 hts gX1_add_X0_init_n31 rfl rfl rfl (hEw _ (List.mem_of_getElem? (i := 7) rfl)) (hts _ (List.mem_of_getElem? (i := 8) rfl)) (by decide +kernel) ⟨(Nat.le_of_ble_eq_true rfl), (Nat.le_of_ble_eq_true rfl)⟩, rfl, (hts _ (List.mem_of_getElem? (i := 9) rfl))⟩ ⟨tp_blindN, fun U hU hW => ⟨rfl, ⟨by rw [hU], by rw [hU]; exact tp_lastP hP, va_K.moved hW.alike hK, tp_lastD trivial⟩, va_AOA.moved hW.alike hEa, va_AO.moved hW.alike hEo⟩⟩ rfl rfl hl.1 rfl (lv_room (Nat.le_of_ble_eq_true rfl)) dX1_add_66 ⟨(Nat.le_of_ble_eq_true rfl), (Nat.le_of_ble_eq_true rfl)⟩) hS (fun q _ h => hF q h) hF (fun u t H1 locs ht hvm hw hB hz1 hk1 hS => ?_)
  obtain ⟨hP1, hK1, hD1⟩ := hB
  rw [ht] at hP1
  obtain ⟨hP, hD⟩ := tp_join2 hP hD hF hk1 hP1 hD1
  refine va_astq hx hb hK hP hD hS 1 3 (9 + 15 * n) 0 (tp_app (tp_at (by omega))) rfl (v := q5) (vs := [.ref (u 1), .ref (u 7), .int 0, .int (nI e0), .ref (u 13), .ref (u 14), .int 0, .int 0, .int 0]) (by rw [List.getElem?_append_right (by rw [tp_w_len]; exact Nat.le_refl _), tp_w_len, Nat.sub_self, tp_hw_at (by decide)]; rfl) (r := (RX0, TX0, 9)) rfl (vp_in_nI (by omega) (by decide)) dX1_add_69 (fun H locs hP hD hS => ?_)
  rw [nI_clamp (by omega), tp_grow] at hP hD
  have hg0 : ad 0 = tp_gad n ad u q5 0 := (tp_gad_lo (by omega)).symm
  rw [hg0] at hl
  refine lv_aload_n hx hb dX1_add_70 rfl (lv_at hl 1 rfl) ?_
  refine lv_iload_n hx hb dX1_add_71 rfl (lv_at hl 0 rfl) ?_
  refine lv_iconst (v := 1) hx hb dX1_add_72 (by decide) ?_
  refine lv_iadd hx hb dX1_add_73 ?_
  refine tp_eqi (y := nI (n + 1)) (nI_1 n) ?_
  refine tp_put (ci := 1) (v := nI (n + 1)) (ty := .int) (C := RX1) (T := TX1) (N := 3) hx hb hts (fun _ h => List.mem_cons_of_mem _ (List.mem_append_left _ (List.mem_append_left _ (List.mem_append_right _ (h))))) tyX1 tyX1_ok nmX1 hown hK hP hD hS 0 tp_e0 (by omega) rfl 1 (by decide) (hts _ (List.mem_of_getElem? (i := 3) rfl)) rfl (by decide +kernel) rfl rfl (Nat.le_of_ble_eq_true rfl) rfl dX1_add_74 (fun H locs hP hD hS => ?_)
  refine lv_iload_n hx hb dX1_add_77 rfl (lv_at hl 0 rfl) ?_
  refine W.widen (k := 15) (n := 595) (Nat.le_of_ble_eq_true rfl) (Nat.le_of_ble_eq_true rfl) ?_
  exact W.iret (v := nI n) hx hb hr (fun t ht hW => ⟨⟨nI n, tp_gad n ad u q5, rfl, ⟨rfl, fun k hk => tp_gad_lo hk⟩, by rw [ht]; exact hP, va_K.moved hW.alike hK, hD⟩, hS.F ht⟩) hS.2.2 dX1_add_78

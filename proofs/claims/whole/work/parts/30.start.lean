/-! THE LAW'S START: two objects and an array made, then the loop -/
def te_ad (q0 q1 q2 : Nat) (u : Nat → Nat) (q13 : Nat) : Nat → Nat := fun k => if k = 0 then q0 else if k = 1 then q1 else if k = 2 then q2 else if k = 13 then q13 else u k
theorem te_w {cy : Nat → ClassId} {q0 q1 q2 q13 : Nat} {u : Nat → Nat} : ([(q0, .inr (1, [.ref q1, .int 0, .int 0])), (q1, .inl (cy 3, 6, .inr (.inr (.inr (.inr (fun _ => none)))))), (q2, .inr (2, [.int 0, .int 0, .int 0, .ref (u 3), .ref (u 4), .ref (u 5), .ref (u 6), .ref (u 7), .ref (u 8), .ref (u 9), .ref (u 10), .ref (u 11), .ref (u 12), .int 0, .int 0, .int 0])), (u 3, .inl (cy 0, 6, .inl (fun _ => 0))), (u 4, .inl (cy 0, 6, .inl (fun _ => 0))), (u 5, .inl (cy 0, 600, .inl (fun _ => 0))), (u 6, .inl (cy 0, 600, .inl (fun _ => 0))), (u 7, .inl (cy 0, 600, .inl (fun _ => 0))), (u 8, .inl (cy 0, 288, .inl (fun _ => 0))), (u 9, .inl (cy 0, 288, .inl (fun _ => 0))), (u 10, .inl (cy 0, 6, .inl (fun _ => 0))), (u 11, .inl (cy 0, 6, .inl (fun _ => 0))), (u 12, .inl (cy 1, 6, .inl (fun _ => 0))), (q13, .inl (cy 2, 1, .inr (.inl (fun _ => 0))))] : va_W) = tp_w cy 0 (te_ad q0 q1 q2 u q13) (fun _ _ => 0) 0 := by
  have e : ((fun _ => none) : Nat → Option Nat) = tp_rf 0 (fun j => te_ad q0 q1 q2 u q13 (14 + 15 * j)) := by
    funext j
    unfold tp_rf
    rw [if_neg (by omega)]
  rw [e]
  rfl
theorem te_rel : tp_rel 0 (fun _ _ => 0) := ⟨by decide, rfl, rfl, 0, fun _ => 0, fun _ => 0, by decide, rfl, rfl, fun h _ _ => ⟨rfl, rfl, rfl, rfl, fun m _ => ⟨rfl, rfl⟩⟩, fun h hh => by omega⟩
set_option maxHeartbeats 4000000 in
set_option maxRecDepth 100000 in
/-- from the entry, for every script of at most 2560 ints, the law comes to its end with true -/
theorem whole_start {p : Program} {e : Env} {s : State} {m : MethodId} {below : List Frame} {meth : Method} {c : Code} (l : Launch) (hflags : l.flags = flags0) {b L : Nat} {xs : Nat → Int32} (hL : L ≤ 2560) (C0 : lw_At p s m meth c b L xs) : W p l e room_1 s m #[Value.ref b] below meth c s.heap [] 0 0 (lw_Z below #[Value.ref b] s) (entryFrame m ([Value.ref b] : List Value).toArray 7) := by
  obtain ⟨hx, hb, hr, hml, hown, hts, hX, hbl, hlocks, hgv⟩ := id C0
  have hlt : l.stackTraces = false := by
    unfold Launch.stackTraces
    rw [hflags]
    decide
  have hA : ∀ q : Nat, s.heap.size ≤ q → tp_Al s q := fun _ h => h
  have hbA : ¬ tp_Al s b := Nat.not_le.mpr hbl
  obtain ⟨sa, tL, tM, hE⟩ := te_env hts hgv
  obtain ⟨D, cy, hK⟩ := te_K hts
  have ht := fun w h => hts w (te_tbl w h)
  have hEa : va_AOA .int s := ht _ (List.mem_of_getElem? (i := 6) rfl)
  have hEo : va_AO "TaperOffice$Household" s := va_AO.of (ht _ (List.mem_of_getElem? (i := 7) rfl))
  have hts1 : ∀ w ∈ wsL_law, w.before #[Value.ref b] s = true := fun w h => hts w (wsL_law_in w h)
  have hS : va_S (tp_Al s) s.heap s.heap [] := va_S.rf
  have hP : va_P D vwCl [] s.heap := fun k q h => by simp at h
  have hD : va_D (tp_Al s) [] := ⟨fun i j p q h => by simp at h, fun k q h => by simp at h⟩
  have hl := lv_entry ([.ref b]) (n := 7) (Nat.le_of_ble_eq_true rfl)
  rw [lg_entry_eq]
  generalize (lg_sl ([.ref b]) ++ List.replicate (7 - (lg_sl ([.ref b])).length) Slot.unset).toArray = ls at hl ⊢
  have hl : lv_has ls 7 [(0, .ref b)] := hl
  refine va_new (ci := 1) (fs := [.null, .int 0, .int 0]) (C := RX1) (T := TX1) (N := 3) hx hb hts inX1 tyX1 tyX1_ok hown (ht _ (List.mem_of_getElem? (i := 14) rfl)) (ht _ (List.mem_of_getElem? (i := 12) rfl)) (ht _ (List.mem_of_getElem? (i := 16) rfl)) hK hP hD hS hA rfl (fun j hj => by rcases (show j = 0 ∨ j = 1 ∨ j = 2 by omega) with rfl | rfl | rfl <;> rfl) (Nat.le_of_ble_eq_true rfl) (Nat.le_of_ble_eq_true rfl) dL_law_0 (fun q0 H hP hD hS => ?_)
  refine lv_dup hx hb dL_law_3 rfl ?_
  have hA0 : tp_Al s q0 := hD.2 0 (q0, .inr (1, [.null, .int 0, .int 0])) rfl
  have hF : ∀ q, va_A [(q0, .inr (1, [.null, .int 0, .int 0]))] H.size q → tp_Al s q := by
    intro q hq
    rcases hq with ⟨k9, e9, h9⟩ | h9
    · have h0 : k9 < 1 := (List.getElem?_eq_some_iff.mp h9).1
      obtain rfl : k9 = 0 := by omega
      cases h9
      exact hA0
    · exact hA q (Nat.le_trans hS.1 h9)
  refine va_callv (va_runI (As := []) (rest := [.ref q0]) ⟨hx, hb, hml, hown, hts1⟩ (oc_init l D cy q0 0 0 H.size) (cwI 0 hts1 gL_law_X1_init rfl rfl rfl (ht _ (List.mem_of_getElem? (i := 16) rfl)) (ht _ (List.mem_of_getElem? (i := 18) rfl)) (ht _ (List.mem_of_getElem? (i := 20) rfl)) rfl (by decide +kernel) ⟨Nat.le_of_ble_eq_true rfl, Nat.le_of_ble_eq_true rfl⟩) ⟨tp_blindN, fun U hU hW => ⟨rfl, ⟨by rw [hU], by rw [hU]; exact tp_lastP hP, va_K.moved hW.alike hK, tp_lastD trivial⟩, va_AOA.moved hW.alike hEa, va_AO.moved hW.alike hEo⟩⟩ rfl rfl hl.1 rfl (lv_room (Nat.le_of_ble_eq_true rfl)) dL_law_4 ⟨Nat.le_of_ble_eq_true rfl, Nat.le_of_ble_eq_true rfl⟩) hS (fun q _ h => hF q h) hF (fun u1 t H1 locs ht1 hvm hw hB hz1 hk1 hS => ?_)
  obtain ⟨hP1, hK1, hD1⟩ := hB
  rw [ht1] at hP1
  obtain ⟨hP, hD⟩ := tp_join2 hP hD hF hk1 hP1 hD1
  refine lv_astore_n (lv' := [(1, .ref q0), (0, .ref b)]) hx hb dL_law_7 rfl hl (by decide) rfl (fun ls hl => ?_)
  clear hF
  refine va_new (ci := 2) (fs := [.int 0, .int 0, .int 0, .null, .null, .null, .null, .null, .null, .null, .null, .null, .null, .int 0, .int 0, .int 0]) (C := RX2) (T := TX2) (N := 16) hx hb hts inX2 tyX2 tyX2_ok hown (ht _ (List.mem_of_getElem? (i := 15) rfl)) (ht _ (List.mem_of_getElem? (i := 13) rfl)) (ht _ (List.mem_of_getElem? (i := 17) rfl)) hK hP hD hS hA rfl (fun j hj => by rcases (show j = 0 ∨ j = 1 ∨ j = 2 ∨ j = 3 ∨ j = 4 ∨ j = 5 ∨ j = 6 ∨ j = 7 ∨ j = 8 ∨ j = 9 ∨ j = 10 ∨ j = 11 ∨ j = 12 ∨ j = 13 ∨ j = 14 ∨ j = 15 by omega) with rfl | rfl | rfl | rfl | rfl | rfl | rfl | rfl | rfl | rfl | rfl | rfl | rfl | rfl | rfl | rfl <;> rfl) (Nat.le_of_ble_eq_true rfl) (Nat.le_of_ble_eq_true rfl) dL_law_8 (fun q2 H hP hD hS => ?_)
  refine lv_dup hx hb dL_law_11 rfl ?_
  have hA2 : tp_Al s q2 := hD.2 2 (q2, .inr (2, [.int 0, .int 0, .int 0, .null, .null, .null, .null, .null, .null, .null, .null, .null, .null, .int 0, .int 0, .int 0])) rfl
  have hF : ∀ q, va_A [(q2, .inr (2, [.int 0, .int 0, .int 0, .null, .null, .null, .null, .null, .null, .null, .null, .null, .null, .int 0, .int 0, .int 0]))] H.size q → tp_Al s q := by
    intro q hq
    rcases hq with ⟨k9, e9, h9⟩ | h9
    · have h0 : k9 < 1 := (List.getElem?_eq_some_iff.mp h9).1
      obtain rfl : k9 = 0 := by omega
      cases h9
      exact hA2
    · exact hA q (Nat.le_trans hS.1 h9)
  refine va_callv (va_runI (As := []) (rest := [.ref q2]) ⟨hx, hb, hml, hown, hts1⟩ (mc_init l D cy q2 H.size) (cwI 0 hts1 gL_law_X2_init rfl rfl rfl (ht _ (List.mem_of_getElem? (i := 17) rfl)) (ht _ (List.mem_of_getElem? (i := 19) rfl)) (ht _ (List.mem_of_getElem? (i := 21) rfl)) rfl (by decide +kernel) ⟨Nat.le_of_ble_eq_true rfl, Nat.le_of_ble_eq_true rfl⟩) ⟨tp_blindN, fun U hU hW => ⟨rfl, ⟨by rw [hU], by rw [hU]; exact tp_lastP hP, va_K.moved hW.alike hK, tp_lastD trivial⟩, va_AOA.moved hW.alike hEa, va_AO.moved hW.alike hEo⟩⟩ rfl rfl hl.1 rfl (lv_room (Nat.le_of_ble_eq_true rfl)) dL_law_12 ⟨Nat.le_of_ble_eq_true rfl, Nat.le_of_ble_eq_true rfl⟩) hS (fun q _ h => hF q h) hF (fun u t H1 locs ht1 hvm hw hB hz1 hk1 hS => ?_)
  obtain ⟨hP1, hK1, hD1⟩ := hB
  rw [ht1] at hP1
  obtain ⟨hP, hD⟩ := tp_join2 hP hD hF hk1 hP1 hD1
  clear hF
  refine lv_astore_n (lv' := [(2, .ref q2), (1, .ref q0), (0, .ref b)]) hx hb dL_law_15 rfl hl (by decide) rfl (fun ls hl => ?_)
  refine lv_iconst (v := 1) hx hb dL_law_16 (by decide) ?_
  refine tp_newa (ty := .long) (N' := 1) (a0 := (1, .inr (.inl (fun _ => 0)))) hx hb 2 (ht _ (List.mem_of_getElem? (i := 10) rfl)) rfl rfl (fun _ _ => tp_raL) hK hP hD hS hA (fun _ => rfl) (by decide) (by decide) (by decide) (Nat.le_of_ble_eq_true rfl) (Nat.le_of_ble_eq_true rfl) dL_law_17 (fun q13 H hP hD hS => ?_)
  have hP : va_P D vwCl (tp_w cy 0 (te_ad q0 (u1 1) q2 u q13) (fun _ _ => 0) 0) H := by
    rw [← te_w]
    exact hP
  have hD : va_D (tp_Al s) (tp_w cy 0 (te_ad q0 (u1 1) q2 u q13) (fun _ _ => 0) 0) := by
    rw [← te_w]
    exact hD
  refine lv_astore_n (lv' := [(3, .ref q13), (2, .ref q2), (1, .ref q0), (0, .ref b)]) hx hb dL_law_19 rfl hl (by decide) rfl (fun ls hl => ?_)
  refine lv_iconst (v := 0) hx hb dL_law_20 (by decide) ?_
  refine lv_istore (lv' := [(4, .int 0), (3, .ref q13), (2, .ref q2), (1, .ref q0), (0, .ref b)]) hx hb dL_law_21 hl (by decide) rfl (fun ls hl => ?_)
  exact lx_loop l hlt C0 hL hE hK L 0 0 (te_ad q0 (u1 1) q2 u q13) (fun _ _ => 0) 0 H _ _ _ ls (by omega) (by omega) ⟨hP, hD, hS⟩ (Nat.le_of_ble_eq_true rfl) (Nat.le_of_ble_eq_true rfl) hl te_rel

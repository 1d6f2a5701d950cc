/-! THE LAW'S LOOP -/
set_option maxHeartbeats 4000000 in
set_option maxRecDepth 100000 in
/-- the end of a turn -/
theorem lx_end (l : Launch) (hlt : l.stackTraces = false) {p : Program} {e : Env} {s : State} {m : MethodId} {below : List Frame} {meth : Method} {c : Code} {b L t : Nat} {xs : Nat → Int32} (C0 : tp_CX p s m meth c b L xs) {D : va_G} {cy : Nat → ClassId} {n : Nat} {ad : Nat → Nat} {I : Nat → Nat → Int32} {o : Int64} {sa : Nat → Nat} {tL tM : Nat} {H : Heap} {locs : List Loc} {cells slots : Nat} {Q : State → Prop} {ls : Array Slot} (z : Int32)
    (hE : tp_EV sa tL tM (tp_Al s) s s.heap) (hK : va_K D vwCl (tp_ty cy) s) (hW0 : tp_Wd D cy n ad I o s H locs) (hcs : cells + 100 ≤ 600104 ∧ slots + 1000 ≤ 7301314) (hl : lv_has ls 16 ((13, .int 1) :: (10, .int z) :: tp_lv b ad t)) (hR : tq_rel n I) (hn1 : 1 ≤ n) (ht : t < 110)
    (kk : ∀ (H1 : Heap) (locs1 : List Loc) (ls1 : Array Slot), tp_Wd D cy n ad I o s H1 locs1 → lv_has ls1 16 (tp_lv b ad (t + 1)) → W p l e room_1 s m #[Value.ref b] below meth c H1 locs1 (cells + 100) (slots + 1000) Q (F0 m 51 ls1 [])) : W p l e room_1 s m #[Value.ref b] below meth c H locs cells slots Q (F0 m 535 ls []) := by
  obtain ⟨hx, hb, hml, hown, hts, hX, hbl⟩ := C0
  obtain ⟨hP, hD, hS⟩ := hW0
  have hA : ∀ q : Nat, s.heap.size ≤ q → tp_Al s q := fun q h => h
  have hl : lv_has ls 16 [(13, .int 1), (10, .int z), (9, .int (nI t)), (8, .ref (ad (8))), (7, .ref (ad (7))), (6, .ref (ad (6))), (5, .ref (ad (5))), (4, .ref (ad (4))), (3, .ref (ad (3))), (2, .ref (ad (2))), (1, .ref (ad (0))), (0, .ref b)] := hl
  obtain ⟨hn2, h01, h21, e0, c0, aF, kF, ⟨he8, hc64, hn0, h02, h20, h22⟩, RR, RF, RH⟩ := id hR
  refine lv_iload hx hb dL_law_535 (lv_at hl 0 rfl) ?_
  refine lv_if_eq (tgt := 627) hx hb dL_law_537 (by decide) (fun c => absurd c (by decide)) (fun _ => ?_)
  refine lv_aload_n hx hb dL_law_540 rfl (lv_at hl 10 rfl) ?_
  refine tp_callV ⟨hx, hb, hml, hown, hts⟩ (op_month l D cy n ad o I) (cwV 0 hts gL_law_X1_month rfl rfl rfl (by decide +kernel) ⟨(Nat.le_of_ble_eq_true rfl), (Nat.le_of_ble_eq_true rfl)⟩) hK hP hD hS hA 0 1 tp_e0 rfl rfl rfl hl.1 rfl (Nat.le_of_ble_eq_true rfl) dL_law_541 ⟨Nat.le_trans (by omega : cells ≤ cells + 100) hcs.1, Nat.le_trans (by omega : slots ≤ slots + 1000) hcs.2⟩ (fun I9 e9 H locs hP hD hS => ?_)
  subst e9
  refine tp_meetH (D := D) (cy := cy) (n := n) (ad := ad) (I := I) (o := o) (A := tp_Al s) (H0 := s.heap) (if 48 ≤ I 0 2 then -1 else I 0 2 : Int32) (fun y => F0 m 559 ls (.int y :: [.int (if 48 ≤ I 0 2 then -1 else I 0 2)])) (fun hj559 => ?_) (fun H locs hP hD hS => ?_)
  · refine lv_aload_n hx hb dL_law_544 rfl (lv_at hl 9 rfl) ?_
    refine lv_iconst (v := 0) hx hb dL_law_545 (by decide) ?_
    refine tp_iald hx hb hK hP (2) 12 (0) (by omega) rfl (by decide) (by decide) (by decide) dL_law_546 ?_
    refine tp_eqi (y := nI e0) h20 ?_
    refine lv_bipush (v := 48) hx hb dL_law_547 (by decide) ?_
    refine lv_icmp_ne (tgt := 556) hx hb dL_law_549 (by decide) (fun c549_1 => ?_) (fun c549_1 => ?_)
    · refine lv_aload_n hx hb dL_law_556 rfl (lv_at hl 9 rfl) ?_
      refine lv_iconst (v := 0) hx hb dL_law_557 (by decide) ?_
      refine tp_iald hx hb hK hP (2) 12 (0) (by omega) rfl (by decide) (by decide) (by decide) dL_law_558 ?_
      refine tp_eqi (y := nI e0) h20 ?_
      exact hj559 _ (by rw [h02, if_neg (fun q => c549_1 (by have q2 := (nI_leI (a := 48) (by decide) (by omega)).mp q; rw [show e0 = 48 by omega]; rfl))]) _ _ hP hD hS
    · refine lv_iconst (v := (-1)) hx hb dL_law_552 (by decide) ?_
      refine lv_goto (tgt := 559) hx hb dL_law_553 (by decide) ?_
      exact hj559 _ (by rw [h02, if_pos (by rw [c549_1]; decide)]) _ _ hP hD hS
  refine lv_icmp_ne (tgt := 627) hx hb dL_law_559 (by decide) (fun c => absurd rfl c) (fun _ => ?_)
  refine lv_aload_n hx hb dL_law_562 rfl (lv_at hl 10 rfl) ?_
  refine tp_callV ⟨hx, hb, hml, hown, hts⟩ (op_households l D cy n ad o I) (cwV 0 hts gL_law_X1_households rfl rfl rfl (by decide +kernel) ⟨(Nat.le_of_ble_eq_true rfl), (Nat.le_of_ble_eq_true rfl)⟩) hK hP hD hS hA 0 1 tp_e0 rfl rfl rfl hl.1 rfl (Nat.le_of_ble_eq_true rfl) dL_law_563 ⟨Nat.le_trans (by omega : cells ≤ cells + 100) hcs.1, Nat.le_trans (by omega : slots ≤ slots + 1000) hcs.2⟩ (fun I9 e9 H locs hP hD hS => ?_)
  subst e9
  refine lv_aload_n hx hb dL_law_566 rfl (lv_at hl 9 rfl) ?_
  refine lv_iconst (v := 1) hx hb dL_law_567 (by decide) ?_
  refine tp_iald hx hb hK hP (2) 12 (1) (by omega) rfl (by decide) (by decide) (by decide) dL_law_568 ?_
  refine tp_eqi (y := nI n) h21 ?_
  refine lv_icmp_ne (tgt := 627) hx hb dL_law_569 (by decide) (fun c => absurd h01 c) (fun _ => ?_)
  refine lv_iload hx hb dL_law_572 (lv_at hl 2 rfl) ?_
  refine lv_iconst (v := 3) hx hb dL_law_574 (by decide) ?_
  refine lv_irem hx hb dL_law_575 (by decide) ?_
  refine tp_eqi (y := nI (t % 3)) (pk_rem (d := 3) (by omega) (by decide) (by decide)) ?_
  refine lv_iconst (v := 1) hx hb dL_law_576 (by decide) ?_
  refine lv_icmp_ne (tgt := 629) hx hb dL_law_577 (by decide) (fun c577_2 => ?_) (fun c577_2 => ?_)
  · refine lv_iinc (v := nI (t + 1)) (lv' := tp_lv b ad (t + 1)) hx hb dL_law_629 (lv_sub hl [2, 3, 4, 5, 6, 7, 8, 9, 10, 11] rfl) (k := 0) rfl (nI_1 _) (by decide) rfl (fun ls hl => ?_)
    refine lv_goto (tgt := 51) hx hb dL_law_632 (by decide) ?_
    refine W.widen (k := cells + 100) (n := slots + 1000) (by omega) (by omega) ?_
    exact kk H locs ls ⟨hP, hD, hS⟩ hl
  · refine lv_aload_n hx hb dL_law_580 rfl (lv_at hl 10 rfl) ?_
    refine lv_iconst (v := 0) hx hb dL_law_581 (by decide) ?_
    refine lv_iload hx hb dL_law_582 (lv_at hl 1 rfl) ?_
    refine lv_iconst (v := 2) hx hb dL_law_584 (by decide) ?_
    refine lv_ishr hx hb dL_law_585 ?_
    refine tp_eqi (y := tl_shr z 2) rfl ?_
    refine lv_aload_n hx hb dL_law_586 rfl (lv_at hl 8 rfl) ?_
    refine lv_aload hx hb dL_law_587 (lv_at hl 7 rfl) ?_
    refine lv_aload hx hb dL_law_589 (lv_at hl 6 rfl) ?_
    refine lv_aload hx hb dL_law_591 (lv_at hl 4 rfl) ?_
    refine lv_aload_n hx hb dL_law_593 rfl (lv_at hl 9 rfl) ?_
    refine tp_callSE ⟨hx, hb, hml, hown, hts⟩ (lf_isHome l D cy n ad o I sa tL tM 0 c0 (RH 0 hn1).1 e0 (aF 0) (RH 0 hn1).2.1 hn1 (by omega) (RH 0 hn1).2.2.1 h02 (tl_shr z 2)) (va_cwS 8 hts gL_law_L_isHome rfl rfl rfl (by decide +kernel) ⟨(Nat.le_of_ble_eq_true rfl), (Nat.le_of_ble_eq_true rfl)⟩) hE hK hP hD hS hA rfl hl.1 rfl (Nat.le_of_ble_eq_true rfl) dL_law_594 ⟨Nat.le_trans (by omega : cells ≤ cells + 100) hcs.1, Nat.le_trans (by omega : slots ≤ slots + 1000) hcs.2⟩ (fun I9 e9 H locs hP hD hS => ?_)
    subst e9
    refine lv_if_eq (tgt := 627) hx hb dL_law_597 (by decide) (fun c => absurd c (by decide)) (fun _ => ?_)
    refine lv_aload_n hx hb dL_law_600 rfl (lv_at hl 9 rfl) ?_
    refine lv_iconst (v := 1) hx hb dL_law_601 (by decide) ?_
    refine tp_iald hx hb hK hP (2) 12 (1) (by omega) rfl (by decide) (by decide) (by decide) dL_law_602 ?_
    refine tp_eqi (y := nI n) h21 ?_
    refine lv_iconst (v := 1) hx hb dL_law_603 (by decide) ?_
    refine lv_icmp_le (tgt := 629) hx hb dL_law_604 (by decide) (fun c604_3 => ?_) (fun c604_3 => ?_)
    · refine lv_iinc (v := nI (t + 1)) (lv' := tp_lv b ad (t + 1)) hx hb dL_law_629 (lv_sub hl [2, 3, 4, 5, 6, 7, 8, 9, 10, 11] rfl) (k := 0) rfl (nI_1 _) (by decide) rfl (fun ls hl => ?_)
      refine lv_goto (tgt := 51) hx hb dL_law_632 (by decide) ?_
      refine W.widen (k := cells + 100) (n := slots + 1000) (by omega) (by omega) ?_
      exact kk H locs ls ⟨hP, hD, hS⟩ hl
    · have hn2b : 1 < n := Decidable.byContradiction (fun q => c604_3 (nI_le (a := n) (b := 1) (by omega) (by decide)))
      refine lv_aload_n hx hb dL_law_607 rfl (lv_at hl 10 rfl) ?_
      refine lv_iconst (v := 1) hx hb dL_law_608 (by decide) ?_
      refine lv_iload hx hb dL_law_609 (lv_at hl 1 rfl) ?_
      refine lv_iconst (v := 3) hx hb dL_law_611 (by decide) ?_
      refine lv_ishr hx hb dL_law_612 ?_
      refine tp_eqi (y := tl_shr z 3) rfl ?_
      refine lv_aload_n hx hb dL_law_613 rfl (lv_at hl 8 rfl) ?_
      refine lv_aload hx hb dL_law_614 (lv_at hl 7 rfl) ?_
      refine lv_aload hx hb dL_law_616 (lv_at hl 5 rfl) ?_
      refine lv_aload hx hb dL_law_618 (lv_at hl 3 rfl) ?_
      refine lv_aload_n hx hb dL_law_620 rfl (lv_at hl 9 rfl) ?_
      refine tp_callSE ⟨hx, hb, hml, hown, hts⟩ (lf_isHome l D cy n ad o I sa tL tM 1 c0 (RH 1 hn2b).1 e0 (aF 1) (RH 1 hn2b).2.1 hn2b (by omega) (RH 1 hn2b).2.2.1 h02 (tl_shr z 3)) (va_cwS 8 hts gL_law_L_isHome rfl rfl rfl (by decide +kernel) ⟨(Nat.le_of_ble_eq_true rfl), (Nat.le_of_ble_eq_true rfl)⟩) hE hK hP hD hS hA rfl hl.1 rfl (Nat.le_of_ble_eq_true rfl) dL_law_621 ⟨Nat.le_trans (by omega : cells ≤ cells + 100) hcs.1, Nat.le_trans (by omega : slots ≤ slots + 1000) hcs.2⟩ (fun I9 e9 H locs hP hD hS => ?_)
      subst e9
      refine lv_if_ne (tgt := 629) hx hb dL_law_624 (by decide) (fun _ => ?_) (fun c => absurd c (by decide))
      refine lv_iinc (v := nI (t + 1)) (lv' := tp_lv b ad (t + 1)) hx hb dL_law_629 (lv_sub hl [2, 3, 4, 5, 6, 7, 8, 9, 10, 11] rfl) (k := 0) rfl (nI_1 _) (by decide) rfl (fun ls hl => ?_)
      refine lv_goto (tgt := 51) hx hb dL_law_632 (by decide) ?_
      refine W.widen (k := cells + 100) (n := slots + 1000) (by omega) (by omega) ?_
      exact kk H locs ls ⟨hP, hD, hS⟩ hl
set_option maxHeartbeats 4000000 in
set_option maxRecDepth 100000 in
/-- a turn, none there yet -/
theorem lx_turn0 (l : Launch) (hlt : l.stackTraces = false) {p : Program} {e : Env} {s : State} {m : MethodId} {below : List Frame} {meth : Method} {c : Code} {b L t : Nat} {xs : Nat → Int32} (C0 : tp_CX p s m meth c b L xs) (hL : L ≤ 260) (ht : t < 110) {D : va_G} {cy : Nat → ClassId} {n : Nat} {ad : Nat → Nat} {I : Nat → Nat → Int32} {o : Int64} {sa : Nat → Nat} {tL tM : Nat} {H : Heap} {locs : List Loc} {cells slots : Nat} {Q : State → Prop} {ls : Array Slot}
    (hE : tp_EV sa tL tM (tp_Al s) s s.heap) (hK : va_K D vwCl (tp_ty cy) s) (hW0 : tp_Wd D cy n ad I o s H locs) (hcs : cells + 100 ≤ 600104 ∧ slots + 1000 ≤ 7301314) (hl : lv_has ls 16 (tp_lv b ad t)) (hR : tq_rel n I) (hn : n = 0)
    (kk : ∀ (n2 : Nat) (ad2 : Nat → Nat) (I2 : Nat → Nat → Int32) (H1 : Heap) (locs1 : List Loc) (ls1 : Array Slot), 1 ≤ n2 → tq_rel n2 I2 → tp_Wd D cy n2 ad2 I2 o s H1 locs1 → lv_has ls1 16 ((13, .int 1) :: (10, .int (tl_cell L xs t)) :: tp_lv b ad2 t) → W p l e room_1 s m #[Value.ref b] below meth c H1 locs1 (cells + 100) (slots + 1000) Q (F0 m 535 ls1 [])) : W p l e room_1 s m #[Value.ref b] below meth c H locs cells slots Q (F0 m 51 ls []) := by
  obtain ⟨hx, hb, hml, hown, hts, hX, hbl⟩ := id C0
  obtain ⟨hP, hD, hS⟩ := hW0
  have hA : ∀ q : Nat, s.heap.size ≤ q → tp_Al s q := fun q h => h
  have hl : lv_has ls 16 [(9, .int (nI t)), (8, .ref (ad (8))), (7, .ref (ad (7))), (6, .ref (ad (6))), (5, .ref (ad (5))), (4, .ref (ad (4))), (3, .ref (ad (3))), (2, .ref (ad (2))), (1, .ref (ad (0))), (0, .ref b)] := hl
  obtain ⟨hn2, h01, h21, e0, c0, aF, kF, ⟨he8, hc64, hn0, h02, h20, h22⟩, RR, RF, RH⟩ := id hR
  refine lv_iload hx hb dL_law_51 (lv_at hl 0 rfl) ?_
  refine lv_bipush (v := 110) hx hb dL_law_53 (by decide) ?_
  refine lv_icmp_ge (tgt := 635) hx hb dL_law_55 (by decide) (fun c => absurd c (nI_ge (a := t) (b := 110) (by omega) (by decide))) (fun _ => ?_)
  refine lv_aload_n hx hb dL_law_58 rfl (lv_at hl 9 rfl) ?_
  refine lv_iload hx hb dL_law_59 (lv_at hl 0 rfl) ?_
  have hF := tp_fr hD hS hA
  have hbl2 : b < H.size := Nat.lt_of_lt_of_le hbl hS.1
  have hbn : ¬ va_A (tp_w cy n ad I o) H.size b := fun q => Nat.not_le.mpr hbl (hF b q)
  refine va_calli (va_runS (As := [.ref b, .int (nI t)]) (rest := []) ⟨hx, hb, hml, hown, hts⟩ (lf_cell l D cy n ad o b L xs I t hL ht H.size hbn hbl2) (va_cwS 2 hts gL_law_L_cell rfl rfl rfl (by decide +kernel) ⟨(Nat.le_of_ble_eq_true rfl), (Nat.le_of_ble_eq_true rfl)⟩) ⟨tl_blindC, fun U hU hW => ⟨rfl, ⟨by rw [hU], by rw [hU]; exact hP, va_K.moved hW.alike hK, hD.weaken (fun _ _ _ _ => trivial)⟩, by rw [hU]; exact va_X.moved hW.alike (hX.kept (hS.2.1 b hbl (Nat.not_le.mpr hbl)))⟩⟩ rfl rfl hl.1 rfl (lv_room (Nat.le_of_ble_eq_true rfl)) dL_law_61 ⟨Nat.le_trans (by omega : cells ≤ cells + 100) hcs.1, Nat.le_trans (by omega : slots ≤ slots + 1000) hcs.2⟩) hS (fun q _ h => hF q h) hF (fun r1 u t1 H locs ht1 hvm hw hB hz1 hk1 hS => ?_)
  obtain ⟨rfl, rfl⟩ := hw
  obtain ⟨hP1, hK1, hD1⟩ := hB
  rw [ht1] at hP1
  have hD := hD1.weaken (B := tp_Al s) (fun _ _ _ h => hF _ h)
  have hP := hP1
  clear hF
  generalize tl_cell L xs t = z at kk ⊢
  refine lv_istore (lv' := [(10, .int z), (9, .int (nI t)), (8, .ref (ad (8))), (7, .ref (ad (7))), (6, .ref (ad (6))), (5, .ref (ad (5))), (4, .ref (ad (4))), (3, .ref (ad (3))), (2, .ref (ad (2))), (1, .ref (ad (0))), (0, .ref b)]) hx hb dL_law_64 hl (by decide) rfl (fun ls hl => ?_)
  refine lv_iload hx hb dL_law_66 (lv_at hl 0 rfl) ?_
  refine lv_bipush (v := 16) hx hb dL_law_68 (by decide) ?_
  refine tp_callS ⟨hx, hb, hml, hown, hts⟩ (lf_low l D cy n ad o u z 16 (by decide) (by decide)) (va_cwS 2 hts gL_law_L_low rfl rfl rfl (by decide +kernel) ⟨(Nat.le_of_ble_eq_true rfl), (Nat.le_of_ble_eq_true rfl)⟩) hK hP hD hS hA rfl hl.1 rfl (Nat.le_of_ble_eq_true rfl) dL_law_70 ⟨Nat.le_trans (by omega : cells ≤ cells + 100) hcs.1, Nat.le_trans (by omega : slots ≤ slots + 1000) hcs.2⟩ (fun I9 e9 H locs hP hD hS => ?_)
  subst e9
  refine lv_istore (lv' := [(11, .int (nI (tl_low z 16))), (10, .int z), (9, .int (nI t)), (8, .ref (ad (8))), (7, .ref (ad (7))), (6, .ref (ad (6))), (5, .ref (ad (5))), (4, .ref (ad (4))), (3, .ref (ad (3))), (2, .ref (ad (2))), (1, .ref (ad (0))), (0, .ref b)]) hx hb dL_law_73 hl (by decide) rfl (fun ls hl => ?_)
  refine lv_aload_n hx hb dL_law_75 rfl (lv_at hl 9 rfl) ?_
  refine lv_iconst (v := 1) hx hb dL_law_76 (by decide) ?_
  refine tp_iald hx hb hK hP (2) 12 (1) (by omega) rfl (by decide) (by decide) (by decide) dL_law_77 ?_
  refine tp_eqi (y := nI n) h21 ?_
  refine lv_if_ne (tgt := 85) hx hb dL_law_78 (by decide) (fun c => absurd (show nI n = 0 by rw [hn]; rfl) c) (fun _ => ?_)
  refine lv_iconst (v := 0) hx hb dL_law_81 (by decide) ?_
  refine lv_goto (tgt := 95) hx hb dL_law_82 (by decide) ?_
  refine lv_istore (lv' := [(12, .int 0), (11, .int (nI (tl_low z 16))), (10, .int z), (9, .int (nI t)), (8, .ref (ad (8))), (7, .ref (ad (7))), (6, .ref (ad (6))), (5, .ref (ad (5))), (4, .ref (ad (4))), (3, .ref (ad (3))), (2, .ref (ad (2))), (1, .ref (ad (0))), (0, .ref b)]) hx hb dL_law_95 hl (by decide) rfl (fun ls hl => ?_)
  refine lv_iconst (v := 1) hx hb dL_law_97 (by decide) ?_
  refine lv_istore (lv' := [(13, .int 1), (12, .int 0), (11, .int (nI (tl_low z 16))), (10, .int z), (9, .int (nI t)), (8, .ref (ad (8))), (7, .ref (ad (7))), (6, .ref (ad (6))), (5, .ref (ad (5))), (4, .ref (ad (4))), (3, .ref (ad (3))), (2, .ref (ad (2))), (1, .ref (ad (0))), (0, .ref b)]) hx hb dL_law_98 hl (by decide) rfl (fun ls hl => ?_)
  refine lv_aload_n hx hb dL_law_100 rfl (lv_at hl 11 rfl) ?_
  refine lv_iconst (v := 1) hx hb dL_law_101 (by decide) ?_
  refine tp_iald hx hb hK hP (2) 12 (1) (by omega) rfl (by decide) (by decide) (by decide) dL_law_102 ?_
  refine tp_eqi (y := nI n) h21 ?_
  refine lv_if_eq (tgt := 118) hx hb dL_law_103 (by decide) (fun _ => ?_) (fun c => absurd (show nI n = 0 by rw [hn]; rfl) c)
  exact lc_add_ok l hlt C0 z (nI (tl_low z 16)) 0 hE hK ⟨hP, hD, hS⟩ hcs (lv_sub hl [0, 1, 2, 3, 4, 5, 6, 7, 8, 9, 10, 11, 12, 13] rfl) hR (by omega) 0 (by rw [h02, hn0 hn]) (by decide) kk
set_option maxHeartbeats 4000000 in
set_option maxRecDepth 100000 in
/-- a turn, households there -/
theorem lx_turn1 (l : Launch) (hlt : l.stackTraces = false) {p : Program} {e : Env} {s : State} {m : MethodId} {below : List Frame} {meth : Method} {c : Code} {b L t : Nat} {xs : Nat → Int32} (C0 : tp_CX p s m meth c b L xs) (hL : L ≤ 260) (ht : t < 110) {D : va_G} {cy : Nat → ClassId} {n : Nat} {ad : Nat → Nat} {I : Nat → Nat → Int32} {o : Int64} {sa : Nat → Nat} {tL tM : Nat} {H : Heap} {locs : List Loc} {cells slots : Nat} {Q : State → Prop} {ls : Array Slot}
    (hE : tp_EV sa tL tM (tp_Al s) s s.heap) (hK : va_K D vwCl (tp_ty cy) s) (hW0 : tp_Wd D cy n ad I o s H locs) (hcs : cells + 100 ≤ 600104 ∧ slots + 1000 ≤ 7301314) (hl : lv_has ls 16 (tp_lv b ad t)) (hR : tq_rel n I) (hn : 1 ≤ n)
    (kk : ∀ (n2 : Nat) (ad2 : Nat → Nat) (I2 : Nat → Nat → Int32) (H1 : Heap) (locs1 : List Loc) (ls1 : Array Slot), 1 ≤ n2 → tq_rel n2 I2 → tp_Wd D cy n2 ad2 I2 o s H1 locs1 → lv_has ls1 16 ((13, .int 1) :: (10, .int (tl_cell L xs t)) :: tp_lv b ad2 t) → W p l e room_1 s m #[Value.ref b] below meth c H1 locs1 (cells + 100) (slots + 1000) Q (F0 m 535 ls1 [])) : W p l e room_1 s m #[Value.ref b] below meth c H locs cells slots Q (F0 m 51 ls []) := by
  obtain ⟨hx, hb, hml, hown, hts, hX, hbl⟩ := id C0
  obtain ⟨hP, hD, hS⟩ := hW0
  have hA : ∀ q : Nat, s.heap.size ≤ q → tp_Al s q := fun q h => h
  have hl : lv_has ls 16 [(9, .int (nI t)), (8, .ref (ad (8))), (7, .ref (ad (7))), (6, .ref (ad (6))), (5, .ref (ad (5))), (4, .ref (ad (4))), (3, .ref (ad (3))), (2, .ref (ad (2))), (1, .ref (ad (0))), (0, .ref b)] := hl
  obtain ⟨hn2, h01, h21, e0, c0, aF, kF, ⟨he8, hc64, hn0, h02, h20, h22⟩, RR, RF, RH⟩ := id hR
  refine lv_iload hx hb dL_law_51 (lv_at hl 0 rfl) ?_
  refine lv_bipush (v := 110) hx hb dL_law_53 (by decide) ?_
  refine lv_icmp_ge (tgt := 635) hx hb dL_law_55 (by decide) (fun c => absurd c (nI_ge (a := t) (b := 110) (by omega) (by decide))) (fun _ => ?_)
  refine lv_aload_n hx hb dL_law_58 rfl (lv_at hl 9 rfl) ?_
  refine lv_iload hx hb dL_law_59 (lv_at hl 0 rfl) ?_
  have hF := tp_fr hD hS hA
  have hbl2 : b < H.size := Nat.lt_of_lt_of_le hbl hS.1
  have hbn : ¬ va_A (tp_w cy n ad I o) H.size b := fun q => Nat.not_le.mpr hbl (hF b q)
  refine va_calli (va_runS (As := [.ref b, .int (nI t)]) (rest := []) ⟨hx, hb, hml, hown, hts⟩ (lf_cell l D cy n ad o b L xs I t hL ht H.size hbn hbl2) (va_cwS 2 hts gL_law_L_cell rfl rfl rfl (by decide +kernel) ⟨(Nat.le_of_ble_eq_true rfl), (Nat.le_of_ble_eq_true rfl)⟩) ⟨tl_blindC, fun U hU hW => ⟨rfl, ⟨by rw [hU], by rw [hU]; exact hP, va_K.moved hW.alike hK, hD.weaken (fun _ _ _ _ => trivial)⟩, by rw [hU]; exact va_X.moved hW.alike (hX.kept (hS.2.1 b hbl (Nat.not_le.mpr hbl)))⟩⟩ rfl rfl hl.1 rfl (lv_room (Nat.le_of_ble_eq_true rfl)) dL_law_61 ⟨Nat.le_trans (by omega : cells ≤ cells + 100) hcs.1, Nat.le_trans (by omega : slots ≤ slots + 1000) hcs.2⟩) hS (fun q _ h => hF q h) hF (fun r1 u t1 H locs ht1 hvm hw hB hz1 hk1 hS => ?_)
  obtain ⟨rfl, rfl⟩ := hw
  obtain ⟨hP1, hK1, hD1⟩ := hB
  rw [ht1] at hP1
  have hD := hD1.weaken (B := tp_Al s) (fun _ _ _ h => hF _ h)
  have hP := hP1
  clear hF
  generalize tl_cell L xs t = z at kk ⊢
  refine lv_istore (lv' := [(10, .int z), (9, .int (nI t)), (8, .ref (ad (8))), (7, .ref (ad (7))), (6, .ref (ad (6))), (5, .ref (ad (5))), (4, .ref (ad (4))), (3, .ref (ad (3))), (2, .ref (ad (2))), (1, .ref (ad (0))), (0, .ref b)]) hx hb dL_law_64 hl (by decide) rfl (fun ls hl => ?_)
  refine lv_iload hx hb dL_law_66 (lv_at hl 0 rfl) ?_
  refine lv_bipush (v := 16) hx hb dL_law_68 (by decide) ?_
  refine tp_callS ⟨hx, hb, hml, hown, hts⟩ (lf_low l D cy n ad o u z 16 (by decide) (by decide)) (va_cwS 2 hts gL_law_L_low rfl rfl rfl (by decide +kernel) ⟨(Nat.le_of_ble_eq_true rfl), (Nat.le_of_ble_eq_true rfl)⟩) hK hP hD hS hA rfl hl.1 rfl (Nat.le_of_ble_eq_true rfl) dL_law_70 ⟨Nat.le_trans (by omega : cells ≤ cells + 100) hcs.1, Nat.le_trans (by omega : slots ≤ slots + 1000) hcs.2⟩ (fun I9 e9 H locs hP hD hS => ?_)
  subst e9
  refine lv_istore (lv' := [(11, .int (nI (tl_low z 16))), (10, .int z), (9, .int (nI t)), (8, .ref (ad (8))), (7, .ref (ad (7))), (6, .ref (ad (6))), (5, .ref (ad (5))), (4, .ref (ad (4))), (3, .ref (ad (3))), (2, .ref (ad (2))), (1, .ref (ad (0))), (0, .ref b)]) hx hb dL_law_73 hl (by decide) rfl (fun ls hl => ?_)
  refine lv_aload_n hx hb dL_law_75 rfl (lv_at hl 9 rfl) ?_
  refine lv_iconst (v := 1) hx hb dL_law_76 (by decide) ?_
  refine tp_iald hx hb hK hP (2) 12 (1) (by omega) rfl (by decide) (by decide) (by decide) dL_law_77 ?_
  refine tp_eqi (y := nI n) h21 ?_
  refine lv_if_ne (tgt := 85) hx hb dL_law_78 (by decide) (fun _ => ?_) (fun c => absurd c (nI_ne0 (by omega) (by omega)))
  refine lv_iload hx hb dL_law_85 (lv_at hl 1 rfl) ?_
  refine lv_iconst (v := 4) hx hb dL_law_87 (by decide) ?_
  refine lv_ishr hx hb dL_law_88 ?_
  refine tp_eqi (y := tl_shr z 4) rfl ?_
  refine lv_aload_n hx hb dL_law_89 rfl (lv_at hl 9 rfl) ?_
  refine lv_iconst (v := 1) hx hb dL_law_90 (by decide) ?_
  refine tp_iald hx hb hK hP (2) 12 (1) (by omega) rfl (by decide) (by decide) (by decide) dL_law_91 ?_
  refine tp_eqi (y := nI n) h21 ?_
  refine tp_callS ⟨hx, hb, hml, hown, hts⟩ (lf_low l D cy n ad o u (tl_shr z 4) n (by omega) (by omega)) (va_cwS 2 hts gL_law_L_low rfl rfl rfl (by decide +kernel) ⟨(Nat.le_of_ble_eq_true rfl), (Nat.le_of_ble_eq_true rfl)⟩) hK hP hD hS hA rfl hl.1 rfl (Nat.le_of_ble_eq_true rfl) dL_law_92 ⟨Nat.le_trans (by omega : cells ≤ cells + 100) hcs.1, Nat.le_trans (by omega : slots ≤ slots + 1000) hcs.2⟩ (fun I9 e9 H locs hP hD hS => ?_)
  subst e9
  refine lv_istore (lv' := [(12, .int (nI (tl_low (tl_shr z 4) n))), (11, .int (nI (tl_low z 16))), (10, .int z), (9, .int (nI t)), (8, .ref (ad (8))), (7, .ref (ad (7))), (6, .ref (ad (6))), (5, .ref (ad (5))), (4, .ref (ad (4))), (3, .ref (ad (3))), (2, .ref (ad (2))), (1, .ref (ad (0))), (0, .ref b)]) hx hb dL_law_95 hl (by decide) rfl (fun ls hl => ?_)
  refine lv_iconst (v := 1) hx hb dL_law_97 (by decide) ?_
  refine lv_istore (lv' := [(13, .int 1), (12, .int (nI (tl_low (tl_shr z 4) n))), (11, .int (nI (tl_low z 16))), (10, .int z), (9, .int (nI t)), (8, .ref (ad (8))), (7, .ref (ad (7))), (6, .ref (ad (6))), (5, .ref (ad (5))), (4, .ref (ad (4))), (3, .ref (ad (3))), (2, .ref (ad (2))), (1, .ref (ad (0))), (0, .ref b)]) hx hb dL_law_98 hl (by decide) rfl (fun ls hl => ?_)
  refine lv_aload_n hx hb dL_law_100 rfl (lv_at hl 11 rfl) ?_
  refine lv_iconst (v := 1) hx hb dL_law_101 (by decide) ?_
  refine tp_iald hx hb hK hP (2) 12 (1) (by omega) rfl (by decide) (by decide) (by decide) dL_law_102 ?_
  refine tp_eqi (y := nI n) h21 ?_
  refine lv_if_eq (tgt := 118) hx hb dL_law_103 (by decide) (fun c => absurd c (nI_ne0 (by omega) (by omega))) (fun _ => ?_)
  have hh : (tl_low (tl_shr z 4) n) < n := tl_low_lt (by omega)
  refine lv_iload hx hb dL_law_106 (lv_at hl 2 rfl) ?_
  refine lv_if_ne (tgt := 186) hx hb dL_law_108 (by decide) (fun c108_1 => ?_) (fun c108_1 => ?_)
  · refine lv_iload hx hb dL_law_186 (lv_at hl 2 rfl) ?_
    refine lv_bipush (v := 9) hx hb dL_law_188 (by decide) ?_
    refine lv_icmp_ge (tgt := 218) hx hb dL_law_190 (by decide) (fun c190_2 => ?_) (fun c190_2 => ?_)
    · refine lv_iload hx hb dL_law_218 (lv_at hl 2 rfl) ?_
      refine lv_bipush (v := 9) hx hb dL_law_220 (by decide) ?_
      refine lv_icmp_ne (tgt := 291) hx hb dL_law_222 (by decide) (fun c222_3 => ?_) (fun c222_3 => ?_)
      · refine lv_iload hx hb dL_law_291 (lv_at hl 2 rfl) ?_
        refine lv_bipush (v := 10) hx hb dL_law_293 (by decide) ?_
        refine lv_icmp_ne (tgt := 432) hx hb dL_law_295 (by decide) (fun c295_4 => ?_) (fun c295_4 => ?_)
        · rcases Nat.lt_or_ge e0 48 with e48 | e48
          · rcases (show n = 1 ∨ n = 2 by omega) with n1 | n2
            · exact lc_close_1 l hlt C0 z (nI (tl_low z 16)) (nI (tl_low (tl_shr z 4) n)) hE hK ⟨hP, hD, hS⟩ hcs (lv_sub hl [0, 1, 2, 3, 4, 5, 6, 7, 8, 9, 10, 11, 12, 13] rfl) hR n1 e0 h02 e48 kk
            · exact lc_close_2 l hlt C0 z (nI (tl_low z 16)) (nI (tl_low (tl_shr z 4) n)) hE hK ⟨hP, hD, hS⟩ hcs (lv_sub hl [0, 1, 2, 3, 4, 5, 6, 7, 8, 9, 10, 11, 12, 13] rfl) hR n2 e0 h02 e48 kk
          · exact lc_close_end l hlt C0 z (nI (tl_low z 16)) (nI (tl_low (tl_shr z 4) n)) hE hK ⟨hP, hD, hS⟩ hcs (lv_sub hl [0, 1, 2, 3, 4, 5, 6, 7, 8, 9, 10, 11, 12, 13] rfl) hR (by omega) (by rw [h02, show e0 = 48 by omega]) kk
        · by_cases hx3 : nI (1 + tl_low (tl_shr z 6) (tl_w z 3 1000000 9000)) ≤ u 2 (6 + (tl_low (tl_shr z 4) n))
          · exact lc_pay_ok l hlt C0 z (nI (tl_low z 16)) (nI (tl_low (tl_shr z 4) n)) (tl_low (tl_shr z 4) n) hE hK ⟨hP, hD, hS⟩ hcs (lv_sub hl [0, 1, 2, 3, 4, 5, 6, 7, 8, 9, 10, 11, 12, 13] rfl) hR hh hx3 kk
          · exact lc_pay_less l hlt C0 z (nI (tl_low z 16)) (nI (tl_low (tl_shr z 4) n)) (tl_low (tl_shr z 4) n) hE hK ⟨hP, hD, hS⟩ hcs (lv_sub hl [0, 1, 2, 3, 4, 5, 6, 7, 8, 9, 10, 11, 12, 13] rfl) hR hh hx3 kk
      · exact lc_dispute l hlt C0 z (nI (tl_low z 16)) (nI (tl_low (tl_shr z 4) n)) (tl_low (tl_shr z 4) n) hE hK ⟨hP, hD, hS⟩ hcs (lv_sub hl [0, 1, 2, 3, 4, 5, 6, 7, 8, 9, 10, 11, 12, 13] rfl) hR hh kk
    · refine lv_aload_n hx hb dL_law_193 rfl (lv_at hl 11 rfl) ?_
      refine lv_iconst (v := 2) hx hb dL_law_194 (by decide) ?_
      refine tp_iald hx hb hK hP (2) 12 (2) (by omega) rfl (by decide) (by decide) (by decide) dL_law_195 ?_
      refine tp_eqi (y := nI c0) h22 ?_
      refine lv_bipush (v := 64) hx hb dL_law_196 (by decide) ?_
      refine lv_icmp_ge (tgt := 218) hx hb dL_law_198 (by decide) (fun c198_3 => ?_) (fun c198_3 => ?_)
      · refine lv_iload hx hb dL_law_218 (lv_at hl 2 rfl) ?_
        refine lv_bipush (v := 9) hx hb dL_law_220 (by decide) ?_
        refine lv_icmp_ne (tgt := 291) hx hb dL_law_222 (by decide) (fun c222_4 => ?_) (fun c222_4 => ?_)
        · refine lv_iload hx hb dL_law_291 (lv_at hl 2 rfl) ?_
          refine lv_bipush (v := 10) hx hb dL_law_293 (by decide) ?_
          refine lv_icmp_ne (tgt := 432) hx hb dL_law_295 (by decide) (fun c295_5 => ?_) (fun c295_5 => ?_)
          · rcases Nat.lt_or_ge e0 48 with e48 | e48
            · rcases (show n = 1 ∨ n = 2 by omega) with n1 | n2
              · exact lc_close_1 l hlt C0 z (nI (tl_low z 16)) (nI (tl_low (tl_shr z 4) n)) hE hK ⟨hP, hD, hS⟩ hcs (lv_sub hl [0, 1, 2, 3, 4, 5, 6, 7, 8, 9, 10, 11, 12, 13] rfl) hR n1 e0 h02 e48 kk
              · exact lc_close_2 l hlt C0 z (nI (tl_low z 16)) (nI (tl_low (tl_shr z 4) n)) hE hK ⟨hP, hD, hS⟩ hcs (lv_sub hl [0, 1, 2, 3, 4, 5, 6, 7, 8, 9, 10, 11, 12, 13] rfl) hR n2 e0 h02 e48 kk
            · exact lc_close_end l hlt C0 z (nI (tl_low z 16)) (nI (tl_low (tl_shr z 4) n)) hE hK ⟨hP, hD, hS⟩ hcs (lv_sub hl [0, 1, 2, 3, 4, 5, 6, 7, 8, 9, 10, 11, 12, 13] rfl) hR (by omega) (by rw [h02, show e0 = 48 by omega]) kk
          · by_cases hx3 : nI (1 + tl_low (tl_shr z 6) (tl_w z 3 1000000 9000)) ≤ u 2 (6 + (tl_low (tl_shr z 4) n))
            · exact lc_pay_ok l hlt C0 z (nI (tl_low z 16)) (nI (tl_low (tl_shr z 4) n)) (tl_low (tl_shr z 4) n) hE hK ⟨hP, hD, hS⟩ hcs (lv_sub hl [0, 1, 2, 3, 4, 5, 6, 7, 8, 9, 10, 11, 12, 13] rfl) hR hh hx3 kk
            · exact lc_pay_less l hlt C0 z (nI (tl_low z 16)) (nI (tl_low (tl_shr z 4) n)) (tl_low (tl_shr z 4) n) hE hK ⟨hP, hD, hS⟩ hcs (lv_sub hl [0, 1, 2, 3, 4, 5, 6, 7, 8, 9, 10, 11, 12, 13] rfl) hR hh hx3 kk
        · exact lc_dispute l hlt C0 z (nI (tl_low z 16)) (nI (tl_low (tl_shr z 4) n)) (tl_low (tl_shr z 4) n) hE hK ⟨hP, hD, hS⟩ hcs (lv_sub hl [0, 1, 2, 3, 4, 5, 6, 7, 8, 9, 10, 11, 12, 13] rfl) hR hh kk
      · exact lc_tells l hlt C0 z (nI (tl_low z 16)) (nI (tl_low (tl_shr z 4) n)) hE hK ⟨hP, hD, hS⟩ hcs (lv_sub hl [0, 1, 2, 3, 4, 5, 6, 7, 8, 9, 10, 11, 12, 13] rfl) hR (by omega) (by rw [h22]; exact tm_gt c198_3) kk
  · refine lv_aload_n hx hb dL_law_111 rfl (lv_at hl 11 rfl) ?_
    refine lv_iconst (v := 1) hx hb dL_law_112 (by decide) ?_
    refine tp_iald hx hb hK hP (2) 12 (1) (by omega) rfl (by decide) (by decide) (by decide) dL_law_113 ?_
    refine tp_eqi (y := nI n) h21 ?_
    refine lv_iconst (v := 1) hx hb dL_law_114 (by decide) ?_
    refine lv_icmp_ne (tgt := 186) hx hb dL_law_115 (by decide) (fun c115_2 => ?_) (fun c115_2 => ?_)
    · refine lv_iload hx hb dL_law_186 (lv_at hl 2 rfl) ?_
      refine lv_bipush (v := 9) hx hb dL_law_188 (by decide) ?_
      refine lv_icmp_ge (tgt := 218) hx hb dL_law_190 (by decide) (fun c190_3 => ?_) (fun c190_3 => ?_)
      · refine lv_iload hx hb dL_law_218 (lv_at hl 2 rfl) ?_
        refine lv_bipush (v := 9) hx hb dL_law_220 (by decide) ?_
        refine lv_icmp_ne (tgt := 291) hx hb dL_law_222 (by decide) (fun c222_4 => ?_) (fun c222_4 => ?_)
        · refine lv_iload hx hb dL_law_291 (lv_at hl 2 rfl) ?_
          refine lv_bipush (v := 10) hx hb dL_law_293 (by decide) ?_
          refine lv_icmp_ne (tgt := 432) hx hb dL_law_295 (by decide) (fun c295_5 => ?_) (fun c295_5 => ?_)
          · rcases Nat.lt_or_ge e0 48 with e48 | e48
            · rcases (show n = 1 ∨ n = 2 by omega) with n1 | n2
              · exact lc_close_1 l hlt C0 z (nI (tl_low z 16)) (nI (tl_low (tl_shr z 4) n)) hE hK ⟨hP, hD, hS⟩ hcs (lv_sub hl [0, 1, 2, 3, 4, 5, 6, 7, 8, 9, 10, 11, 12, 13] rfl) hR n1 e0 h02 e48 kk
              · exact lc_close_2 l hlt C0 z (nI (tl_low z 16)) (nI (tl_low (tl_shr z 4) n)) hE hK ⟨hP, hD, hS⟩ hcs (lv_sub hl [0, 1, 2, 3, 4, 5, 6, 7, 8, 9, 10, 11, 12, 13] rfl) hR n2 e0 h02 e48 kk
            · exact lc_close_end l hlt C0 z (nI (tl_low z 16)) (nI (tl_low (tl_shr z 4) n)) hE hK ⟨hP, hD, hS⟩ hcs (lv_sub hl [0, 1, 2, 3, 4, 5, 6, 7, 8, 9, 10, 11, 12, 13] rfl) hR (by omega) (by rw [h02, show e0 = 48 by omega]) kk
          · by_cases hx3 : nI (1 + tl_low (tl_shr z 6) (tl_w z 3 1000000 9000)) ≤ u 2 (6 + (tl_low (tl_shr z 4) n))
            · exact lc_pay_ok l hlt C0 z (nI (tl_low z 16)) (nI (tl_low (tl_shr z 4) n)) (tl_low (tl_shr z 4) n) hE hK ⟨hP, hD, hS⟩ hcs (lv_sub hl [0, 1, 2, 3, 4, 5, 6, 7, 8, 9, 10, 11, 12, 13] rfl) hR hh hx3 kk
            · exact lc_pay_less l hlt C0 z (nI (tl_low z 16)) (nI (tl_low (tl_shr z 4) n)) (tl_low (tl_shr z 4) n) hE hK ⟨hP, hD, hS⟩ hcs (lv_sub hl [0, 1, 2, 3, 4, 5, 6, 7, 8, 9, 10, 11, 12, 13] rfl) hR hh hx3 kk
        · exact lc_dispute l hlt C0 z (nI (tl_low z 16)) (nI (tl_low (tl_shr z 4) n)) (tl_low (tl_shr z 4) n) hE hK ⟨hP, hD, hS⟩ hcs (lv_sub hl [0, 1, 2, 3, 4, 5, 6, 7, 8, 9, 10, 11, 12, 13] rfl) hR hh kk
      · refine lv_aload_n hx hb dL_law_193 rfl (lv_at hl 11 rfl) ?_
        refine lv_iconst (v := 2) hx hb dL_law_194 (by decide) ?_
        refine tp_iald hx hb hK hP (2) 12 (2) (by omega) rfl (by decide) (by decide) (by decide) dL_law_195 ?_
        refine tp_eqi (y := nI c0) h22 ?_
        refine lv_bipush (v := 64) hx hb dL_law_196 (by decide) ?_
        refine lv_icmp_ge (tgt := 218) hx hb dL_law_198 (by decide) (fun c198_4 => ?_) (fun c198_4 => ?_)
        · refine lv_iload hx hb dL_law_218 (lv_at hl 2 rfl) ?_
          refine lv_bipush (v := 9) hx hb dL_law_220 (by decide) ?_
          refine lv_icmp_ne (tgt := 291) hx hb dL_law_222 (by decide) (fun c222_5 => ?_) (fun c222_5 => ?_)
          · refine lv_iload hx hb dL_law_291 (lv_at hl 2 rfl) ?_
            refine lv_bipush (v := 10) hx hb dL_law_293 (by decide) ?_
            refine lv_icmp_ne (tgt := 432) hx hb dL_law_295 (by decide) (fun c295_6 => ?_) (fun c295_6 => ?_)
            · rcases Nat.lt_or_ge e0 48 with e48 | e48
              · rcases (show n = 1 ∨ n = 2 by omega) with n1 | n2
                · exact lc_close_1 l hlt C0 z (nI (tl_low z 16)) (nI (tl_low (tl_shr z 4) n)) hE hK ⟨hP, hD, hS⟩ hcs (lv_sub hl [0, 1, 2, 3, 4, 5, 6, 7, 8, 9, 10, 11, 12, 13] rfl) hR n1 e0 h02 e48 kk
                · exact lc_close_2 l hlt C0 z (nI (tl_low z 16)) (nI (tl_low (tl_shr z 4) n)) hE hK ⟨hP, hD, hS⟩ hcs (lv_sub hl [0, 1, 2, 3, 4, 5, 6, 7, 8, 9, 10, 11, 12, 13] rfl) hR n2 e0 h02 e48 kk
              · exact lc_close_end l hlt C0 z (nI (tl_low z 16)) (nI (tl_low (tl_shr z 4) n)) hE hK ⟨hP, hD, hS⟩ hcs (lv_sub hl [0, 1, 2, 3, 4, 5, 6, 7, 8, 9, 10, 11, 12, 13] rfl) hR (by omega) (by rw [h02, show e0 = 48 by omega]) kk
            · by_cases hx3 : nI (1 + tl_low (tl_shr z 6) (tl_w z 3 1000000 9000)) ≤ u 2 (6 + (tl_low (tl_shr z 4) n))
              · exact lc_pay_ok l hlt C0 z (nI (tl_low z 16)) (nI (tl_low (tl_shr z 4) n)) (tl_low (tl_shr z 4) n) hE hK ⟨hP, hD, hS⟩ hcs (lv_sub hl [0, 1, 2, 3, 4, 5, 6, 7, 8, 9, 10, 11, 12, 13] rfl) hR hh hx3 kk
              · exact lc_pay_less l hlt C0 z (nI (tl_low z 16)) (nI (tl_low (tl_shr z 4) n)) (tl_low (tl_shr z 4) n) hE hK ⟨hP, hD, hS⟩ hcs (lv_sub hl [0, 1, 2, 3, 4, 5, 6, 7, 8, 9, 10, 11, 12, 13] rfl) hR hh hx3 kk
          · exact lc_dispute l hlt C0 z (nI (tl_low z 16)) (nI (tl_low (tl_shr z 4) n)) (tl_low (tl_shr z 4) n) hE hK ⟨hP, hD, hS⟩ hcs (lv_sub hl [0, 1, 2, 3, 4, 5, 6, 7, 8, 9, 10, 11, 12, 13] rfl) hR hh kk
        · exact lc_tells l hlt C0 z (nI (tl_low z 16)) (nI (tl_low (tl_shr z 4) n)) hE hK ⟨hP, hD, hS⟩ hcs (lv_sub hl [0, 1, 2, 3, 4, 5, 6, 7, 8, 9, 10, 11, 12, 13] rfl) hR (by omega) (by rw [h22]; exact tm_gt c198_4) kk
    · rcases Nat.lt_or_ge e0 48 with e48 | e48
      · exact lc_add_ok l hlt C0 z (nI (tl_low z 16)) (nI (tl_low (tl_shr z 4) n)) hE hK ⟨hP, hD, hS⟩ hcs (lv_sub hl [0, 1, 2, 3, 4, 5, 6, 7, 8, 9, 10, 11, 12, 13] rfl) hR (by have := tp_nIj (b := 1) c115_2 (by omega) (by decide); omega) e0 h02 e48 kk
      · exact lc_add_end l hlt C0 z (nI (tl_low z 16)) (nI (tl_low (tl_shr z 4) n)) hE hK ⟨hP, hD, hS⟩ hcs (lv_sub hl [0, 1, 2, 3, 4, 5, 6, 7, 8, 9, 10, 11, 12, 13] rfl) hR (by have := tp_nIj (b := 1) c115_2 (by omega) (by decide); omega) (by rw [h02, show e0 = 48 by omega]) kk

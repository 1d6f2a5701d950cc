/-- the households settled one after another -/
def tp_ost (I : Nat → Nat → Int32) (a : Nat → Nat) (e : Nat) : Nat → Nat → Nat → Int32
  | 0 => I
  | k + 1 => tp_settle (tp_ost I a e k) (9 + 15 * k) (a k) e
def tp_osum (I : Nat → Nat → Int32) (a : Nat → Nat) (e : Nat) : Nat → Int32
  | 0 => 0
  | k + 1 => tp_osum I a e k + tp_paym (tp_ost I a e k) (9 + 15 * k) (a k) e
theorem tp_settle_oth {I : Nat → Nat → Int32} {b a m c : Nat} (h0 : c ≠ b) (h13 : c ≠ b + 13) (h14 : c ≠ b + 14) : tp_settle I b a m c = I c := by
  unfold tp_settle
  rw [tp_u_oth h14, tp_fill_oth h13, tp_u_oth h0, tp_u_oth h0, tp_u_oth h0]
theorem tp_ost_keep {I : Nat → Nat → Int32} {a : Nat → Nat} {e c : Nat} : ∀ k : Nat, (c < 9 ∨ 9 + 15 * k ≤ c) → tp_ost I a e k c = I c
  | 0, _ => rfl
  | k + 1, h => by
    show tp_settle (tp_ost I a e k) (9 + 15 * k) (a k) e c = I c
    rw [tp_settle_oth (by omega) (by omega) (by omega), tp_ost_keep k (by omega)]
set_option maxHeartbeats 4000000 in
set_option maxRecDepth 100000 in
/-- close: ok -/
theorem op_close_ok (l : Launch) (D : va_G) (cy : Nat → ClassId) (n : Nat) (ad : Nat → Nat) (o : Int64) (I : Nat → Nat → Int32) (sa : Nat → Nat) (tL tM : Nat) (aF : Nat → Nat) (e0 : Nat) (hn6 : n ≤ 6) (he : I 0 2 = nI e0) (he8 : e0 < 48) (ha : ∀ h, h < n → I (9 + 15 * h) 3 = nI (aF h)) (ha8 : ∀ h, h < n → aF h ≤ e0) : tp_IE l yX1_close wsX1_close (tp_rm 6 137) D cy n ad o sa tL tM [.ref (ad (0))] I (tp_osum I aF e0 n) (tp_u (tp_ost I aF e0 n) 0 2 (nI (e0 + 1))) := by
  refine tp_ofIE (lv := [(0, .ref (ad (0)))]) (by decide) rfl (Nat.le_of_ble_eq_true rfl) rfl (fun p e s m args below meth c A ls S0 hE => ?_)
  obtain ⟨hx, hb, hr, hml, hown, hts, hlocks, hA, hK, hP, hD, hS, hl⟩ := S0
  obtain ⟨-, ⟨hEL, hEM⟩, -, hEw, -, hEa, hEo⟩ := id hE
  refine lv_aload_n hx hb dX1_close_0 rfl (lv_at hl 0 rfl) ?_
  refine va_get (D := D) (ci := 1) (v := .int (I 0 2)) (C := RX1) (T := TX1) (N := 3) hx hb hts (fun _ h => List.mem_cons_of_mem _ (List.mem_append_left _ (List.mem_append_left _ (List.mem_append_right _ (h))))) hown hK hP 0 tp_e0 rfl 2 (by decide) (hts _ (List.mem_of_getElem? (i := 3) rfl)) (fun _ h9 => h9) rfl dX1_close_1 ?_
  refine tp_eqi (y := nI e0) he ?_
  refine lv_bipush (v := 48) hx hb dX1_close_4 (by decide) ?_
  refine lv_icmp_lt (tgt := 19) hx hb dX1_close_6 (by decide) (fun c6_1 => ?_) (fun c6_1 => ?_)
  · refine lv_iconst (v := 0) hx hb dX1_close_19 (by decide) ?_
    refine lv_istore_n (lv' := [(1, .int 0), (0, .ref (ad (0)))]) hx hb dX1_close_20 rfl hl (by decide) rfl (fun ls hl => ?_)
    refine lv_aload_n hx hb dX1_close_21 rfl (lv_at hl 1 rfl) ?_
    refine va_get (D := D) (ci := 1) (v := .ref (ad (1))) (C := RX1) (T := TX1) (N := 3) hx hb hts (fun _ h => List.mem_cons_of_mem _ (List.mem_append_left _ (List.mem_append_left _ (List.mem_append_right _ (h))))) hown hK hP 0 tp_e0 rfl 0 (by decide) (hts _ (List.mem_of_getElem? (i := 4) rfl)) (fun _ h9 => h9) rfl dX1_close_22 ?_
    refine lv_astore_n (lv' := [(2, .ref (ad (1))), (1, .int 0), (0, .ref (ad (0)))]) hx hb dX1_close_25 rfl hl (by decide) rfl (fun ls hl => ?_)
    refine lv_aload_n hx hb dX1_close_26 rfl (lv_at hl 0 rfl) ?_
    refine tp_rlen hx hb hK hP dX1_close_27 ?_
    refine lv_istore_n (lv' := [(3, .int 6), (2, .ref (ad (1))), (1, .int 0), (0, .ref (ad (0)))]) hx hb dX1_close_28 rfl hl (by decide) rfl (fun ls hl => ?_)
    refine lv_iconst (v := 0) hx hb dX1_close_29 (by decide) ?_
    refine lv_istore (lv' := [(4, .int 0), (3, .int 6), (2, .ref (ad (1))), (1, .int 0), (0, .ref (ad (0)))]) hx hb dX1_close_30 hl (by decide) rfl (fun ls hl => ?_)
    have e00 : min 0 n = 0 := Nat.zero_min n
    have hl : lv_has ls 6 [(4, .int (nI 0)), (1, .int (tp_osum I aF e0 (min 0 n))), (3, .int 6), (2, .ref (ad (1))), (0, .ref (ad (0)))] := by rw [e00]; exact lv_sub hl [0, 3, 1, 2, 4] rfl
    have hP : va_P D vwCl (tp_w cy n ad (tp_ost I aF e0 (min 0 n)) o) s.heap := by rw [e00]; exact hP
    have hD : va_D A (tp_w cy n ad (tp_ost I aF e0 (min 0 n)) o) := by rw [e00]; exact hD
    refine tp_for (nL := 6) 6 (fun t => tp_ost I aF e0 (min t n)) (fun t => [(4, .int (nI t)), (1, .int (tp_osum I aF e0 (min t n))), (3, .int 6), (2, .ref (ad (1))), (0, .ref (ad (0)))]) (fun t ht ls H locs hl hP hD hS ih => ?_) (fun ls H locs hl hP hD hS => ?_) hl hP hD hS
    · rcases Nat.lt_or_ge t n with htn | htn
      · have e1 : min t n = t := Nat.min_eq_left (by omega)
        have e2 : min (t + 1) n = t + 1 := Nat.min_eq_left (by omega)
        rw [e1] at hl hP hD
        rw [e2] at ih
        have haJ : tp_ost I aF e0 t (9 + 15 * t) 3 = nI (aF t) := (congrFun (tp_ost_keep (c := 9 + 15 * t) t (Or.inr (by omega))) 3).trans (ha t htn)
        have ha8t := ha8 t htn
        refine lv_iload hx hb dX1_close_32 (lv_at hl 0 rfl) ?_
        refine lv_iload_n hx hb dX1_close_34 rfl (lv_at hl 2 rfl) ?_
        refine lv_icmp_ge (tgt := 67) hx hb dX1_close_35 (by decide) (fun c35_2 => ?_) (fun c35_2 => ?_)
        · exact absurd c35_2 (nI_ge (a := t) (b := 6) (by omega) (by decide))
        · refine lv_aload_n hx hb dX1_close_38 rfl (lv_at hl 3 rfl) ?_
          refine lv_iload hx hb dX1_close_39 (lv_at hl 0 rfl) ?_
          refine tp_rald hx hb hK hP t htn (by omega) rfl dX1_close_41 ?_
          refine lv_astore (lv' := [(5, .ref (ad (9 + 15 * t))), (4, .int (nI t)), (1, .int (tp_osum I aF e0 t)), (3, .int 6), (2, .ref (ad (1))), (0, .ref (ad (0)))]) hx hb dX1_close_42 hl (by decide) rfl (fun ls hl => ?_)
          refine lv_aload hx hb dX1_close_44 (lv_at hl 0 rfl) ?_
          refine lv_ifnull hx hb dX1_close_46 ?_
          refine lv_iload_n hx hb dX1_close_49 rfl (lv_at hl 2 rfl) ?_
          refine lv_aload hx hb dX1_close_50 (lv_at hl 0 rfl) ?_
          refine lv_aload_n hx hb dX1_close_52 rfl (lv_at hl 5 rfl) ?_
          refine va_get (D := D) (ci := 1) (v := .int ((tp_ost I aF e0 t) 0 2)) (C := RX1) (T := TX1) (N := 3) hx hb hts (fun _ h => List.mem_cons_of_mem _ (List.mem_append_left _ (List.mem_append_left _ (List.mem_append_right _ (h))))) hown hK hP 0 tp_e0 rfl 2 (by decide) (hts _ (List.mem_of_getElem? (i := 3) rfl)) (fun _ h9 => h9) rfl dX1_close_53 ?_
          refine tp_eqi (y := nI e0) ((congrFun (tp_ost_keep (c := 0) t (Or.inl (by decide))) 2).trans he) ?_
          refine tp_callN ⟨hx, hb, hml, hown, hts⟩ (hc_settle l D cy n ad o (tp_ost I aF e0 t) t htn (aF t) e0 haJ (by omega) (by omega)) ⟨va_cnB (host := "TaperOffice") 1 hts gX1_close_X0_settle_n83 rfl rfl rfl (hEw _ (List.mem_of_getElem? (i := 10) rfl)) (hts _ (List.mem_of_getElem? (i := 6) rfl)) (by decide +kernel) ⟨Nat.le_of_ble_eq_true rfl, Nat.le_of_ble_eq_true rfl⟩, (hts _ (List.mem_of_getElem? (i := 5) rfl)), (hts _ (List.mem_of_getElem? (i := 7) rfl))⟩ hK hP hD hS hA (9 + 15 * t) 0 (tp_eh htn) rfl rfl rfl hl.1 rfl (Nat.le_of_ble_eq_true rfl) dX1_close_56 ⟨Nat.zero_le _, Nat.zero_le _⟩ (fun I9 e9 H locs hP hD hS => ?_)
          subst e9
          refine lv_iadd hx hb dX1_close_59 ?_
          refine lv_istore_n (lv' := [(1, .int ((tp_osum I aF e0 t) + (tp_paym (tp_ost I aF e0 t) (9 + 15 * t) (aF t) e0))), (5, .ref (ad (9 + 15 * t))), (4, .int (nI t)), (3, .int 6), (2, .ref (ad (1))), (0, .ref (ad (0)))]) hx hb dX1_close_60 rfl hl (by decide) rfl (fun ls hl => ?_)
          refine lv_iinc (v := (nI (t + 1))) (lv' := [(4, .int (nI (t + 1))), (1, .int ((tp_osum I aF e0 t) + (tp_paym (tp_ost I aF e0 t) (9 + 15 * t) (aF t) e0))), (5, .ref (ad (9 + 15 * t))), (3, .int 6), (2, .ref (ad (1))), (0, .ref (ad (0)))]) hx hb dX1_close_61 hl (k := 2) rfl (nI_1 _) (by decide) rfl (fun ls hl => ?_)
          refine lv_goto (tgt := 32) hx hb dX1_close_64 (by decide) ?_
          exact ih ls H locs (lv_sub hl [0, 1, 3, 4, 5] rfl) hP hD hS
      · have e1 : min t n = n := Nat.min_eq_right (by omega)
        have e2 : min (t + 1) n = n := Nat.min_eq_right (by omega)
        rw [e1] at hl hP hD
        rw [e2] at ih
        refine lv_iload hx hb dX1_close_32 (lv_at hl 0 rfl) ?_
        refine lv_iload_n hx hb dX1_close_34 rfl (lv_at hl 2 rfl) ?_
        refine lv_icmp_ge (tgt := 67) hx hb dX1_close_35 (by decide) (fun c35_3 => ?_) (fun c35_3 => ?_)
        · exact absurd c35_3 (nI_ge (a := t) (b := 6) (by omega) (by decide))
        · refine lv_aload_n hx hb dX1_close_38 rfl (lv_at hl 3 rfl) ?_
          refine lv_iload hx hb dX1_close_39 (lv_at hl 0 rfl) ?_
          refine tp_raldN hx hb hK hP t htn (by omega) rfl dX1_close_41 ?_
          refine lv_astoreN (lv' := [(5, .null), (4, .int (nI t)), (1, .int (tp_osum I aF e0 n)), (3, .int 6), (2, .ref (ad (1))), (0, .ref (ad (0)))]) hx hb dX1_close_42 hl (by decide) rfl (fun ls hl => ?_)
          refine lv_aloadN hx hb dX1_close_44 (lv_at hl 0 rfl) ?_
          refine lv_ifnullN (tgt := 61) hx hb dX1_close_46 (by decide) ?_
          refine lv_iinc (v := (nI (t + 1))) (lv' := [(4, .int (nI (t + 1))), (5, .null), (1, .int (tp_osum I aF e0 n)), (3, .int 6), (2, .ref (ad (1))), (0, .ref (ad (0)))]) hx hb dX1_close_61 hl (k := 1) rfl (nI_1 _) (by decide) rfl (fun ls hl => ?_)
          refine lv_goto (tgt := 32) hx hb dX1_close_64 (by decide) ?_
          exact ih ls H locs (lv_sub hl [0, 2, 3, 4, 5] rfl) hP hD hS
    · have e1 : min 6 n = n := Nat.min_eq_right hn6
      rw [e1] at hl hP hD
      refine lv_iload hx hb dX1_close_32 (lv_at hl 0 rfl) ?_
      refine lv_iload_n hx hb dX1_close_34 rfl (lv_at hl 2 rfl) ?_
      refine lv_icmp_ge (tgt := 67) hx hb dX1_close_35 (by decide) (fun c35_4 => ?_) (fun c35_4 => ?_)
      · refine lv_aload_n hx hb dX1_close_67 rfl (lv_at hl 4 rfl) ?_
        refine lv_dup hx hb dX1_close_68 rfl ?_
        refine va_get (D := D) (ci := 1) (v := .int ((tp_ost I aF e0 n) 0 2)) (C := RX1) (T := TX1) (N := 3) hx hb hts (fun _ h => List.mem_cons_of_mem _ (List.mem_append_left _ (List.mem_append_left _ (List.mem_append_right _ (h))))) hown hK hP 0 tp_e0 rfl 2 (by decide) (hts _ (List.mem_of_getElem? (i := 3) rfl)) (fun _ h9 => h9) rfl dX1_close_69 ?_
        refine tp_eqi (y := nI e0) ((congrFun (tp_ost_keep (c := 0) n (Or.inl (by decide))) 2).trans he) ?_
        refine lv_iconst (v := 1) hx hb dX1_close_72 (by decide) ?_
        refine lv_iadd hx hb dX1_close_73 ?_
        refine tp_eqi (y := nI (e0 + 1)) (nI_add e0 1) ?_
        refine tp_put (ci := 1) (v := (nI (e0 + 1))) (ty := .int) (C := RX1) (T := TX1) (N := 3) hx hb hts (fun _ h => List.mem_cons_of_mem _ (List.mem_append_left _ (List.mem_append_left _ (List.mem_append_right _ (h))))) tyX1 tyX1_ok nmX1 hown hK hP hD hS 0 tp_e0 (by omega) rfl 2 (by decide) (hts _ (List.mem_of_getElem? (i := 3) rfl)) rfl (by decide +kernel) rfl rfl (Nat.le_of_ble_eq_true rfl) rfl dX1_close_74 (fun H locs hP hD hS => ?_)
        refine lv_iload_n hx hb dX1_close_77 rfl (lv_at hl 1 rfl) ?_
        exact tp_reti hx hb hr hlocks hK hP hD hS rfl rfl rfl dX1_close_78
      · exact absurd (nI_le (a := 6) (b := 6) (by omega) (by decide)) c35_4
  · exact absurd (nI_lt (a := e0) (b := 48) (by omega) (by decide)) c6_1

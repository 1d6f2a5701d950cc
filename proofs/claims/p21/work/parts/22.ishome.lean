/-! THE LAW HOLDS A HOUSEHOLD AGAINST ITS OWN RECKONING -/
def tl_mo (z : Int32) (e t : Nat) : Nat := if t = 0 then e % 48 else tl_low (tl_shr z (nI (3 * t))) 48
theorem tl_mo_lt (z : Int32) (e t : Nat) : tl_mo z e t < 48 := by
  unfold tl_mo
  by_cases q : t = 0
  · rw [if_pos q]
    exact Nat.mod_lt _ (by decide)
  · rw [if_neg q]
    exact tl_low_lt (by decide)
theorem tl_mo0 {z : Int32} {e t : Nat} (ht : t < 4) (c : nI t = 0) : nI (e % 48) = nI (tl_mo z e t) := by
  have q : t = 0 := tp_nIj (b := 0) c (by omega) (by decide)
  unfold tl_mo
  rw [if_pos q]
theorem tl_mo1 {z : Int32} {e t : Nat} (c : ¬ nI t = 0) : nI (tl_low (tl_shr z (nI (3 * t))) 48) = nI (tl_mo z e t) := by
  unfold tl_mo
  rw [if_neg (fun q => c (by subst q; decide))]
set_option maxHeartbeats 4000000 in
set_option maxRecDepth 100000 in
/-- isHome, a month is current -/
theorem lf_isHome_a (l : Launch) (D : va_G) (cy : Nat → ClassId) (n : Nat) (ad : Nat → Nat) (o : Int64) (I : Nat → Nat → Int32) (sa : Nat → Nat) (tL tM : Nat) (h c0 : Nat) (hF : tq_F I h c0) (e0 a0 : Nat) (hB : tq_B I h e0 a0) (hi : h < n) (hn6 : n ≤ 6) (hc3 : I (9 + 15 * h) 3 = nI a0) (hc0 : I 0 2 = nI e0) (z : Int32) (he48 : e0 < 48) : tp_IE l yL_isHome wsL_isHome (tp_rm 6 136) D cy n ad o sa tL tM [.ref (ad (0)), .int (nI h), .int z, .ref (ad (3)), .ref (ad (4)), .ref (ad (5 + h)), .ref (ad (7 + h)), .ref (ad (2))] I (1) (I) := by
  obtain ⟨⟨hh, ha8, he8, he, ha⟩, hA13, hd6, hd7, hd8, hd01, hd0, hdm⟩ := id hB
  refine tp_ofIE (lv := [(0, .ref (ad (0))), (1, .int (nI h)), (2, .int z), (3, .ref (ad (3))), (4, .ref (ad (4))), (5, .ref (ad (5 + h))), (6, .ref (ad (7 + h))), (7, .ref (ad (2)))]) (by decide) rfl (Nat.le_of_ble_eq_true rfl) rfl (fun p e s m args below meth c A ls S0 hE => ?_)
  obtain ⟨hx, hb, hr, hml, hown, hts, hlocks, hA, hK, hP, hD, hS, hl⟩ := S0
  obtain ⟨-, ⟨hEL, hEM⟩, -, hEw, -, hEa, hEo⟩ := id hE
  refine lv_aload_n hx hb dL_isHome_0 rfl (lv_at hl 0 rfl) ?_
  refine lv_iload_n hx hb dL_isHome_1 rfl (lv_at hl 1 rfl) ?_
  refine tp_callE ⟨hx, hb, hml, hown, hts⟩ (op_debt_ok l D cy n ad o I sa tL tM h hi hn6) (cwV 1 hts gL_isHome_X1_debt rfl rfl rfl (by decide +kernel) ⟨Nat.le_of_ble_eq_true rfl, Nat.le_of_ble_eq_true rfl⟩) hE hK hP hD hS hA 0 1 tp_e0 rfl rfl rfl hl.1 rfl (Nat.le_of_ble_eq_true rfl) dL_isHome_2 ⟨Nat.zero_le _, Nat.zero_le _⟩ (fun I9 e9 H locs hP hD hS => ?_)
  subst e9
  refine lv_aload hx hb dL_isHome_5 (lv_at hl 7 rfl) ?_
  refine lv_bipush (v := 6) hx hb dL_isHome_7 (by decide) ?_
  refine lv_iload_n hx hb dL_isHome_9 rfl (lv_at hl 1 rfl) ?_
  refine lv_iadd hx hb dL_isHome_10 ?_
  refine tp_eqi (y := nI (6 + h)) (nI_add 6 h) ?_
  refine tp_iald hx hb hK hP (2) 12 ((6 + h)) (by omega) rfl rfl (by omega) (by decide) dL_isHome_11 ?_
  refine lv_icmp_ne (tgt := 85) hx hb dL_isHome_12 (by decide) (fun c => absurd hd6 c) (fun _ => ?_)
  refine lv_aload_n hx hb dL_isHome_15 rfl (lv_at hl 0 rfl) ?_
  refine lv_iload_n hx hb dL_isHome_16 rfl (lv_at hl 1 rfl) ?_
  refine tp_callE ⟨hx, hb, hml, hown, hts⟩ (op_recovered_ok l D cy n ad o I sa tL tM h hi hn6) (cwV 1 hts gL_isHome_X1_recovered rfl rfl rfl (by decide +kernel) ⟨Nat.le_of_ble_eq_true rfl, Nat.le_of_ble_eq_true rfl⟩) hE hK hP hD hS hA 0 1 tp_e0 rfl rfl rfl hl.1 rfl (Nat.le_of_ble_eq_true rfl) dL_isHome_17 ⟨Nat.zero_le _, Nat.zero_le _⟩ (fun I9 e9 H locs hP hD hS => ?_)
  subst e9
  refine lv_aload hx hb dL_isHome_20 (lv_at hl 7 rfl) ?_
  refine lv_bipush (v := 8) hx hb dL_isHome_22 (by decide) ?_
  refine lv_iload_n hx hb dL_isHome_24 rfl (lv_at hl 1 rfl) ?_
  refine lv_iadd hx hb dL_isHome_25 ?_
  refine tp_eqi (y := nI (8 + h)) (nI_add 8 h) ?_
  refine tp_iald hx hb hK hP (2) 12 ((8 + h)) (by omega) rfl rfl (by omega) (by decide) dL_isHome_26 ?_
  refine lv_icmp_ne (tgt := 85) hx hb dL_isHome_27 (by decide) (fun c => absurd hd7 c) (fun _ => ?_)
  refine lv_aload_n hx hb dL_isHome_30 rfl (lv_at hl 0 rfl) ?_
  refine lv_iload_n hx hb dL_isHome_31 rfl (lv_at hl 1 rfl) ?_
  refine tp_callE ⟨hx, hb, hml, hown, hts⟩ (op_unassessed_ok l D cy n ad o I sa tL tM h hi hn6 a0 e0 hc3 hc0 (by omega) he8) (cwV 1 hts gL_isHome_X1_unassessed rfl rfl rfl (by decide +kernel) ⟨Nat.le_of_ble_eq_true rfl, Nat.le_of_ble_eq_true rfl⟩) hE hK hP hD hS hA 0 1 tp_e0 rfl rfl rfl hl.1 rfl (Nat.le_of_ble_eq_true rfl) dL_isHome_32 ⟨Nat.zero_le _, Nat.zero_le _⟩ (fun I9 e9 H locs hP hD hS => ?_)
  subst e9
  refine lv_iload_n hx hb dL_isHome_35 rfl (lv_at hl 1 rfl) ?_
  refine lv_aload_n hx hb dL_isHome_36 rfl (lv_at hl 3 rfl) ?_
  refine lv_aload hx hb dL_isHome_37 (lv_at hl 4 rfl) ?_
  refine lv_aload hx hb dL_isHome_39 (lv_at hl 5 rfl) ?_
  refine lv_aload hx hb dL_isHome_41 (lv_at hl 7 rfl) ?_
  refine tp_callS ⟨hx, hb, hml, hown, hts⟩ (lf_open l D cy n ad o I h c0 hF e0 a0 hB) (va_cwS 5 hts gL_isHome_L_open rfl rfl rfl (by decide +kernel) ⟨Nat.le_of_ble_eq_true rfl, Nat.le_of_ble_eq_true rfl⟩) hK hP hD hS hA rfl hl.1 rfl (Nat.le_of_ble_eq_true rfl) dL_isHome_43 ⟨Nat.zero_le _, Nat.zero_le _⟩ (fun I9 e9 H locs hP hD hS => ?_)
  subst e9
  refine lv_icmp_ne (tgt := 85) hx hb dL_isHome_46 (by decide) (fun c => absurd rfl c) (fun _ => ?_)
  refine lv_aload_n hx hb dL_isHome_49 rfl (lv_at hl 0 rfl) ?_
  refine lv_iload_n hx hb dL_isHome_50 rfl (lv_at hl 1 rfl) ?_
  refine tp_callE ⟨hx, hb, hml, hown, hts⟩ (op_wouldPay_ok l D cy n ad o I sa tL tM h hi hn6 a0 e0 hc3 hc0 (by omega) he48) (cwV 1 hts gL_isHome_X1_wouldPay rfl rfl rfl (by decide +kernel) ⟨Nat.le_of_ble_eq_true rfl, Nat.le_of_ble_eq_true rfl⟩) hE hK hP hD hS hA 0 1 tp_e0 rfl rfl rfl hl.1 rfl (Nat.le_of_ble_eq_true rfl) dL_isHome_51 ⟨Nat.zero_le _, Nat.zero_le _⟩ (fun I9 e9 H locs hP hD hS => ?_)
  subst e9
  refine lv_aload hx hb dL_isHome_54 (lv_at hl 7 rfl) ?_
  refine lv_iconst (v := 0) hx hb dL_isHome_56 (by decide) ?_
  refine tp_iald hx hb hK hP (2) 12 (0) (by omega) rfl (by decide) (by decide) (by decide) dL_isHome_57 ?_
  refine tp_eqi (y := nI e0) he ?_
  refine lv_bipush (v := 48) hx hb dL_isHome_58 (by decide) ?_
  refine lv_icmp_ne (tgt := 67) hx hb dL_isHome_60 (by decide) (fun _ => ?_) (fun c => absurd c (fun q => absurd (tp_nIj (b := 48) q (by omega) (by decide)) (by omega)))
  refine lv_iload_n hx hb dL_isHome_67 rfl (lv_at hl 1 rfl) ?_
  refine lv_aload_n hx hb dL_isHome_68 rfl (lv_at hl 3 rfl) ?_
  refine lv_aload hx hb dL_isHome_69 (lv_at hl 4 rfl) ?_
  refine lv_aload hx hb dL_isHome_71 (lv_at hl 5 rfl) ?_
  refine lv_aload hx hb dL_isHome_73 (lv_at hl 7 rfl) ?_
  refine tp_callS ⟨hx, hb, hml, hown, hts⟩ (lf_pays l D cy n ad o I h c0 hF e0 a0 hB he48) (va_cwS 5 hts gL_isHome_L_pays rfl rfl rfl (by decide +kernel) ⟨Nat.le_of_ble_eq_true rfl, Nat.le_of_ble_eq_true rfl⟩) hK hP hD hS hA rfl hl.1 rfl (Nat.le_of_ble_eq_true rfl) dL_isHome_75 ⟨Nat.zero_le _, Nat.zero_le _⟩ (fun I9 e9 H locs hP hD hS => ?_)
  subst e9
  refine lv_icmp_ne (tgt := 85) hx hb dL_isHome_78 (by decide) (fun c => absurd rfl c) (fun _ => ?_)
  refine lv_iconst (v := 1) hx hb dL_isHome_81 (by decide) ?_
  refine lv_goto (tgt := 86) hx hb dL_isHome_82 (by decide) ?_
  refine lv_istore (lv' := [(8, .int 1), (0, .ref (ad (0))), (1, .int (nI h)), (2, .int z), (3, .ref (ad (3))), (4, .ref (ad (4))), (5, .ref (ad (5 + h))), (6, .ref (ad (7 + h))), (7, .ref (ad (2)))]) hx hb dL_isHome_86 hl (by decide) rfl (fun ls hl => ?_)
  refine lv_iconst (v := 0) hx hb dL_isHome_88 (by decide) ?_
  refine lv_istore (lv' := [(9, .int 0), (8, .int 1), (0, .ref (ad (0))), (1, .int (nI h)), (2, .int z), (3, .ref (ad (3))), (4, .ref (ad (4))), (5, .ref (ad (5 + h))), (6, .ref (ad (7 + h))), (7, .ref (ad (2)))]) hx hb dL_isHome_89 hl (by decide) rfl (fun ls hl => ?_)
  have hl : lv_has ls 12 [(9, .int (nI 0)), (8, .int 1), (0, .ref (ad (0))), (1, .int (nI h)), (2, .int z), (3, .ref (ad (3))), (4, .ref (ad (4))), (5, .ref (ad (5 + h))), (6, .ref (ad (7 + h))), (7, .ref (ad (2)))] := lv_sub hl [0, 1, 2, 3, 4, 5, 6, 7, 8, 9] rfl
  refine tp_for (nL := 12) 48 (fun _ => I) (fun t => [(9, .int (nI t)), (8, .int 1), (0, .ref (ad (0))), (1, .int (nI h)), (2, .int z), (3, .ref (ad (3))), (4, .ref (ad (4))), (5, .ref (ad (5 + h))), (6, .ref (ad (7 + h))), (7, .ref (ad (2)))]) (fun t htt ls H locs hl hP hD hS iht => ?_) (fun ls H locs hl hP hD hS => ?_) hl hP hD hS
  · refine lv_iload hx hb dL_isHome_91 (lv_at hl 0 rfl) ?_
    refine lv_bipush (v := 48) hx hb dL_isHome_93 (by decide) ?_
    refine lv_icmp_ge (tgt := 146) hx hb dL_isHome_95 (by decide) (fun c => absurd c (nI_ge (a := t) (b := 48) (by omega) (by decide))) (fun _ => ?_)
    refine lv_iload hx hb dL_isHome_98 (lv_at hl 1 rfl) ?_
    refine lv_if_eq (tgt := 146) hx hb dL_isHome_100 (by decide) (fun c => absurd c (by decide)) (fun _ => ?_)
    refine lv_aload_n hx hb dL_isHome_103 rfl (lv_at hl 2 rfl) ?_
    refine lv_iload_n hx hb dL_isHome_104 rfl (lv_at hl 3 rfl) ?_
    refine lv_iload hx hb dL_isHome_105 (lv_at hl 0 rfl) ?_
    refine tp_callE ⟨hx, hb, hml, hown, hts⟩ (op_assessed_ok l D cy n ad o I sa tL tM h hi hn6 t (by omega)) (cwV 2 hts gL_isHome_X1_assessed rfl rfl rfl (by decide +kernel) ⟨Nat.le_of_ble_eq_true rfl, Nat.le_of_ble_eq_true rfl⟩) hE hK hP hD hS hA 0 1 tp_e0 rfl rfl rfl hl.1 rfl (Nat.le_of_ble_eq_true rfl) dL_isHome_107 ⟨Nat.zero_le _, Nat.zero_le _⟩ (fun I9 e9 H locs hP hD hS => ?_)
    subst e9
    refine lv_aload hx hb dL_isHome_110 (lv_at hl 7 rfl) ?_
    refine lv_iload hx hb dL_isHome_112 (lv_at hl 0 rfl) ?_
    refine tp_iald hx hb hK hP (5 + h) 48 (t) (by omega) (tl_cA hh) rfl (by omega) (by decide) dL_isHome_114 ?_
    refine lv_icmp_ne (tgt := 137) hx hb dL_isHome_115 (by decide) (fun c => absurd (hA13 t htt).1 c) (fun _ => ?_)
    refine lv_aload_n hx hb dL_isHome_118 rfl (lv_at hl 2 rfl) ?_
    refine lv_iload_n hx hb dL_isHome_119 rfl (lv_at hl 3 rfl) ?_
    refine lv_iload hx hb dL_isHome_120 (lv_at hl 0 rfl) ?_
    refine tp_callE ⟨hx, hb, hml, hown, hts⟩ (op_paid_ok l D cy n ad o I sa tL tM h hi hn6 t (by omega)) (cwV 2 hts gL_isHome_X1_paid rfl rfl rfl (by decide +kernel) ⟨Nat.le_of_ble_eq_true rfl, Nat.le_of_ble_eq_true rfl⟩) hE hK hP hD hS hA 0 1 tp_e0 rfl rfl rfl hl.1 rfl (Nat.le_of_ble_eq_true rfl) dL_isHome_122 ⟨Nat.zero_le _, Nat.zero_le _⟩ (fun I9 e9 H locs hP hD hS => ?_)
    subst e9
    refine lv_aload hx hb dL_isHome_125 (lv_at hl 8 rfl) ?_
    refine lv_iload hx hb dL_isHome_127 (lv_at hl 0 rfl) ?_
    refine tp_iald hx hb hK hP (7 + h) 48 (t) (by omega) (tl_cP hh) rfl (by omega) (by decide) dL_isHome_129 ?_
    refine lv_icmp_ne (tgt := 137) hx hb dL_isHome_130 (by decide) (fun c => absurd (hA13 t htt).2.1 c) (fun _ => ?_)
    refine lv_iconst (v := 1) hx hb dL_isHome_133 (by decide) ?_
    refine lv_goto (tgt := 138) hx hb dL_isHome_134 (by decide) ?_
    refine lv_istore (lv' := [(8, .int 1), (9, .int (nI t)), (0, .ref (ad (0))), (1, .int (nI h)), (2, .int z), (3, .ref (ad (3))), (4, .ref (ad (4))), (5, .ref (ad (5 + h))), (6, .ref (ad (7 + h))), (7, .ref (ad (2)))]) hx hb dL_isHome_138 hl (by decide) rfl (fun ls hl => ?_)
    refine lv_iinc (v := (nI (t + 1))) (lv' := [(9, .int (nI (t + 1))), (8, .int 1), (0, .ref (ad (0))), (1, .int (nI h)), (2, .int z), (3, .ref (ad (3))), (4, .ref (ad (4))), (5, .ref (ad (5 + h))), (6, .ref (ad (7 + h))), (7, .ref (ad (2)))]) hx hb dL_isHome_140 hl (k := 1) rfl (nI_1 _) (by decide) rfl (fun ls hl => ?_)
    refine lv_goto (tgt := 91) hx hb dL_isHome_143 (by decide) ?_
    exact iht ls H locs (lv_sub hl [0, 1, 2, 3, 4, 5, 6, 7, 8, 9] rfl) hP hD hS
  refine lv_iload hx hb dL_isHome_91 (lv_at hl 0 rfl) ?_
  refine lv_bipush (v := 48) hx hb dL_isHome_93 (by decide) ?_
  refine lv_icmp_ge (tgt := 146) hx hb dL_isHome_95 (by decide) (fun _ => ?_) (fun c => absurd (nI_le (a := 48) (b := 48) (by decide) (by decide)) c)
  refine lv_iconst (v := 0) hx hb dL_isHome_146 (by decide) ?_
  refine lv_istore (lv' := [(9, .int 0), (8, .int 1), (0, .ref (ad (0))), (1, .int (nI h)), (2, .int z), (3, .ref (ad (3))), (4, .ref (ad (4))), (5, .ref (ad (5 + h))), (6, .ref (ad (7 + h))), (7, .ref (ad (2)))]) hx hb dL_isHome_147 hl (by decide) rfl (fun ls hl => ?_)
  have hl : lv_has ls 12 [(9, .int (nI 0)), (8, .int 1), (0, .ref (ad (0))), (1, .int (nI h)), (2, .int z), (3, .ref (ad (3))), (4, .ref (ad (4))), (5, .ref (ad (5 + h))), (6, .ref (ad (7 + h))), (7, .ref (ad (2)))] := lv_sub hl [0, 1, 2, 3, 4, 5, 6, 7, 8, 9] rfl
  refine tp_for (nL := 12) 4 (fun _ => I) (fun t => [(9, .int (nI t)), (8, .int 1), (0, .ref (ad (0))), (1, .int (nI h)), (2, .int z), (3, .ref (ad (3))), (4, .ref (ad (4))), (5, .ref (ad (5 + h))), (6, .ref (ad (7 + h))), (7, .ref (ad (2)))]) (fun t htt ls H locs hl hP hD hS iht => ?_) (fun ls H locs hl hP hD hS => ?_) hl hP hD hS
  · refine lv_iload hx hb dL_isHome_149 (lv_at hl 0 rfl) ?_
    refine lv_iconst (v := 4) hx hb dL_isHome_151 (by decide) ?_
    refine lv_icmp_ge (tgt := 337) hx hb dL_isHome_152 (by decide) (fun c => absurd c (nI_ge (a := t) (b := 4) (by omega) (by decide))) (fun _ => ?_)
    refine lv_iload hx hb dL_isHome_155 (lv_at hl 1 rfl) ?_
    refine lv_if_eq (tgt := 337) hx hb dL_isHome_157 (by decide) (fun c => absurd c (by decide)) (fun _ => ?_)
    refine tp_meetH (D := D) (cy := cy) (n := n) (ad := ad) (I := I) (o := o) (A := A) (H0 := s.heap) (nI (tl_mo z e0 t) : Int32) (fun y => F0 m 186 ls (.int y :: [])) (fun hj186 => ?_) (fun H locs hP hD hS => ?_)
    · refine lv_iload hx hb dL_isHome_160 (lv_at hl 0 rfl) ?_
      refine lv_if_ne (tgt := 175) hx hb dL_isHome_162 (by decide) (fun c162_1 => ?_) (fun c162_1 => ?_)
      · refine lv_iload_n hx hb dL_isHome_175 rfl (lv_at hl 4 rfl) ?_
        refine lv_iconst (v := 3) hx hb dL_isHome_176 (by decide) ?_
        refine lv_iload hx hb dL_isHome_177 (lv_at hl 0 rfl) ?_
        refine lv_imul hx hb dL_isHome_179 ?_
        refine tp_eqi (y := nI (3 * t)) (pk_mul 3 t) ?_
        refine lv_ishr hx hb dL_isHome_180 ?_
        refine tp_eqi (y := tl_shr z (nI (3 * t))) rfl ?_
        refine lv_bipush (v := 48) hx hb dL_isHome_181 (by decide) ?_
        refine tp_callS ⟨hx, hb, hml, hown, hts⟩ (lf_low l D cy n ad o I (tl_shr z (nI (3 * t))) 48 (by decide) (by decide)) (va_cwS 2 hts gL_isHome_L_low rfl rfl rfl (by decide +kernel) ⟨Nat.le_of_ble_eq_true rfl, Nat.le_of_ble_eq_true rfl⟩) hK hP hD hS hA rfl hl.1 rfl (Nat.le_of_ble_eq_true rfl) dL_isHome_183 ⟨Nat.zero_le _, Nat.zero_le _⟩ (fun I9 e9 H locs hP hD hS => ?_)
        subst e9
        exact hj186 _ (tl_mo1 c162_1) _ _ hP hD hS
      · refine lv_aload hx hb dL_isHome_165 (lv_at hl 9 rfl) ?_
        refine lv_iconst (v := 0) hx hb dL_isHome_167 (by decide) ?_
        refine tp_iald hx hb hK hP (2) 12 (0) (by omega) rfl (by decide) (by decide) (by decide) dL_isHome_168 ?_
        refine tp_eqi (y := nI e0) he ?_
        refine lv_bipush (v := 48) hx hb dL_isHome_169 (by decide) ?_
        refine lv_irem hx hb dL_isHome_171 (by decide) ?_
        refine tp_eqi (y := nI (e0 % 48)) (pk_rem (d := 48) (by omega) (by decide) (by decide)) ?_
        refine lv_goto (tgt := 186) hx hb dL_isHome_172 (by decide) ?_
        exact hj186 _ (tl_mo0 (by omega) c162_1) _ _ hP hD hS
    have hmo := tl_mo_lt z e0 t
    refine lv_istore (lv' := [(10, .int (nI (tl_mo z e0 t))), (9, .int (nI t)), (8, .int 1), (0, .ref (ad (0))), (1, .int (nI h)), (2, .int z), (3, .ref (ad (3))), (4, .ref (ad (4))), (5, .ref (ad (5 + h))), (6, .ref (ad (7 + h))), (7, .ref (ad (2)))]) hx hb dL_isHome_186 hl (by decide) rfl (fun ls hl => ?_)
    refine lv_aload_n hx hb dL_isHome_188 rfl (lv_at hl 3 rfl) ?_
    refine lv_iload_n hx hb dL_isHome_189 rfl (lv_at hl 4 rfl) ?_
    refine lv_iload hx hb dL_isHome_190 (lv_at hl 0 rfl) ?_
    refine tp_callE ⟨hx, hb, hml, hown, hts⟩ (op_need_ok l D cy n ad o I sa tL tM h hi hn6 (tl_mo z e0 t) (by omega)) (cwV 2 hts gL_isHome_X1_need rfl rfl rfl (by decide +kernel) ⟨Nat.le_of_ble_eq_true rfl, Nat.le_of_ble_eq_true rfl⟩) hE hK hP hD hS hA 0 1 tp_e0 rfl rfl rfl hl.1 rfl (Nat.le_of_ble_eq_true rfl) dL_isHome_192 ⟨Nat.zero_le _, Nat.zero_le _⟩ (fun I9 e9 H locs hP hD hS => ?_)
    subst e9
    refine lv_iload_n hx hb dL_isHome_195 rfl (lv_at hl 4 rfl) ?_
    refine lv_iload hx hb dL_isHome_196 (lv_at hl 0 rfl) ?_
    refine lv_aload_n hx hb dL_isHome_198 rfl (lv_at hl 6 rfl) ?_
    refine lv_aload hx hb dL_isHome_199 (lv_at hl 7 rfl) ?_
    refine lv_aload hx hb dL_isHome_201 (lv_at hl 10 rfl) ?_
    refine tp_callS ⟨hx, hb, hml, hown, hts⟩ (lf_need l D cy n ad o I h c0 hF (tl_mo z e0 t) (by omega)) (va_cwS 5 hts gL_isHome_L_need rfl rfl rfl (by decide +kernel) ⟨Nat.le_of_ble_eq_true rfl, Nat.le_of_ble_eq_true rfl⟩) hK hP hD hS hA rfl hl.1 rfl (Nat.le_of_ble_eq_true rfl) dL_isHome_203 ⟨Nat.zero_le _, Nat.zero_le _⟩ (fun I9 e9 H locs hP hD hS => ?_)
    subst e9
    refine lv_icmp_ne (tgt := 276) hx hb dL_isHome_206 (by decide) (fun c => absurd rfl c) (fun _ => ?_)
    refine lv_aload_n hx hb dL_isHome_209 rfl (lv_at hl 3 rfl) ?_
    refine lv_iload_n hx hb dL_isHome_210 rfl (lv_at hl 4 rfl) ?_
    refine lv_iload hx hb dL_isHome_211 (lv_at hl 0 rfl) ?_
    refine tp_callE ⟨hx, hb, hml, hown, hts⟩ (op_taper_ok l D cy n ad o I sa tL tM h hi hn6 (tl_mo z e0 t) (by omega)) (cwV 2 hts gL_isHome_X1_taper rfl rfl rfl (by decide +kernel) ⟨Nat.le_of_ble_eq_true rfl, Nat.le_of_ble_eq_true rfl⟩) hE hK hP hD hS hA 0 1 tp_e0 rfl rfl rfl hl.1 rfl (Nat.le_of_ble_eq_true rfl) dL_isHome_213 ⟨Nat.zero_le _, Nat.zero_le _⟩ (fun I9 e9 H locs hP hD hS => ?_)
    subst e9
    refine lv_iload_n hx hb dL_isHome_216 rfl (lv_at hl 4 rfl) ?_
    refine lv_iload hx hb dL_isHome_217 (lv_at hl 0 rfl) ?_
    refine lv_aload_n hx hb dL_isHome_219 rfl (lv_at hl 6 rfl) ?_
    refine lv_aload hx hb dL_isHome_220 (lv_at hl 7 rfl) ?_
    refine lv_aload hx hb dL_isHome_222 (lv_at hl 10 rfl) ?_
    refine tp_callS ⟨hx, hb, hml, hown, hts⟩ (lf_taper l D cy n ad o I h c0 hF (tl_mo z e0 t) (by omega)) (va_cwS 5 hts gL_isHome_L_taper rfl rfl rfl (by decide +kernel) ⟨Nat.le_of_ble_eq_true rfl, Nat.le_of_ble_eq_true rfl⟩) hK hP hD hS hA rfl hl.1 rfl (Nat.le_of_ble_eq_true rfl) dL_isHome_224 ⟨Nat.zero_le _, Nat.zero_le _⟩ (fun I9 e9 H locs hP hD hS => ?_)
    subst e9
    refine lv_icmp_ne (tgt := 276) hx hb dL_isHome_227 (by decide) (fun c => absurd rfl c) (fun _ => ?_)
    refine lv_aload_n hx hb dL_isHome_230 rfl (lv_at hl 3 rfl) ?_
    refine lv_iload_n hx hb dL_isHome_231 rfl (lv_at hl 4 rfl) ?_
    refine lv_iload hx hb dL_isHome_232 (lv_at hl 0 rfl) ?_
    refine tp_callE ⟨hx, hb, hml, hown, hts⟩ (op_tariff_ok l D cy n ad o I sa tL tM h hi hn6 (tl_mo z e0 t) (by omega)) (cwV 2 hts gL_isHome_X1_tariff rfl rfl rfl (by decide +kernel) ⟨Nat.le_of_ble_eq_true rfl, Nat.le_of_ble_eq_true rfl⟩) hE hK hP hD hS hA 0 1 tp_e0 rfl rfl rfl hl.1 rfl (Nat.le_of_ble_eq_true rfl) dL_isHome_234 ⟨Nat.zero_le _, Nat.zero_le _⟩ (fun I9 e9 H locs hP hD hS => ?_)
    subst e9
    refine lv_iload_n hx hb dL_isHome_237 rfl (lv_at hl 4 rfl) ?_
    refine lv_iload hx hb dL_isHome_238 (lv_at hl 0 rfl) ?_
    refine lv_aload_n hx hb dL_isHome_240 rfl (lv_at hl 6 rfl) ?_
    refine lv_aload hx hb dL_isHome_241 (lv_at hl 7 rfl) ?_
    refine lv_aload hx hb dL_isHome_243 (lv_at hl 10 rfl) ?_
    refine tp_callS ⟨hx, hb, hml, hown, hts⟩ (lf_tariff l D cy n ad o I h c0 hF (tl_mo z e0 t) (by omega)) (va_cwS 5 hts gL_isHome_L_tariff rfl rfl rfl (by decide +kernel) ⟨Nat.le_of_ble_eq_true rfl, Nat.le_of_ble_eq_true rfl⟩) hK hP hD hS hA rfl hl.1 rfl (Nat.le_of_ble_eq_true rfl) dL_isHome_245 ⟨Nat.zero_le _, Nat.zero_le _⟩ (fun I9 e9 H locs hP hD hS => ?_)
    subst e9
    refine lv_icmp_ne (tgt := 276) hx hb dL_isHome_248 (by decide) (fun c => absurd rfl c) (fun _ => ?_)
    refine lv_aload_n hx hb dL_isHome_251 rfl (lv_at hl 3 rfl) ?_
    refine lv_iload_n hx hb dL_isHome_252 rfl (lv_at hl 4 rfl) ?_
    refine lv_iload hx hb dL_isHome_253 (lv_at hl 0 rfl) ?_
    refine tp_callE ⟨hx, hb, hml, hown, hts⟩ (op_due_ok l D cy n ad o I sa tL tM h hi hn6 (tl_mo z e0 t) (by omega)) (cwV 2 hts gL_isHome_X1_due rfl rfl rfl (by decide +kernel) ⟨Nat.le_of_ble_eq_true rfl, Nat.le_of_ble_eq_true rfl⟩) hE hK hP hD hS hA 0 1 tp_e0 rfl rfl rfl hl.1 rfl (Nat.le_of_ble_eq_true rfl) dL_isHome_255 ⟨Nat.zero_le _, Nat.zero_le _⟩ (fun I9 e9 H locs hP hD hS => ?_)
    subst e9
    refine lv_iload_n hx hb dL_isHome_258 rfl (lv_at hl 4 rfl) ?_
    refine lv_iload hx hb dL_isHome_259 (lv_at hl 0 rfl) ?_
    refine lv_aload_n hx hb dL_isHome_261 rfl (lv_at hl 6 rfl) ?_
    refine lv_aload hx hb dL_isHome_262 (lv_at hl 7 rfl) ?_
    refine lv_aload hx hb dL_isHome_264 (lv_at hl 10 rfl) ?_
    refine tp_callS ⟨hx, hb, hml, hown, hts⟩ (lf_due l D cy n ad o I h c0 hF (tl_mo z e0 t) (by omega)) (va_cwS 5 hts gL_isHome_L_due rfl rfl rfl (by decide +kernel) ⟨Nat.le_of_ble_eq_true rfl, Nat.le_of_ble_eq_true rfl⟩) hK hP hD hS hA rfl hl.1 rfl (Nat.le_of_ble_eq_true rfl) dL_isHome_266 ⟨Nat.zero_le _, Nat.zero_le _⟩ (fun I9 e9 H locs hP hD hS => ?_)
    subst e9
    refine lv_icmp_ne (tgt := 276) hx hb dL_isHome_269 (by decide) (fun c => absurd rfl c) (fun _ => ?_)
    refine lv_iconst (v := 1) hx hb dL_isHome_272 (by decide) ?_
    refine lv_goto (tgt := 277) hx hb dL_isHome_273 (by decide) ?_
    refine lv_istore (lv' := [(8, .int 1), (10, .int (nI (tl_mo z e0 t))), (9, .int (nI t)), (0, .ref (ad (0))), (1, .int (nI h)), (2, .int z), (3, .ref (ad (3))), (4, .ref (ad (4))), (5, .ref (ad (5 + h))), (6, .ref (ad (7 + h))), (7, .ref (ad (2)))]) hx hb dL_isHome_277 hl (by decide) rfl (fun ls hl => ?_)
    refine lv_iconst (v := 0) hx hb dL_isHome_279 (by decide) ?_
    refine lv_istore (lv' := [(11, .int 0), (8, .int 1), (10, .int (nI (tl_mo z e0 t))), (9, .int (nI t)), (0, .ref (ad (0))), (1, .int (nI h)), (2, .int z), (3, .ref (ad (3))), (4, .ref (ad (4))), (5, .ref (ad (5 + h))), (6, .ref (ad (7 + h))), (7, .ref (ad (2)))]) hx hb dL_isHome_280 hl (by decide) rfl (fun ls hl => ?_)
    have hl : lv_has ls 12 [(11, .int (nI 0)), (8, .int 1), (10, .int (nI (tl_mo z e0 t))), (9, .int (nI t)), (0, .ref (ad (0))), (1, .int (nI h)), (2, .int z), (3, .ref (ad (3))), (4, .ref (ad (4))), (5, .ref (ad (5 + h))), (6, .ref (ad (7 + h))), (7, .ref (ad (2)))] := lv_sub hl [0, 1, 2, 3, 4, 5, 6, 7, 8, 9, 10, 11] rfl
    refine tp_for (nL := 12) 5 (fun _ => I) (fun u => [(11, .int (nI u)), (8, .int 1), (10, .int (nI (tl_mo z e0 t))), (9, .int (nI t)), (0, .ref (ad (0))), (1, .int (nI h)), (2, .int z), (3, .ref (ad (3))), (4, .ref (ad (4))), (5, .ref (ad (5 + h))), (6, .ref (ad (7 + h))), (7, .ref (ad (2)))]) (fun u htu ls H locs hl hP hD hS ihu => ?_) (fun ls H locs hl hP hD hS => ?_) hl hP hD hS
    · refine lv_iload hx hb dL_isHome_282 (lv_at hl 0 rfl) ?_
      refine lv_iconst (v := 5) hx hb dL_isHome_284 (by decide) ?_
      refine lv_icmp_ge (tgt := 331) hx hb dL_isHome_285 (by decide) (fun c => absurd c (nI_ge (a := u) (b := 5) (by omega) (by decide))) (fun _ => ?_)
      refine lv_iload hx hb dL_isHome_288 (lv_at hl 1 rfl) ?_
      refine lv_if_eq (tgt := 331) hx hb dL_isHome_290 (by decide) (fun c => absurd c (by decide)) (fun _ => ?_)
      refine lv_aload_n hx hb dL_isHome_293 rfl (lv_at hl 4 rfl) ?_
      refine lv_iload_n hx hb dL_isHome_294 rfl (lv_at hl 5 rfl) ?_
      refine lv_iload hx hb dL_isHome_295 (lv_at hl 0 rfl) ?_
      refine lv_iload hx hb dL_isHome_297 (lv_at hl 2 rfl) ?_
      refine tp_callE ⟨hx, hb, hml, hown, hts⟩ (op_fact_ok l D cy n ad o I sa tL tM h hi hn6 u (tl_mo z e0 t) (by omega) (by omega)) (cwV 3 hts gL_isHome_X1_fact rfl rfl rfl (by decide +kernel) ⟨Nat.le_of_ble_eq_true rfl, Nat.le_of_ble_eq_true rfl⟩) hE hK hP hD hS hA 0 1 tp_e0 rfl rfl rfl hl.1 rfl (Nat.le_of_ble_eq_true rfl) dL_isHome_299 ⟨Nat.zero_le _, Nat.zero_le _⟩ (fun I9 e9 H locs hP hD hS => ?_)
      subst e9
      refine lv_iload_n hx hb dL_isHome_302 rfl (lv_at hl 5 rfl) ?_
      refine lv_iload hx hb dL_isHome_303 (lv_at hl 0 rfl) ?_
      refine lv_iload hx hb dL_isHome_305 (lv_at hl 2 rfl) ?_
      refine lv_aload_n hx hb dL_isHome_307 rfl (lv_at hl 7 rfl) ?_
      refine lv_aload hx hb dL_isHome_308 (lv_at hl 8 rfl) ?_
      refine lv_aload hx hb dL_isHome_310 (lv_at hl 11 rfl) ?_
      refine tp_callS ⟨hx, hb, hml, hown, hts⟩ (lf_fact l D cy n ad o I h c0 hF u (tl_mo z e0 t) (by omega) (by omega)) (va_cwS 6 hts gL_isHome_L_fact rfl rfl rfl (by decide +kernel) ⟨Nat.le_of_ble_eq_true rfl, Nat.le_of_ble_eq_true rfl⟩) hK hP hD hS hA rfl hl.1 rfl (Nat.le_of_ble_eq_true rfl) dL_isHome_312 ⟨Nat.zero_le _, Nat.zero_le _⟩ (fun I9 e9 H locs hP hD hS => ?_)
      subst e9
      refine lv_icmp_ne (tgt := 322) hx hb dL_isHome_315 (by decide) (fun c => absurd rfl c) (fun _ => ?_)
      refine lv_iconst (v := 1) hx hb dL_isHome_318 (by decide) ?_
      refine lv_goto (tgt := 323) hx hb dL_isHome_319 (by decide) ?_
      refine lv_istore (lv' := [(8, .int 1), (11, .int (nI u)), (10, .int (nI (tl_mo z e0 t))), (9, .int (nI t)), (0, .ref (ad (0))), (1, .int (nI h)), (2, .int z), (3, .ref (ad (3))), (4, .ref (ad (4))), (5, .ref (ad (5 + h))), (6, .ref (ad (7 + h))), (7, .ref (ad (2)))]) hx hb dL_isHome_323 hl (by decide) rfl (fun ls hl => ?_)
      refine lv_iinc (v := (nI (u + 1))) (lv' := [(11, .int (nI (u + 1))), (8, .int 1), (10, .int (nI (tl_mo z e0 t))), (9, .int (nI t)), (0, .ref (ad (0))), (1, .int (nI h)), (2, .int z), (3, .ref (ad (3))), (4, .ref (ad (4))), (5, .ref (ad (5 + h))), (6, .ref (ad (7 + h))), (7, .ref (ad (2)))]) hx hb dL_isHome_325 hl (k := 1) rfl (nI_1 _) (by decide) rfl (fun ls hl => ?_)
      refine lv_goto (tgt := 282) hx hb dL_isHome_328 (by decide) ?_
      exact ihu ls H locs (lv_sub hl [0, 1, 2, 3, 4, 5, 6, 7, 8, 9, 10, 11] rfl) hP hD hS
    refine lv_iload hx hb dL_isHome_282 (lv_at hl 0 rfl) ?_
    refine lv_iconst (v := 5) hx hb dL_isHome_284 (by decide) ?_
    refine lv_icmp_ge (tgt := 331) hx hb dL_isHome_285 (by decide) (fun _ => ?_) (fun c => absurd (nI_le (a := 5) (b := 5) (by decide) (by decide)) c)
    refine lv_iinc (v := (nI (t + 1))) (lv' := [(9, .int (nI (t + 1))), (11, .int (nI 5)), (8, .int 1), (10, .int (nI (tl_mo z e0 t))), (0, .ref (ad (0))), (1, .int (nI h)), (2, .int z), (3, .ref (ad (3))), (4, .ref (ad (4))), (5, .ref (ad (5 + h))), (6, .ref (ad (7 + h))), (7, .ref (ad (2)))]) hx hb dL_isHome_331 hl (k := 3) rfl (nI_1 _) (by decide) rfl (fun ls hl => ?_)
    refine lv_goto (tgt := 149) hx hb dL_isHome_334 (by decide) ?_
    exact iht ls H locs (lv_sub hl [0, 2, 4, 5, 6, 7, 8, 9, 10, 11] rfl) hP hD hS
  · refine lv_iload hx hb dL_isHome_149 (lv_at hl 0 rfl) ?_
    refine lv_iconst (v := 4) hx hb dL_isHome_151 (by decide) ?_
    refine lv_icmp_ge (tgt := 337) hx hb dL_isHome_152 (by decide) (fun _ => ?_) (fun c => absurd (nI_le (a := 4) (b := 4) (by decide) (by decide)) c)
    refine lv_iload hx hb dL_isHome_337 (lv_at hl 1 rfl) ?_
    exact tp_reti hx hb hr hlocks hK hP hD hS rfl rfl rfl dL_isHome_339
set_option maxHeartbeats 4000000 in
set_option maxRecDepth 100000 in
/-- isHome, no month is current -/
theorem lf_isHome_b (l : Launch) (D : va_G) (cy : Nat → ClassId) (n : Nat) (ad : Nat → Nat) (o : Int64) (I : Nat → Nat → Int32) (sa : Nat → Nat) (tL tM : Nat) (h c0 : Nat) (hF : tq_F I h c0) (e0 a0 : Nat) (hB : tq_B I h e0 a0) (hi : h < n) (hn6 : n ≤ 6) (hc3 : I (9 + 15 * h) 3 = nI a0) (hc0 : I 0 2 = nI e0) (z : Int32) (e48 : e0 = 48) : tp_IE l yL_isHome wsL_isHome (tp_rm 6 136) D cy n ad o sa tL tM [.ref (ad (0)), .int (nI h), .int z, .ref (ad (3)), .ref (ad (4)), .ref (ad (5 + h)), .ref (ad (7 + h)), .ref (ad (2))] I (1) (I) := by
  obtain ⟨⟨hh, ha8, he8, he, ha⟩, hA13, hd6, hd7, hd8, hd01, hd0, hdm⟩ := id hB
  refine tp_ofIE (lv := [(0, .ref (ad (0))), (1, .int (nI h)), (2, .int z), (3, .ref (ad (3))), (4, .ref (ad (4))), (5, .ref (ad (5 + h))), (6, .ref (ad (7 + h))), (7, .ref (ad (2)))]) (by decide) rfl (Nat.le_of_ble_eq_true rfl) rfl (fun p e s m args below meth c A ls S0 hE => ?_)
  obtain ⟨hx, hb, hr, hml, hown, hts, hlocks, hA, hK, hP, hD, hS, hl⟩ := S0
  obtain ⟨-, ⟨hEL, hEM⟩, -, hEw, -, hEa, hEo⟩ := id hE
  refine lv_aload_n hx hb dL_isHome_0 rfl (lv_at hl 0 rfl) ?_
  refine lv_iload_n hx hb dL_isHome_1 rfl (lv_at hl 1 rfl) ?_
  refine tp_callE ⟨hx, hb, hml, hown, hts⟩ (op_debt_ok l D cy n ad o I sa tL tM h hi hn6) (cwV 1 hts gL_isHome_X1_debt rfl rfl rfl (by decide +kernel) ⟨Nat.le_of_ble_eq_true rfl, Nat.le_of_ble_eq_true rfl⟩) hE hK hP hD hS hA 0 1 tp_e0 rfl rfl rfl hl.1 rfl (Nat.le_of_ble_eq_true rfl) dL_isHome_2 ⟨Nat.zero_le _, Nat.zero_le _⟩ (fun I9 e9 H locs hP hD hS => ?_)
  subst e9
  refine lv_aload hx hb dL_isHome_5 (lv_at hl 7 rfl) ?_
  refine lv_bipush (v := 6) hx hb dL_isHome_7 (by decide) ?_
  refine lv_iload_n hx hb dL_isHome_9 rfl (lv_at hl 1 rfl) ?_
  refine lv_iadd hx hb dL_isHome_10 ?_
  refine tp_eqi (y := nI (6 + h)) (nI_add 6 h) ?_
  refine tp_iald hx hb hK hP (2) 12 ((6 + h)) (by omega) rfl rfl (by omega) (by decide) dL_isHome_11 ?_
  refine lv_icmp_ne (tgt := 85) hx hb dL_isHome_12 (by decide) (fun c => absurd hd6 c) (fun _ => ?_)
  refine lv_aload_n hx hb dL_isHome_15 rfl (lv_at hl 0 rfl) ?_
  refine lv_iload_n hx hb dL_isHome_16 rfl (lv_at hl 1 rfl) ?_
  refine tp_callE ⟨hx, hb, hml, hown, hts⟩ (op_recovered_ok l D cy n ad o I sa tL tM h hi hn6) (cwV 1 hts gL_isHome_X1_recovered rfl rfl rfl (by decide +kernel) ⟨Nat.le_of_ble_eq_true rfl, Nat.le_of_ble_eq_true rfl⟩) hE hK hP hD hS hA 0 1 tp_e0 rfl rfl rfl hl.1 rfl (Nat.le_of_ble_eq_true rfl) dL_isHome_17 ⟨Nat.zero_le _, Nat.zero_le _⟩ (fun I9 e9 H locs hP hD hS => ?_)
  subst e9
  refine lv_aload hx hb dL_isHome_20 (lv_at hl 7 rfl) ?_
  refine lv_bipush (v := 8) hx hb dL_isHome_22 (by decide) ?_
  refine lv_iload_n hx hb dL_isHome_24 rfl (lv_at hl 1 rfl) ?_
  refine lv_iadd hx hb dL_isHome_25 ?_
  refine tp_eqi (y := nI (8 + h)) (nI_add 8 h) ?_
  refine tp_iald hx hb hK hP (2) 12 ((8 + h)) (by omega) rfl rfl (by omega) (by decide) dL_isHome_26 ?_
  refine lv_icmp_ne (tgt := 85) hx hb dL_isHome_27 (by decide) (fun c => absurd hd7 c) (fun _ => ?_)
  refine lv_aload_n hx hb dL_isHome_30 rfl (lv_at hl 0 rfl) ?_
  refine lv_iload_n hx hb dL_isHome_31 rfl (lv_at hl 1 rfl) ?_
  refine tp_callE ⟨hx, hb, hml, hown, hts⟩ (op_unassessed_ok l D cy n ad o I sa tL tM h hi hn6 a0 e0 hc3 hc0 (by omega) he8) (cwV 1 hts gL_isHome_X1_unassessed rfl rfl rfl (by decide +kernel) ⟨Nat.le_of_ble_eq_true rfl, Nat.le_of_ble_eq_true rfl⟩) hE hK hP hD hS hA 0 1 tp_e0 rfl rfl rfl hl.1 rfl (Nat.le_of_ble_eq_true rfl) dL_isHome_32 ⟨Nat.zero_le _, Nat.zero_le _⟩ (fun I9 e9 H locs hP hD hS => ?_)
  subst e9
  refine lv_iload_n hx hb dL_isHome_35 rfl (lv_at hl 1 rfl) ?_
  refine lv_aload_n hx hb dL_isHome_36 rfl (lv_at hl 3 rfl) ?_
  refine lv_aload hx hb dL_isHome_37 (lv_at hl 4 rfl) ?_
  refine lv_aload hx hb dL_isHome_39 (lv_at hl 5 rfl) ?_
  refine lv_aload hx hb dL_isHome_41 (lv_at hl 7 rfl) ?_
  refine tp_callS ⟨hx, hb, hml, hown, hts⟩ (lf_open l D cy n ad o I h c0 hF e0 a0 hB) (va_cwS 5 hts gL_isHome_L_open rfl rfl rfl (by decide +kernel) ⟨Nat.le_of_ble_eq_true rfl, Nat.le_of_ble_eq_true rfl⟩) hK hP hD hS hA rfl hl.1 rfl (Nat.le_of_ble_eq_true rfl) dL_isHome_43 ⟨Nat.zero_le _, Nat.zero_le _⟩ (fun I9 e9 H locs hP hD hS => ?_)
  subst e9
  refine lv_icmp_ne (tgt := 85) hx hb dL_isHome_46 (by decide) (fun c => absurd rfl c) (fun _ => ?_)
  refine lv_aload_n hx hb dL_isHome_49 rfl (lv_at hl 0 rfl) ?_
  refine lv_iload_n hx hb dL_isHome_50 rfl (lv_at hl 1 rfl) ?_
  refine tp_callE ⟨hx, hb, hml, hown, hts⟩ (op_wouldPay_end l D cy n ad o I sa tL tM h hi hn6 a0 e0 hc3 hc0 (by omega) e48) (cwV 1 hts gL_isHome_X1_wouldPay rfl rfl rfl (by decide +kernel) ⟨Nat.le_of_ble_eq_true rfl, Nat.le_of_ble_eq_true rfl⟩) hE hK hP hD hS hA 0 1 tp_e0 rfl rfl rfl hl.1 rfl (Nat.le_of_ble_eq_true rfl) dL_isHome_51 ⟨Nat.zero_le _, Nat.zero_le _⟩ (fun I9 e9 H locs hP hD hS => ?_)
  subst e9
  refine lv_aload hx hb dL_isHome_54 (lv_at hl 7 rfl) ?_
  refine lv_iconst (v := 0) hx hb dL_isHome_56 (by decide) ?_
  refine tp_iald hx hb hK hP (2) 12 (0) (by omega) rfl (by decide) (by decide) (by decide) dL_isHome_57 ?_
  refine tp_eqi (y := nI e0) he ?_
  refine lv_bipush (v := 48) hx hb dL_isHome_58 (by decide) ?_
  refine lv_icmp_ne (tgt := 67) hx hb dL_isHome_60 (by decide) (fun c => absurd (show nI e0 = 48 by rw [e48]; rfl) c) (fun _ => ?_)
  refine lv_iconst (v := 0) hx hb dL_isHome_63 (by decide) ?_
  refine lv_goto (tgt := 78) hx hb dL_isHome_64 (by decide) ?_
  refine lv_icmp_ne (tgt := 85) hx hb dL_isHome_78 (by decide) (fun c => absurd rfl c) (fun _ => ?_)
  refine lv_iconst (v := 1) hx hb dL_isHome_81 (by decide) ?_
  refine lv_goto (tgt := 86) hx hb dL_isHome_82 (by decide) ?_
  refine lv_istore (lv' := [(8, .int 1), (0, .ref (ad (0))), (1, .int (nI h)), (2, .int z), (3, .ref (ad (3))), (4, .ref (ad (4))), (5, .ref (ad (5 + h))), (6, .ref (ad (7 + h))), (7, .ref (ad (2)))]) hx hb dL_isHome_86 hl (by decide) rfl (fun ls hl => ?_)
  refine lv_iconst (v := 0) hx hb dL_isHome_88 (by decide) ?_
  refine lv_istore (lv' := [(9, .int 0), (8, .int 1), (0, .ref (ad (0))), (1, .int (nI h)), (2, .int z), (3, .ref (ad (3))), (4, .ref (ad (4))), (5, .ref (ad (5 + h))), (6, .ref (ad (7 + h))), (7, .ref (ad (2)))]) hx hb dL_isHome_89 hl (by decide) rfl (fun ls hl => ?_)
  have hl : lv_has ls 12 [(9, .int (nI 0)), (8, .int 1), (0, .ref (ad (0))), (1, .int (nI h)), (2, .int z), (3, .ref (ad (3))), (4, .ref (ad (4))), (5, .ref (ad (5 + h))), (6, .ref (ad (7 + h))), (7, .ref (ad (2)))] := lv_sub hl [0, 1, 2, 3, 4, 5, 6, 7, 8, 9] rfl
  refine tp_for (nL := 12) 48 (fun _ => I) (fun t => [(9, .int (nI t)), (8, .int 1), (0, .ref (ad (0))), (1, .int (nI h)), (2, .int z), (3, .ref (ad (3))), (4, .ref (ad (4))), (5, .ref (ad (5 + h))), (6, .ref (ad (7 + h))), (7, .ref (ad (2)))]) (fun t htt ls H locs hl hP hD hS iht => ?_) (fun ls H locs hl hP hD hS => ?_) hl hP hD hS
  · refine lv_iload hx hb dL_isHome_91 (lv_at hl 0 rfl) ?_
    refine lv_bipush (v := 48) hx hb dL_isHome_93 (by decide) ?_
    refine lv_icmp_ge (tgt := 146) hx hb dL_isHome_95 (by decide) (fun c => absurd c (nI_ge (a := t) (b := 48) (by omega) (by decide))) (fun _ => ?_)
    refine lv_iload hx hb dL_isHome_98 (lv_at hl 1 rfl) ?_
    refine lv_if_eq (tgt := 146) hx hb dL_isHome_100 (by decide) (fun c => absurd c (by decide)) (fun _ => ?_)
    refine lv_aload_n hx hb dL_isHome_103 rfl (lv_at hl 2 rfl) ?_
    refine lv_iload_n hx hb dL_isHome_104 rfl (lv_at hl 3 rfl) ?_
    refine lv_iload hx hb dL_isHome_105 (lv_at hl 0 rfl) ?_
    refine tp_callE ⟨hx, hb, hml, hown, hts⟩ (op_assessed_ok l D cy n ad o I sa tL tM h hi hn6 t (by omega)) (cwV 2 hts gL_isHome_X1_assessed rfl rfl rfl (by decide +kernel) ⟨Nat.le_of_ble_eq_true rfl, Nat.le_of_ble_eq_true rfl⟩) hE hK hP hD hS hA 0 1 tp_e0 rfl rfl rfl hl.1 rfl (Nat.le_of_ble_eq_true rfl) dL_isHome_107 ⟨Nat.zero_le _, Nat.zero_le _⟩ (fun I9 e9 H locs hP hD hS => ?_)
    subst e9
    refine lv_aload hx hb dL_isHome_110 (lv_at hl 7 rfl) ?_
    refine lv_iload hx hb dL_isHome_112 (lv_at hl 0 rfl) ?_
    refine tp_iald hx hb hK hP (5 + h) 48 (t) (by omega) (tl_cA hh) rfl (by omega) (by decide) dL_isHome_114 ?_
    refine lv_icmp_ne (tgt := 137) hx hb dL_isHome_115 (by decide) (fun c => absurd (hA13 t htt).1 c) (fun _ => ?_)
    refine lv_aload_n hx hb dL_isHome_118 rfl (lv_at hl 2 rfl) ?_
    refine lv_iload_n hx hb dL_isHome_119 rfl (lv_at hl 3 rfl) ?_
    refine lv_iload hx hb dL_isHome_120 (lv_at hl 0 rfl) ?_
    refine tp_callE ⟨hx, hb, hml, hown, hts⟩ (op_paid_ok l D cy n ad o I sa tL tM h hi hn6 t (by omega)) (cwV 2 hts gL_isHome_X1_paid rfl rfl rfl (by decide +kernel) ⟨Nat.le_of_ble_eq_true rfl, Nat.le_of_ble_eq_true rfl⟩) hE hK hP hD hS hA 0 1 tp_e0 rfl rfl rfl hl.1 rfl (Nat.le_of_ble_eq_true rfl) dL_isHome_122 ⟨Nat.zero_le _, Nat.zero_le _⟩ (fun I9 e9 H locs hP hD hS => ?_)
    subst e9
    refine lv_aload hx hb dL_isHome_125 (lv_at hl 8 rfl) ?_
    refine lv_iload hx hb dL_isHome_127 (lv_at hl 0 rfl) ?_
    refine tp_iald hx hb hK hP (7 + h) 48 (t) (by omega) (tl_cP hh) rfl (by omega) (by decide) dL_isHome_129 ?_
    refine lv_icmp_ne (tgt := 137) hx hb dL_isHome_130 (by decide) (fun c => absurd (hA13 t htt).2.1 c) (fun _ => ?_)
    refine lv_iconst (v := 1) hx hb dL_isHome_133 (by decide) ?_
    refine lv_goto (tgt := 138) hx hb dL_isHome_134 (by decide) ?_
    refine lv_istore (lv' := [(8, .int 1), (9, .int (nI t)), (0, .ref (ad (0))), (1, .int (nI h)), (2, .int z), (3, .ref (ad (3))), (4, .ref (ad (4))), (5, .ref (ad (5 + h))), (6, .ref (ad (7 + h))), (7, .ref (ad (2)))]) hx hb dL_isHome_138 hl (by decide) rfl (fun ls hl => ?_)
    refine lv_iinc (v := (nI (t + 1))) (lv' := [(9, .int (nI (t + 1))), (8, .int 1), (0, .ref (ad (0))), (1, .int (nI h)), (2, .int z), (3, .ref (ad (3))), (4, .ref (ad (4))), (5, .ref (ad (5 + h))), (6, .ref (ad (7 + h))), (7, .ref (ad (2)))]) hx hb dL_isHome_140 hl (k := 1) rfl (nI_1 _) (by decide) rfl (fun ls hl => ?_)
    refine lv_goto (tgt := 91) hx hb dL_isHome_143 (by decide) ?_
    exact iht ls H locs (lv_sub hl [0, 1, 2, 3, 4, 5, 6, 7, 8, 9] rfl) hP hD hS
  refine lv_iload hx hb dL_isHome_91 (lv_at hl 0 rfl) ?_
  refine lv_bipush (v := 48) hx hb dL_isHome_93 (by decide) ?_
  refine lv_icmp_ge (tgt := 146) hx hb dL_isHome_95 (by decide) (fun _ => ?_) (fun c => absurd (nI_le (a := 48) (b := 48) (by decide) (by decide)) c)
  refine lv_iconst (v := 0) hx hb dL_isHome_146 (by decide) ?_
  refine lv_istore (lv' := [(9, .int 0), (8, .int 1), (0, .ref (ad (0))), (1, .int (nI h)), (2, .int z), (3, .ref (ad (3))), (4, .ref (ad (4))), (5, .ref (ad (5 + h))), (6, .ref (ad (7 + h))), (7, .ref (ad (2)))]) hx hb dL_isHome_147 hl (by decide) rfl (fun ls hl => ?_)
  have hl : lv_has ls 12 [(9, .int (nI 0)), (8, .int 1), (0, .ref (ad (0))), (1, .int (nI h)), (2, .int z), (3, .ref (ad (3))), (4, .ref (ad (4))), (5, .ref (ad (5 + h))), (6, .ref (ad (7 + h))), (7, .ref (ad (2)))] := lv_sub hl [0, 1, 2, 3, 4, 5, 6, 7, 8, 9] rfl
  refine tp_for (nL := 12) 4 (fun _ => I) (fun t => [(9, .int (nI t)), (8, .int 1), (0, .ref (ad (0))), (1, .int (nI h)), (2, .int z), (3, .ref (ad (3))), (4, .ref (ad (4))), (5, .ref (ad (5 + h))), (6, .ref (ad (7 + h))), (7, .ref (ad (2)))]) (fun t htt ls H locs hl hP hD hS iht => ?_) (fun ls H locs hl hP hD hS => ?_) hl hP hD hS
  · refine lv_iload hx hb dL_isHome_149 (lv_at hl 0 rfl) ?_
    refine lv_iconst (v := 4) hx hb dL_isHome_151 (by decide) ?_
    refine lv_icmp_ge (tgt := 337) hx hb dL_isHome_152 (by decide) (fun c => absurd c (nI_ge (a := t) (b := 4) (by omega) (by decide))) (fun _ => ?_)
    refine lv_iload hx hb dL_isHome_155 (lv_at hl 1 rfl) ?_
    refine lv_if_eq (tgt := 337) hx hb dL_isHome_157 (by decide) (fun c => absurd c (by decide)) (fun _ => ?_)
    refine tp_meetH (D := D) (cy := cy) (n := n) (ad := ad) (I := I) (o := o) (A := A) (H0 := s.heap) (nI (tl_mo z e0 t) : Int32) (fun y => F0 m 186 ls (.int y :: [])) (fun hj186 => ?_) (fun H locs hP hD hS => ?_)
    · refine lv_iload hx hb dL_isHome_160 (lv_at hl 0 rfl) ?_
      refine lv_if_ne (tgt := 175) hx hb dL_isHome_162 (by decide) (fun c162_1 => ?_) (fun c162_1 => ?_)
      · refine lv_iload_n hx hb dL_isHome_175 rfl (lv_at hl 4 rfl) ?_
        refine lv_iconst (v := 3) hx hb dL_isHome_176 (by decide) ?_
        refine lv_iload hx hb dL_isHome_177 (lv_at hl 0 rfl) ?_
        refine lv_imul hx hb dL_isHome_179 ?_
        refine tp_eqi (y := nI (3 * t)) (pk_mul 3 t) ?_
        refine lv_ishr hx hb dL_isHome_180 ?_
        refine tp_eqi (y := tl_shr z (nI (3 * t))) rfl ?_
        refine lv_bipush (v := 48) hx hb dL_isHome_181 (by decide) ?_
        refine tp_callS ⟨hx, hb, hml, hown, hts⟩ (lf_low l D cy n ad o I (tl_shr z (nI (3 * t))) 48 (by decide) (by decide)) (va_cwS 2 hts gL_isHome_L_low rfl rfl rfl (by decide +kernel) ⟨Nat.le_of_ble_eq_true rfl, Nat.le_of_ble_eq_true rfl⟩) hK hP hD hS hA rfl hl.1 rfl (Nat.le_of_ble_eq_true rfl) dL_isHome_183 ⟨Nat.zero_le _, Nat.zero_le _⟩ (fun I9 e9 H locs hP hD hS => ?_)
        subst e9
        exact hj186 _ (tl_mo1 c162_1) _ _ hP hD hS
      · refine lv_aload hx hb dL_isHome_165 (lv_at hl 9 rfl) ?_
        refine lv_iconst (v := 0) hx hb dL_isHome_167 (by decide) ?_
        refine tp_iald hx hb hK hP (2) 12 (0) (by omega) rfl (by decide) (by decide) (by decide) dL_isHome_168 ?_
        refine tp_eqi (y := nI e0) he ?_
        refine lv_bipush (v := 48) hx hb dL_isHome_169 (by decide) ?_
        refine lv_irem hx hb dL_isHome_171 (by decide) ?_
        refine tp_eqi (y := nI (e0 % 48)) (pk_rem (d := 48) (by omega) (by decide) (by decide)) ?_
        refine lv_goto (tgt := 186) hx hb dL_isHome_172 (by decide) ?_
        exact hj186 _ (tl_mo0 (by omega) c162_1) _ _ hP hD hS
    have hmo := tl_mo_lt z e0 t
    refine lv_istore (lv' := [(10, .int (nI (tl_mo z e0 t))), (9, .int (nI t)), (8, .int 1), (0, .ref (ad (0))), (1, .int (nI h)), (2, .int z), (3, .ref (ad (3))), (4, .ref (ad (4))), (5, .ref (ad (5 + h))), (6, .ref (ad (7 + h))), (7, .ref (ad (2)))]) hx hb dL_isHome_186 hl (by decide) rfl (fun ls hl => ?_)
    refine lv_aload_n hx hb dL_isHome_188 rfl (lv_at hl 3 rfl) ?_
    refine lv_iload_n hx hb dL_isHome_189 rfl (lv_at hl 4 rfl) ?_
    refine lv_iload hx hb dL_isHome_190 (lv_at hl 0 rfl) ?_
    refine tp_callE ⟨hx, hb, hml, hown, hts⟩ (op_need_ok l D cy n ad o I sa tL tM h hi hn6 (tl_mo z e0 t) (by omega)) (cwV 2 hts gL_isHome_X1_need rfl rfl rfl (by decide +kernel) ⟨Nat.le_of_ble_eq_true rfl, Nat.le_of_ble_eq_true rfl⟩) hE hK hP hD hS hA 0 1 tp_e0 rfl rfl rfl hl.1 rfl (Nat.le_of_ble_eq_true rfl) dL_isHome_192 ⟨Nat.zero_le _, Nat.zero_le _⟩ (fun I9 e9 H locs hP hD hS => ?_)
    subst e9
    refine lv_iload_n hx hb dL_isHome_195 rfl (lv_at hl 4 rfl) ?_
    refine lv_iload hx hb dL_isHome_196 (lv_at hl 0 rfl) ?_
    refine lv_aload_n hx hb dL_isHome_198 rfl (lv_at hl 6 rfl) ?_
    refine lv_aload hx hb dL_isHome_199 (lv_at hl 7 rfl) ?_
    refine lv_aload hx hb dL_isHome_201 (lv_at hl 10 rfl) ?_
    refine tp_callS ⟨hx, hb, hml, hown, hts⟩ (lf_need l D cy n ad o I h c0 hF (tl_mo z e0 t) (by omega)) (va_cwS 5 hts gL_isHome_L_need rfl rfl rfl (by decide +kernel) ⟨Nat.le_of_ble_eq_true rfl, Nat.le_of_ble_eq_true rfl⟩) hK hP hD hS hA rfl hl.1 rfl (Nat.le_of_ble_eq_true rfl) dL_isHome_203 ⟨Nat.zero_le _, Nat.zero_le _⟩ (fun I9 e9 H locs hP hD hS => ?_)
    subst e9
    refine lv_icmp_ne (tgt := 276) hx hb dL_isHome_206 (by decide) (fun c => absurd rfl c) (fun _ => ?_)
    refine lv_aload_n hx hb dL_isHome_209 rfl (lv_at hl 3 rfl) ?_
    refine lv_iload_n hx hb dL_isHome_210 rfl (lv_at hl 4 rfl) ?_
    refine lv_iload hx hb dL_isHome_211 (lv_at hl 0 rfl) ?_
    refine tp_callE ⟨hx, hb, hml, hown, hts⟩ (op_taper_ok l D cy n ad o I sa tL tM h hi hn6 (tl_mo z e0 t) (by omega)) (cwV 2 hts gL_isHome_X1_taper rfl rfl rfl (by decide +kernel) ⟨Nat.le_of_ble_eq_true rfl, Nat.le_of_ble_eq_true rfl⟩) hE hK hP hD hS hA 0 1 tp_e0 rfl rfl rfl hl.1 rfl (Nat.le_of_ble_eq_true rfl) dL_isHome_213 ⟨Nat.zero_le _, Nat.zero_le _⟩ (fun I9 e9 H locs hP hD hS => ?_)
    subst e9
    refine lv_iload_n hx hb dL_isHome_216 rfl (lv_at hl 4 rfl) ?_
    refine lv_iload hx hb dL_isHome_217 (lv_at hl 0 rfl) ?_
    refine lv_aload_n hx hb dL_isHome_219 rfl (lv_at hl 6 rfl) ?_
    refine lv_aload hx hb dL_isHome_220 (lv_at hl 7 rfl) ?_
    refine lv_aload hx hb dL_isHome_222 (lv_at hl 10 rfl) ?_
    refine tp_callS ⟨hx, hb, hml, hown, hts⟩ (lf_taper l D cy n ad o I h c0 hF (tl_mo z e0 t) (by omega)) (va_cwS 5 hts gL_isHome_L_taper rfl rfl rfl (by decide +kernel) ⟨Nat.le_of_ble_eq_true rfl, Nat.le_of_ble_eq_true rfl⟩) hK hP hD hS hA rfl hl.1 rfl (Nat.le_of_ble_eq_true rfl) dL_isHome_224 ⟨Nat.zero_le _, Nat.zero_le _⟩ (fun I9 e9 H locs hP hD hS => ?_)
    subst e9
    refine lv_icmp_ne (tgt := 276) hx hb dL_isHome_227 (by decide) (fun c => absurd rfl c) (fun _ => ?_)
    refine lv_aload_n hx hb dL_isHome_230 rfl (lv_at hl 3 rfl) ?_
    refine lv_iload_n hx hb dL_isHome_231 rfl (lv_at hl 4 rfl) ?_
    refine lv_iload hx hb dL_isHome_232 (lv_at hl 0 rfl) ?_
    refine tp_callE ⟨hx, hb, hml, hown, hts⟩ (op_tariff_ok l D cy n ad o I sa tL tM h hi hn6 (tl_mo z e0 t) (by omega)) (cwV 2 hts gL_isHome_X1_tariff rfl rfl rfl (by decide +kernel) ⟨Nat.le_of_ble_eq_true rfl, Nat.le_of_ble_eq_true rfl⟩) hE hK hP hD hS hA 0 1 tp_e0 rfl rfl rfl hl.1 rfl (Nat.le_of_ble_eq_true rfl) dL_isHome_234 ⟨Nat.zero_le _, Nat.zero_le _⟩ (fun I9 e9 H locs hP hD hS => ?_)
    subst e9
    refine lv_iload_n hx hb dL_isHome_237 rfl (lv_at hl 4 rfl) ?_
    refine lv_iload hx hb dL_isHome_238 (lv_at hl 0 rfl) ?_
    refine lv_aload_n hx hb dL_isHome_240 rfl (lv_at hl 6 rfl) ?_
    refine lv_aload hx hb dL_isHome_241 (lv_at hl 7 rfl) ?_
    refine lv_aload hx hb dL_isHome_243 (lv_at hl 10 rfl) ?_
    refine tp_callS ⟨hx, hb, hml, hown, hts⟩ (lf_tariff l D cy n ad o I h c0 hF (tl_mo z e0 t) (by omega)) (va_cwS 5 hts gL_isHome_L_tariff rfl rfl rfl (by decide +kernel) ⟨Nat.le_of_ble_eq_true rfl, Nat.le_of_ble_eq_true rfl⟩) hK hP hD hS hA rfl hl.1 rfl (Nat.le_of_ble_eq_true rfl) dL_isHome_245 ⟨Nat.zero_le _, Nat.zero_le _⟩ (fun I9 e9 H locs hP hD hS => ?_)
    subst e9
    refine lv_icmp_ne (tgt := 276) hx hb dL_isHome_248 (by decide) (fun c => absurd rfl c) (fun _ => ?_)
    refine lv_aload_n hx hb dL_isHome_251 rfl (lv_at hl 3 rfl) ?_
    refine lv_iload_n hx hb dL_isHome_252 rfl (lv_at hl 4 rfl) ?_
    refine lv_iload hx hb dL_isHome_253 (lv_at hl 0 rfl) ?_
    refine tp_callE ⟨hx, hb, hml, hown, hts⟩ (op_due_ok l D cy n ad o I sa tL tM h hi hn6 (tl_mo z e0 t) (by omega)) (cwV 2 hts gL_isHome_X1_due rfl rfl rfl (by decide +kernel) ⟨Nat.le_of_ble_eq_true rfl, Nat.le_of_ble_eq_true rfl⟩) hE hK hP hD hS hA 0 1 tp_e0 rfl rfl rfl hl.1 rfl (Nat.le_of_ble_eq_true rfl) dL_isHome_255 ⟨Nat.zero_le _, Nat.zero_le _⟩ (fun I9 e9 H locs hP hD hS => ?_)
    subst e9
    refine lv_iload_n hx hb dL_isHome_258 rfl (lv_at hl 4 rfl) ?_
    refine lv_iload hx hb dL_isHome_259 (lv_at hl 0 rfl) ?_
    refine lv_aload_n hx hb dL_isHome_261 rfl (lv_at hl 6 rfl) ?_
    refine lv_aload hx hb dL_isHome_262 (lv_at hl 7 rfl) ?_
    refine lv_aload hx hb dL_isHome_264 (lv_at hl 10 rfl) ?_
    refine tp_callS ⟨hx, hb, hml, hown, hts⟩ (lf_due l D cy n ad o I h c0 hF (tl_mo z e0 t) (by omega)) (va_cwS 5 hts gL_isHome_L_due rfl rfl rfl (by decide +kernel) ⟨Nat.le_of_ble_eq_true rfl, Nat.le_of_ble_eq_true rfl⟩) hK hP hD hS hA rfl hl.1 rfl (Nat.le_of_ble_eq_true rfl) dL_isHome_266 ⟨Nat.zero_le _, Nat.zero_le _⟩ (fun I9 e9 H locs hP hD hS => ?_)
    subst e9
    refine lv_icmp_ne (tgt := 276) hx hb dL_isHome_269 (by decide) (fun c => absurd rfl c) (fun _ => ?_)
    refine lv_iconst (v := 1) hx hb dL_isHome_272 (by decide) ?_
    refine lv_goto (tgt := 277) hx hb dL_isHome_273 (by decide) ?_
    refine lv_istore (lv' := [(8, .int 1), (10, .int (nI (tl_mo z e0 t))), (9, .int (nI t)), (0, .ref (ad (0))), (1, .int (nI h)), (2, .int z), (3, .ref (ad (3))), (4, .ref (ad (4))), (5, .ref (ad (5 + h))), (6, .ref (ad (7 + h))), (7, .ref (ad (2)))]) hx hb dL_isHome_277 hl (by decide) rfl (fun ls hl => ?_)
    refine lv_iconst (v := 0) hx hb dL_isHome_279 (by decide) ?_
    refine lv_istore (lv' := [(11, .int 0), (8, .int 1), (10, .int (nI (tl_mo z e0 t))), (9, .int (nI t)), (0, .ref (ad (0))), (1, .int (nI h)), (2, .int z), (3, .ref (ad (3))), (4, .ref (ad (4))), (5, .ref (ad (5 + h))), (6, .ref (ad (7 + h))), (7, .ref (ad (2)))]) hx hb dL_isHome_280 hl (by decide) rfl (fun ls hl => ?_)
    have hl : lv_has ls 12 [(11, .int (nI 0)), (8, .int 1), (10, .int (nI (tl_mo z e0 t))), (9, .int (nI t)), (0, .ref (ad (0))), (1, .int (nI h)), (2, .int z), (3, .ref (ad (3))), (4, .ref (ad (4))), (5, .ref (ad (5 + h))), (6, .ref (ad (7 + h))), (7, .ref (ad (2)))] := lv_sub hl [0, 1, 2, 3, 4, 5, 6, 7, 8, 9, 10, 11] rfl
    refine tp_for (nL := 12) 5 (fun _ => I) (fun u => [(11, .int (nI u)), (8, .int 1), (10, .int (nI (tl_mo z e0 t))), (9, .int (nI t)), (0, .ref (ad (0))), (1, .int (nI h)), (2, .int z), (3, .ref (ad (3))), (4, .ref (ad (4))), (5, .ref (ad (5 + h))), (6, .ref (ad (7 + h))), (7, .ref (ad (2)))]) (fun u htu ls H locs hl hP hD hS ihu => ?_) (fun ls H locs hl hP hD hS => ?_) hl hP hD hS
    · refine lv_iload hx hb dL_isHome_282 (lv_at hl 0 rfl) ?_
      refine lv_iconst (v := 5) hx hb dL_isHome_284 (by decide) ?_
      refine lv_icmp_ge (tgt := 331) hx hb dL_isHome_285 (by decide) (fun c => absurd c (nI_ge (a := u) (b := 5) (by omega) (by decide))) (fun _ => ?_)
      refine lv_iload hx hb dL_isHome_288 (lv_at hl 1 rfl) ?_
      refine lv_if_eq (tgt := 331) hx hb dL_isHome_290 (by decide) (fun c => absurd c (by decide)) (fun _ => ?_)
      refine lv_aload_n hx hb dL_isHome_293 rfl (lv_at hl 4 rfl) ?_
      refine lv_iload_n hx hb dL_isHome_294 rfl (lv_at hl 5 rfl) ?_
      refine lv_iload hx hb dL_isHome_295 (lv_at hl 0 rfl) ?_
      refine lv_iload hx hb dL_isHome_297 (lv_at hl 2 rfl) ?_
      refine tp_callE ⟨hx, hb, hml, hown, hts⟩ (op_fact_ok l D cy n ad o I sa tL tM h hi hn6 u (tl_mo z e0 t) (by omega) (by omega)) (cwV 3 hts gL_isHome_X1_fact rfl rfl rfl (by decide +kernel) ⟨Nat.le_of_ble_eq_true rfl, Nat.le_of_ble_eq_true rfl⟩) hE hK hP hD hS hA 0 1 tp_e0 rfl rfl rfl hl.1 rfl (Nat.le_of_ble_eq_true rfl) dL_isHome_299 ⟨Nat.zero_le _, Nat.zero_le _⟩ (fun I9 e9 H locs hP hD hS => ?_)
      subst e9
      refine lv_iload_n hx hb dL_isHome_302 rfl (lv_at hl 5 rfl) ?_
      refine lv_iload hx hb dL_isHome_303 (lv_at hl 0 rfl) ?_
      refine lv_iload hx hb dL_isHome_305 (lv_at hl 2 rfl) ?_
      refine lv_aload_n hx hb dL_isHome_307 rfl (lv_at hl 7 rfl) ?_
      refine lv_aload hx hb dL_isHome_308 (lv_at hl 8 rfl) ?_
      refine lv_aload hx hb dL_isHome_310 (lv_at hl 11 rfl) ?_
      refine tp_callS ⟨hx, hb, hml, hown, hts⟩ (lf_fact l D cy n ad o I h c0 hF u (tl_mo z e0 t) (by omega) (by omega)) (va_cwS 6 hts gL_isHome_L_fact rfl rfl rfl (by decide +kernel) ⟨Nat.le_of_ble_eq_true rfl, Nat.le_of_ble_eq_true rfl⟩) hK hP hD hS hA rfl hl.1 rfl (Nat.le_of_ble_eq_true rfl) dL_isHome_312 ⟨Nat.zero_le _, Nat.zero_le _⟩ (fun I9 e9 H locs hP hD hS => ?_)
      subst e9
      refine lv_icmp_ne (tgt := 322) hx hb dL_isHome_315 (by decide) (fun c => absurd rfl c) (fun _ => ?_)
      refine lv_iconst (v := 1) hx hb dL_isHome_318 (by decide) ?_
      refine lv_goto (tgt := 323) hx hb dL_isHome_319 (by decide) ?_
      refine lv_istore (lv' := [(8, .int 1), (11, .int (nI u)), (10, .int (nI (tl_mo z e0 t))), (9, .int (nI t)), (0, .ref (ad (0))), (1, .int (nI h)), (2, .int z), (3, .ref (ad (3))), (4, .ref (ad (4))), (5, .ref (ad (5 + h))), (6, .ref (ad (7 + h))), (7, .ref (ad (2)))]) hx hb dL_isHome_323 hl (by decide) rfl (fun ls hl => ?_)
      refine lv_iinc (v := (nI (u + 1))) (lv' := [(11, .int (nI (u + 1))), (8, .int 1), (10, .int (nI (tl_mo z e0 t))), (9, .int (nI t)), (0, .ref (ad (0))), (1, .int (nI h)), (2, .int z), (3, .ref (ad (3))), (4, .ref (ad (4))), (5, .ref (ad (5 + h))), (6, .ref (ad (7 + h))), (7, .ref (ad (2)))]) hx hb dL_isHome_325 hl (k := 1) rfl (nI_1 _) (by decide) rfl (fun ls hl => ?_)
      refine lv_goto (tgt := 282) hx hb dL_isHome_328 (by decide) ?_
      exact ihu ls H locs (lv_sub hl [0, 1, 2, 3, 4, 5, 6, 7, 8, 9, 10, 11] rfl) hP hD hS
    refine lv_iload hx hb dL_isHome_282 (lv_at hl 0 rfl) ?_
    refine lv_iconst (v := 5) hx hb dL_isHome_284 (by decide) ?_
    refine lv_icmp_ge (tgt := 331) hx hb dL_isHome_285 (by decide) (fun _ => ?_) (fun c => absurd (nI_le (a := 5) (b := 5) (by decide) (by decide)) c)
    refine lv_iinc (v := (nI (t + 1))) (lv' := [(9, .int (nI (t + 1))), (11, .int (nI 5)), (8, .int 1), (10, .int (nI (tl_mo z e0 t))), (0, .ref (ad (0))), (1, .int (nI h)), (2, .int z), (3, .ref (ad (3))), (4, .ref (ad (4))), (5, .ref (ad (5 + h))), (6, .ref (ad (7 + h))), (7, .ref (ad (2)))]) hx hb dL_isHome_331 hl (k := 3) rfl (nI_1 _) (by decide) rfl (fun ls hl => ?_)
    refine lv_goto (tgt := 149) hx hb dL_isHome_334 (by decide) ?_
    exact iht ls H locs (lv_sub hl [0, 2, 4, 5, 6, 7, 8, 9, 10, 11] rfl) hP hD hS
  · refine lv_iload hx hb dL_isHome_149 (lv_at hl 0 rfl) ?_
    refine lv_iconst (v := 4) hx hb dL_isHome_151 (by decide) ?_
    refine lv_icmp_ge (tgt := 337) hx hb dL_isHome_152 (by decide) (fun _ => ?_) (fun c => absurd (nI_le (a := 4) (b := 4) (by decide) (by decide)) c)
    refine lv_iload hx hb dL_isHome_337 (lv_at hl 1 rfl) ?_
    exact tp_reti hx hb hr hlocks hK hP hD hS rfl rfl rfl dL_isHome_339
theorem lf_isHome (l : Launch) (D : va_G) (cy : Nat → ClassId) (n : Nat) (ad : Nat → Nat) (o : Int64) (I : Nat → Nat → Int32) (sa : Nat → Nat) (tL tM : Nat) (h c0 : Nat) (hF : tq_F I h c0) (e0 a0 : Nat) (hB : tq_B I h e0 a0) (hi : h < n) (hn6 : n ≤ 6) (hc3 : I (9 + 15 * h) 3 = nI a0) (hc0 : I 0 2 = nI e0) (z : Int32) : tp_IE l yL_isHome wsL_isHome (tp_rm 6 136) D cy n ad o sa tL tM [.ref (ad (0)), .int (nI h), .int z, .ref (ad (3)), .ref (ad (4)), .ref (ad (5 + h)), .ref (ad (7 + h)), .ref (ad (2))] I (1) (I) := by
  rcases Nat.lt_or_ge e0 48 with q | q
  · exact lf_isHome_a l D cy n ad o I sa tL tM h c0 hF e0 a0 hB hi hn6 hc3 hc0 z q
  · exact lf_isHome_b l D cy n ad o I sa tL tM h c0 hF e0 a0 hB hi hn6 hc3 hc0 z (by have := hB.1.2.2.1; omega)

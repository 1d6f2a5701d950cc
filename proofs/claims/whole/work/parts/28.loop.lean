/-! THE CLAIM OUT OF ONE WALK OF THE LAW'S BODY. Your part is whole_start (and what it stands on); all else here is the same for every law, but numbers. -/
def R_law : String := "TaperOfficeLaw"
def lw_P (b : Addr) (xs : List Int32) (args : Array Value) (s : State) : Prop := args = #[.ref b] ∧ s.IntsAt b xs ∧ xs.length ≤ 2560 ∧ (Jvm.Cond.and given_1 narrow_1).before args s = true
def lw_Q (_ : Array Value) (s : State) (o : Outcome) (t : State) : Prop := o = .returned (some (.int 1)) ∧ Framed s o t [] 601024 7293034
def lw_Z (below : List Frame) (a : Array Value) (s : State) : State → Prop := fun t => ∃ o, t.status = .running ∧ Ended t below o ∧ lw_Q a s o t
/-- the law's own end, with 1 on the stack, nothing written that was there before, its room as the claim has it -/
theorem lw_ret {p : Program} {l : Launch} {e : Env} {s : State} {m : MethodId} {below : List Frame} {meth : Method} {c : Code} {b : Nat} (hx : p.tables.exec = Jvm.exec) (hb : c.code = code) (hr : meth.sig.returnType = ret) (hlocks : meth.locks = false) {pc : Nat} {H : Heap} {ls : Array Slot} (hdg : decode code pc = .ok (.ireturn, 1)) : W p l e room_1 s m #[Value.ref b] below meth c H [] 601024 7293034 (lw_Z below #[Value.ref b] s) (F0 m pc ls [.int 1]) := by
  intro T hT X
  obtain ⟨fs, hret, hrun, hended, hW, hframe⟩ := X.leave (v := some (.int 1)) (hlocks := hlocks) (fun h => by rw [hr] at h; cases h)
  have hmeth' : T.vm.method? m = some meth := X.method'
  refine ⟨T.setFrames fs, ?_, .returned (some (.int 1)), hrun, hended, rfl, ⟨_, rfl⟩, hW, hframe⟩
  jvm_step X.here [X.here.top, hx, hb, hdg, hmeth', hr, ret, narrow_b1]
  (try refine ⟨rfl, ?_⟩); (try refine ⟨rfl, ?_⟩)
  first | (intro acts; rw [hret _ acts rfl rfl rfl]) | rw [hret _ _ rfl rfl rfl]
  exact Steps.refl _
/-- what holds at the law's entry: the machine, the code, the tables' words (any of lw_tbl by 'hts w (by decide +kernel)'), the script of L ints xs at the cell b, what the Statement gives of the start (any of its parts by flat_of_before) -/
def lw_At (p : Program) (s : State) (m : MethodId) (meth : Method) (c : Code) (b L : Nat) (xs : Nat → Int32) : Prop :=
  p.tables.exec = Jvm.exec ∧ c.code = code ∧ meth.sig.returnType = ret ∧ c.maxLocals = 7 ∧ s.vm.findClass R_law = some m.cls ∧ (∀ w ∈ lw_tbl, w.before #[Value.ref b] s = true) ∧ va_X b L xs s s.heap ∧ b < s.heap.size ∧ meth.locks = false ∧ (Jvm.Cond.and given_1 narrow_1).before #[Value.ref b] s = true
theorem tp_cx {p : Program} {s : State} {m : MethodId} {meth : Method} {c : Code} {b L : Nat} {xs : Nat → Int32} (C0 : lw_At p s m meth c b L xs) : tp_CX p s m meth c b L xs := ⟨C0.1, C0.2.1, C0.2.2.2.1, C0.2.2.2.2.1, fun w h => C0.2.2.2.2.2.1 w (wsL_law_in w h), C0.2.2.2.2.2.2.1, C0.2.2.2.2.2.2.2.1⟩
set_option maxHeartbeats 4000000 in
set_option maxRecDepth 100000 in
/-- once round: one call of the script -/
theorem lx_step (l : Launch) (hlt : l.stackTraces = false) {p : Program} {e : Env} {s : State} {m : MethodId} {below : List Frame} {meth : Method} {c : Code} {b L i : Nat} {xs : Nat → Int32} (C0 : tp_CX p s m meth c b L xs) (hi : i + 5 ≤ L) (hL : L ≤ 2560) {D : va_G} {cy : Nat → ClassId} {n : Nat} {ad : Nat → Nat} {I : Nat → Nat → Int32} {o : Int64} {sa : Nat → Nat} {tL tM : Nat} {H : Heap} {locs : List Loc} {cells slots : Nat} {Q : State → Prop} {ls : Array Slot}
    (hE : tp_EV sa tL tM (tp_Al s) s s.heap) (hK : va_K D vwCl (tp_ty cy) s) (hW0 : tp_Wd D cy n ad I o s H locs) (hcs : cells + 100 ≤ 601024 ∧ slots + 1000 ≤ 7293034) (hl : lv_has ls 7 (tp_lv b ad i)) (hR : tp_rel n I)
    (kk : ∀ (n2 : Nat) (ad2 : Nat → Nat) (I2 : Nat → Nat → Int32) (o1 : Int64) (H1 : Heap) (locs1 : List Loc) (ls1 : Array Slot), tp_rel n2 I2 → tp_Wd D cy n2 ad2 I2 o1 s H1 locs1 → lv_has ls1 7 (tp_lv b ad2 i) → W p l e room_1 s m #[Value.ref b] below meth c H1 locs1 (cells + 100) (slots + 1000) Q (F0 m 1201 ls1 [])) : W p l e room_1 s m #[Value.ref b] below meth c H locs cells slots Q (F0 m 32 ls []) := by
  obtain ⟨hx, hb, hml, hown, hts, hX, hbl⟩ := id C0
  obtain ⟨hP, hD, hS⟩ := id hW0
  have hbA : ¬ tp_Al s b := Nat.not_le.mpr hbl
  have kJ : ∀ (I2 : Nat → Nat → Int32) (o1 : Int64) (H1 : Heap) (locs1 : List Loc) (ls1 : Array Slot), tp_rel n I2 → tp_Wd D cy n ad I2 o1 s H1 locs1 → lv_has ls1 7 (tp_lv b ad i) → W p l e room_1 s m #[Value.ref b] below meth c H1 locs1 (cells + 1) (slots + 6) Q (F0 m 1201 ls1 []) := fun I2 o1 H1 locs1 ls1 q1 q2 q3 => W.widen (k := cells + 100) (n := slots + 1000) (by omega) (by omega) (kk n ad I2 o1 H1 locs1 ls1 q1 q2 q3)
  have hl' : lv_has ls 7 [(4, .int (nI i)), (3, .ref (ad 13)), (2, .ref (ad 2)), (1, .ref (ad 0)), (0, .ref b)] := hl
  refine lv_aload_n hx hb dL_law_32 rfl (lv_at hl' 4 rfl) ?_
  refine lv_iload hx hb dL_law_33 (lv_at hl' 0 rfl) ?_
  refine tp_sld hx hb hX hbl hbA hS i rfl (by omega) hL dL_law_35 ?_
  refine lv_bipush (v := 31) hx hb dL_law_36 (by decide) ?_
  refine lv_iand hx hb dL_law_38 ?_
  obtain ⟨j, hj, ej⟩ := pk_andE (xs i) 5 (show (31 : Int32).toBitVec.toNat = 2 ^ 5 - 1 by decide)
  refine tp_eqi (y := nI j) ej ?_
  by_cases h18 : 18 ≤ j
  · refine lv_tableOut (tgt := 1201) hx hb dL_law_39 (Or.inr (by rw [nI_toInt (by omega)]; omega)) (by decide) ?_
    exact W.widen (k := cells + 100) (n := slots + 1000) (by omega) (by omega) (kk n ad I o H locs ls hR hW0 hl)
  rcases (show j = 0 ∨ j = 1 ∨ j = 2 ∨ j = 3 ∨ j = 4 ∨ j = 5 ∨ j = 6 ∨ j = 7 ∨ j = 8 ∨ j = 9 ∨ j = 10 ∨ j = 11 ∨ j = 12 ∨ j = 13 ∨ j = 14 ∨ j = 15 ∨ j = 16 ∨ j = 17 by omega) with rfl | rfl | rfl | rfl | rfl | rfl | rfl | rfl | rfl | rfl | rfl | rfl | rfl | rfl | rfl | rfl | rfl | rfl
  · refine lv_tableIn (off := 85) (tgt := 124) hx hb dL_law_39 (by decide) (by decide) (by decide) (by decide) ?_
    by_cases hb6 : n = 6 ∨ ¬ I 0 2 < 48
    · exact lc_add l C0 hi hL hE hK hW0 hcs hl (tj_add_no l hlt D cy ad o sa tL tM hR hb6) kJ
    · obtain ⟨hn6, h01, h22, e0, aF, cF, he, h02, h21, -⟩ := id hR
      have n6 : n < 6 := by
        have : ¬ n = 6 := fun q => hb6 (Or.inl q)
        omega
      have e8 : e0 < 48 := by
        have q : I 0 2 < 48 := Decidable.of_not_not (fun q => hb6 (Or.inr q))
        rw [h02] at q
        exact (nI_ltI (b := 48) (by omega) (by decide)).mp q
      exact lc_add_ok l C0 hE hK hW0 hcs hl n6 h01 h22 h02 h21 e8 (fun ad2 H1 locs1 ls1 q2 q3 => W.widen (k := cells + 100) (n := slots + 1000) (by omega) (by omega) (kk (n + 1) ad2 _ _ H1 locs1 ls1 (tr_add hR n6 h02 e8) q2 q3))
  · refine lv_tableIn (off := 129) (tgt := 168) hx hb dL_law_39 (by decide) (by decide) (by decide) (by decide) ?_
    exact lc_tell l C0 hi hL hE hK hW0 hcs hl (tj_tell l hlt D cy ad o sa tL tM hR (xs (i + 1)) (xs (i + 2)) (xs (i + 3)) (xs (i + 4))) kJ
  · refine lv_tableIn (off := 221) (tgt := 260) hx hb dL_law_39 (by decide) (by decide) (by decide) (by decide) ?_
    exact lc_dispute l C0 hi hL hE hK hW0 hcs hl (tj_dispute l hlt D cy ad o sa tL tM hR (xs (i + 1)) (if xs (i + 2) = 0 then 0 else 1) (by by_cases q : xs (i + 2) = 0 <;> simp [q])) kJ
  · refine lv_tableIn (off := 312) (tgt := 351) hx hb dL_law_39 (by decide) (by decide) (by decide) (by decide) ?_
    exact lc_payBack l C0 hi hL hE hK hW0 hcs hl (tj_payBack l hlt D cy ad o sa tL tM hR (xs (i + 1)) (xs (i + 2))) kJ
  · refine lv_tableIn (off := 380) (tgt := 419) hx hb dL_law_39 (by decide) (by decide) (by decide) (by decide) ?_
    exact lc_households l C0 (i := i) hK hW0 hcs hl (by obtain ⟨hn6, h01, h22, e0, aF, cF, he, h02, h21, -⟩ := id hR; rw [h01, h22]) (fun H1 locs1 q2 => W.widen (k := cells + 100) (n := slots + 1000) (by omega) (by omega) (kk n ad _ o H1 locs1 ls (tp_rel_u (by decide) hR) q2 hl))
  · refine lv_tableIn (off := 393) (tgt := 432) hx hb dL_law_39 (by decide) (by decide) (by decide) (by decide) ?_
    exact lc_close l C0 hi hL hE hK hW0 hcs hl (tj_close l hlt D cy ad o sa tL tM hR ) kJ
  · refine lv_tableIn (off := 437) (tgt := 476) hx hb dL_law_39 (by decide) (by decide) (by decide) (by decide) ?_
    exact lc_month l C0 (i := i) hK hW0 hcs hl (by obtain ⟨hn6, h01, h22, e0, aF, cF, he, h02, h21, -⟩ := id hR; rw [h02, h21]) (fun H1 locs1 q2 => W.widen (k := cells + 100) (n := slots + 1000) (by omega) (by omega) (kk n ad _ o H1 locs1 ls (tp_rel_u (by decide) hR) q2 hl))
  · refine lv_tableIn (off := 450) (tgt := 489) hx hb dL_law_39 (by decide) (by decide) (by decide) (by decide) ?_
    exact lc_fact l C0 hi hL hE hK hW0 hcs hl (tj_fact l hlt D cy ad o sa tL tM hR (xs (i + 1)) (xs (i + 2)) (xs (i + 3))) kJ
  · refine lv_tableIn (off := 530) (tgt := 569) hx hb dL_law_39 (by decide) (by decide) (by decide) (by decide) ?_
    exact lc_need l C0 hi hL hE hK hW0 hcs hl (tj_need l hlt D cy ad o sa tL tM hR (xs (i + 1)) (xs (i + 2))) kJ
  · refine lv_tableIn (off := 598) (tgt := 637) hx hb dL_law_39 (by decide) (by decide) (by decide) (by decide) ?_
    exact lc_taper l C0 hi hL hE hK hW0 hcs hl (tj_taper l hlt D cy ad o sa tL tM hR (xs (i + 1)) (xs (i + 2))) kJ
  · refine lv_tableIn (off := 666) (tgt := 705) hx hb dL_law_39 (by decide) (by decide) (by decide) (by decide) ?_
    exact lc_tariff l C0 hi hL hE hK hW0 hcs hl (tj_tariff l hlt D cy ad o sa tL tM hR (xs (i + 1)) (xs (i + 2))) kJ
  · refine lv_tableIn (off := 734) (tgt := 773) hx hb dL_law_39 (by decide) (by decide) (by decide) (by decide) ?_
    exact lc_due l C0 hi hL hE hK hW0 hcs hl (tj_due l hlt D cy ad o sa tL tM hR (xs (i + 1)) (xs (i + 2))) kJ
  · refine lv_tableIn (off := 802) (tgt := 841) hx hb dL_law_39 (by decide) (by decide) (by decide) (by decide) ?_
    exact lc_unassessed l C0 hi hL hE hK hW0 hcs hl (tj_unassessed l hlt D cy ad o sa tL tM hR (xs (i + 1))) kJ
  · refine lv_tableIn (off := 858) (tgt := 897) hx hb dL_law_39 (by decide) (by decide) (by decide) (by decide) ?_
    exact lc_wouldPay l C0 hi hL hE hK hW0 hcs hl (tj_wouldPay l hlt D cy ad o sa tL tM hR (xs (i + 1))) kJ
  · refine lv_tableIn (off := 914) (tgt := 953) hx hb dL_law_39 (by decide) (by decide) (by decide) (by decide) ?_
    exact lc_assessed l C0 hi hL hE hK hW0 hcs hl (tj_assessed l hlt D cy ad o sa tL tM hR (xs (i + 1)) (xs (i + 2))) kJ
  · refine lv_tableIn (off := 982) (tgt := 1021) hx hb dL_law_39 (by decide) (by decide) (by decide) (by decide) ?_
    exact lc_paid l C0 hi hL hE hK hW0 hcs hl (tj_paid l hlt D cy ad o sa tL tM hR (xs (i + 1)) (xs (i + 2))) kJ
  · refine lv_tableIn (off := 1050) (tgt := 1089) hx hb dL_law_39 (by decide) (by decide) (by decide) (by decide) ?_
    exact lc_debt l C0 hi hL hE hK hW0 hcs hl (tj_debt l hlt D cy ad o sa tL tM hR (xs (i + 1))) kJ
  · refine lv_tableIn (off := 1106) (tgt := 1145) hx hb dL_law_39 (by decide) (by decide) (by decide) (by decide) ?_
    exact lc_recovered l C0 hi hL hE hK hW0 hcs hl (tj_recovered l hlt D cy ad o sa tL tM hR (xs (i + 1))) kJ
set_option maxHeartbeats 4000000 in
/-- the loop, to the law's end -/
theorem lx_loop (l : Launch) (hlt : l.stackTraces = false) {p : Program} {e : Env} {s : State} {m : MethodId} {below : List Frame} {meth : Method} {c : Code} {b L : Nat} {xs : Nat → Int32} (C1 : lw_At p s m meth c b L xs) (hL : L ≤ 2560) {D : va_G} {cy : Nat → ClassId} {sa : Nat → Nat} {tL tM : Nat} (hE : tp_EV sa tL tM (tp_Al s) s s.heap) (hK : va_K D vwCl (tp_ty cy) s) :
    ∀ (f t n : Nat) (ad : Nat → Nat) (I : Nat → Nat → Int32) (o : Int64) (H : Heap) (locs : List Loc) (cells slots : Nat) (ls : Array Slot), L ≤ 5 * t + f → 5 * t ≤ L → tp_Wd D cy n ad I o s H locs → cells ≤ 100 + 100 * t → slots ≤ 10000 + 1000 * t → lv_has ls 7 (tp_lv b ad (5 * t)) → tp_rel n I →
      W p l e room_1 s m #[Value.ref b] below meth c H locs cells slots (lw_Z below #[Value.ref b] s) (F0 m 23 ls []) := by
  obtain ⟨hx, hb, hml, hown, hts, hX, hbl⟩ := id (tp_cx C1)
  have hbA : ¬ tp_Al s b := Nat.not_le.mpr hbl
  intro f
  induction f with
  | zero =>
    intro t n ad I o H locs cells slots ls h1 h2 hW0 hc1 hc2 hl hR
    obtain ⟨hP, hD, hS⟩ := id hW0
    have hl' : lv_has ls 7 [(4, .int (nI (5 * t))), (3, .ref (ad 13)), (2, .ref (ad 2)), (1, .ref (ad 0)), (0, .ref b)] := hl
    refine lv_iload hx hb dL_law_23 (lv_at hl' 0 rfl) ?_
    refine lv_aload_n hx hb dL_law_25 rfl (lv_at hl' 4 rfl) ?_
    refine va_slen hx hb hX hbl hbA hS dL_law_26 ?_
    refine lv_iconst (v := 5) hx hb dL_law_27 (by decide) ?_
    refine lv_isub hx hb dL_law_28 ?_
    have e5 : (nI L - 5 : Int32).toInt = (L : Int) - 5 := pk_sub_toInt (b := 5) (by omega) (by decide)
    have e6 : (nI (5 * t)).toInt = ((5 * t : Nat) : Int) := nI_toInt (by omega)
    refine lv_icmp_gt (tgt := 1207) hx hb dL_law_29 (by decide) (fun c1 => ?_) (fun c1 => absurd (show nI L - 5 < nI (5 * t) from by rw [tm_lt]; omega) c1)
    refine va_forget hS.2.2 (W.widen (k := 601024) (n := 7293034) (by omega) (by omega) ?_)
    refine lv_iconst (v := 1) hx hb dL_law_1207 (by decide) ?_
    exact lw_ret C1.1 C1.2.1 C1.2.2.1 C1.2.2.2.2.2.2.2.2.1 dL_law_1208
  | succ f ih =>
    intro t n ad I o H locs cells slots ls h1 h2 hW0 hc1 hc2 hl hR
    obtain ⟨hP, hD, hS⟩ := id hW0
    have hl' : lv_has ls 7 [(4, .int (nI (5 * t))), (3, .ref (ad 13)), (2, .ref (ad 2)), (1, .ref (ad 0)), (0, .ref b)] := hl
    refine lv_iload hx hb dL_law_23 (lv_at hl' 0 rfl) ?_
    refine lv_aload_n hx hb dL_law_25 rfl (lv_at hl' 4 rfl) ?_
    refine va_slen hx hb hX hbl hbA hS dL_law_26 ?_
    refine lv_iconst (v := 5) hx hb dL_law_27 (by decide) ?_
    refine lv_isub hx hb dL_law_28 ?_
    have e5 : (nI L - 5 : Int32).toInt = (L : Int) - 5 := pk_sub_toInt (b := 5) (by omega) (by decide)
    have e6 : (nI (5 * t)).toInt = ((5 * t : Nat) : Int) := nI_toInt (by omega)
    refine lv_icmp_gt (tgt := 1207) hx hb dL_law_29 (by decide) (fun c1 => ?_) (fun c1 => ?_)
    · refine va_forget hS.2.2 (W.widen (k := 601024) (n := 7293034) (by omega) (by omega) ?_)
      refine lv_iconst (v := 1) hx hb dL_law_1207 (by decide) ?_
      exact lw_ret C1.1 C1.2.1 C1.2.2.1 C1.2.2.2.2.2.2.2.2.1 dL_law_1208
    · have hi : 5 * t + 5 ≤ L := by
        have c2 : ¬ (nI L - 5 : Int32).toInt < (nI (5 * t)).toInt := fun q => c1 (tm_lt.mpr q)
        omega
      refine lx_step l hlt (tp_cx C1) hi hL hE hK hW0 ⟨by omega, by omega⟩ hl hR (fun n2 ad2 I2 o1 H1 locs1 ls1 q1 q2 q3 => ?_)
      have q3' : lv_has ls1 7 [(4, .int (nI (5 * t))), (3, .ref (ad2 13)), (2, .ref (ad2 2)), (1, .ref (ad2 0)), (0, .ref b)] := q3
      refine lv_iinc (v := nI (5 * (t + 1))) (lv' := tp_lv b ad2 (5 * (t + 1))) hx hb dL_law_1201 q3' (k := 0) rfl (nI_add (5 * t) 5) (by decide) rfl (fun ls hl => ?_)
      refine lv_goto (tgt := 23) hx hb dL_law_1204 (by decide) ?_
      exact ih (t + 1) n2 ad2 I2 o1 H1 locs1 _ _ ls (by omega) hi q2 (by omega) (by omega) hl q1

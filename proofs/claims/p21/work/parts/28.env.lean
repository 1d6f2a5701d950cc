/-! THE LAW'S START: what holds of the machine before the first instruction -/
set_option maxRecDepth 100000 in
theorem te_strw : ∀ q ∈ tp_strs, Cond.stringRef "TaperOffice" q.1 q.2 ∈ lw_tbl := by decide +kernel
set_option maxRecDepth 100000 in
theorem te_nww : ∀ w ∈ tp_nws, w ∈ lw_tbl := by decide +kernel
set_option maxRecDepth 100000 in
theorem te_strx : ∀ q ∈ tp_strs, Cond.exactly (.string "TaperOffice" q.1) "java/lang/String" ∈ flatC (Jvm.Cond.and given_1 narrow_1) := by decide +kernel
set_option maxRecDepth 100000 in
theorem te_ncw : ∀ q ∈ tp_ncs, Cond.not (Cond.castable q.1 q.2) ∈ flatC (Jvm.Cond.and given_1 narrow_1) := by decide +kernel
abbrev te_L : Term := .static "TaperOffice" "LEAST_VALUES" "[I"
abbrev te_M : Term := .static "TaperOffice" "MOST_VALUES" "[I"
set_option maxRecDepth 100000 in
theorem te_el : ∀ j, j < 5 → Cond.eq (.elem te_L (.int (Int32.ofNat j))) (.int (tp_vl j)) ∈ flatC (Jvm.Cond.and given_1 narrow_1) ∧ Cond.eq (.elem te_M (.int (Int32.ofNat j))) (.int (tp_vm j)) ∈ flatC (Jvm.Cond.and given_1 narrow_1) := by decide +kernel
set_option maxRecDepth 100000 in
theorem te_rest : ∀ w ∈ ([Cond.isRef (.static Bundle.tN "UNASSIGNED_STACK" Bundle.steD), Cond.isRef (.static Bundle.tN "SUPPRESSED_SENTINEL" Bundle.listD), Cond.arrayOf te_L .int, Cond.arrayOf te_M .int, Cond.eq (.length te_L) (.int (Int32.ofNat 5)), Cond.eq (.length te_M) (.int (Int32.ofNat 5))] : List Cond), w ∈ flatC (Jvm.Cond.and given_1 narrow_1) := by decide +kernel
set_option maxRecDepth 100000 in
theorem te_tbl : ∀ w ∈ ([Cond.laysStatic Bundle.tN "UNASSIGNED_STACK" Bundle.steD, Cond.laysStatic Bundle.tN "SUPPRESSED_SENTINEL" Bundle.listD, Cond.initialized Bundle.tN, Cond.laysStatic "TaperOffice" "LEAST_VALUES" "[I", Cond.laysStatic "TaperOffice" "MOST_VALUES" "[I", Cond.initialized "TaperOffice", Cond.arrayOver (.array .int), Cond.arrayOver (.object "TaperOffice$Household"), Cond.arrayClass .int, Cond.instantiable RX0 9, Cond.instantiable RX1 3, Cond.classLink RL 11 RX1, Cond.initialized RX1, Cond.methodLink RL 113 yX1_init, Cond.instanceMethod yX1_init] : List Cond), w ∈ lw_tbl := by decide +kernel
theorem te_env {s : State} {b : Nat} (hts : ∀ w ∈ lw_tbl, w.before #[Value.ref b] s = true) (hgv : (Jvm.Cond.and given_1 narrow_1).before #[Value.ref b] s = true) : ∃ (sa : Nat → Nat) (tL tM : Nat), tp_EV sa tL tM (tp_Al s) s s.heap := by
  have hn := flat_of_before _ hgv
  have hA : ∀ a : Nat, a < s.heap.size → ¬ tp_Al s a := fun a h => Nat.not_le.mpr h
  have hr := fun w h => hn w (te_rest w h)
  have ht := fun w h => hts w (te_tbl w h)
  have hex : ∀ k : Nat, ∃ a : Nat, (∃ tx, (k, tx) ∈ tp_strs) → (Term.string "TaperOffice" k).eval #[Value.ref b] s none [] s = some (.ref a) := fun k => by
    by_cases h : ∃ tx, (k, tx) ∈ tp_strs
    · obtain ⟨tx, hk⟩ := h
      obtain ⟨a, c, cA, kA, q1, -⟩ := Cond.exactly_spec (args := #[Value.ref b]) (first := s) (o := none) (s := s) (idx := []) (t := .string "TaperOffice" k) (cls := "java/lang/String") (hn _ (te_strx (k, tx) hk))
      exact ⟨a, fun _ => q1⟩
    · exact ⟨0, fun q => absurd q h⟩
  obtain ⟨sa, hsa⟩ := Classical.axiomOfChoice hex
  obtain ⟨tL, l1, l2⟩ := va_Tof (args := #[Value.ref b]) (s := s) (tm := te_L) (N := 5) (f := fun j => .int (tp_vl j)) (A := tp_Al s) (by decide) (hr _ (List.mem_of_getElem? (i := 2) rfl)) (va_eqt (hr _ (List.mem_of_getElem? (i := 4) rfl))) (fun j hj => va_eqt (hn _ (te_el j hj).1)) hA
  obtain ⟨tM, m1, m2⟩ := va_Tof (args := #[Value.ref b]) (s := s) (tm := te_M) (N := 5) (f := fun j => .int (tp_vm j)) (A := tp_Al s) (by decide) (hr _ (List.mem_of_getElem? (i := 3) rfl)) (va_eqt (hr _ (List.mem_of_getElem? (i := 5) rfl))) (fun j hj => va_eqt (hn _ (te_el j hj).2)) hA
  refine ⟨sa, tL, tM, ⟨vx_Zqof (ht _ (List.mem_of_getElem? (i := 0) rfl)) (ht _ (List.mem_of_getElem? (i := 2) rfl)) (hr _ (List.mem_of_getElem? (i := 0) rfl)) hA, vx_Zqof (ht _ (List.mem_of_getElem? (i := 1) rfl)) (ht _ (List.mem_of_getElem? (i := 2) rfl)) (hr _ (List.mem_of_getElem? (i := 1) rfl)) hA⟩,
    ⟨⟨va_Zref (ht _ (List.mem_of_getElem? (i := 3) rfl)) (ht _ (List.mem_of_getElem? (i := 5) rfl)) l1 hA, l2⟩, ⟨va_Zref (ht _ (List.mem_of_getElem? (i := 4) rfl)) (ht _ (List.mem_of_getElem? (i := 5) rfl)) m1 hA, m2⟩⟩, fun q hq => vk_R.of (hts _ (te_strw q hq)) (hsa q.1 ⟨q.2, hq⟩), fun w hw => va_Nw.of (tp_nwk_on (tp_nwk_ok w hw)) (hts _ (te_nww w hw)), fun q hq => va_Nc.of (hn _ (te_ncw q hq)), ?_, ?_⟩
  · exact ht _ (List.mem_of_getElem? (i := 6) rfl)
  · exact va_AO.of (ht _ (List.mem_of_getElem? (i := 7) rfl))
theorem te_K {s : State} {b : Nat} (hts : ∀ w ∈ lw_tbl, w.before #[Value.ref b] s = true) : ∃ (D : va_G) (cy : Nat → ClassId), va_K D vwCl (tp_ty cy) s := by
  have ht := fun w h => hts w (te_tbl w h)
  obtain ⟨c0, iS0, hKn0⟩ := u_known (C := RX0) (T := TX0) (N := 9) (n := 9) hts inX0 (ht _ (List.mem_of_getElem? (i := 9) rfl))
  obtain ⟨c1, iS1, hKn1⟩ := u_known (C := RX1) (T := TX1) (N := 3) (n := 3) hts inX1 (ht _ (List.mem_of_getElem? (i := 10) rfl))
  obtain ⟨aI, kI, pI, i1, i2, i3⟩ := Cond.arrayClass_spec (ht _ (List.mem_of_getElem? (i := 8) rfl))
  obtain ⟨pO, aO, kO, o1, o2, o3, o4, o5⟩ := Cond.arrayOver_spec (ht _ (List.mem_of_getElem? (i := 7) rfl))
  obtain ⟨pA, aA, kA, a1, a2, a3, a4, a5⟩ := arrayOverA_spec (ht _ (List.mem_of_getElem? (i := 6) rfl))
  refine ⟨(fun k => if k = 0 then c0 else c1, fun k => if k = 0 then iS0 else iS1), fun k => if k = 0 then aI else if k = 3 then aO else aA, fun k q hq => ?_, fun k q hq => ?_⟩
  · match k, hq with
    | 0, hq => cases hq; exact hKn0
    | 1, hq => cases hq; exact hKn1
    | k + 2, hq => simp [vwCl] at hq
  · match k, hq with
    | 0, hq => cases hq; exact ⟨fun N z => ⟨fun k h => (by cases h), kI, i2, pI, i3⟩, i1⟩
    | 1, hq => cases hq; exact ⟨fun N z => ⟨fun k h => (by cases h), kI, i2, pI, i3⟩, i1⟩
    | 2, hq => cases hq; exact ⟨fun N z => ⟨fun k h => (by cases h), kI, i2, pI, i3⟩, i1⟩
    | 3, hq => cases hq; exact ⟨fun N z => ⟨fun k h => (by cases h), kO, o3, pO, o4⟩, kO, pO, o3, o4, o1, o5⟩
    | 4, hq => cases hq; exact ⟨fun N z => ⟨fun k h => (by cases h), kA, a3, pA, a4⟩, a5⟩
    | k + 5, hq => simp [tp_ty] at hq

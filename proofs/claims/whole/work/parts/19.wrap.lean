/-! THE LAW'S OWN METHODS: each calls the office and catches what it throws -/
def tp_L (l : Launch) (y : MethodName) (ws : List Cond) (fr lo mc ms : Nat) (D : va_G) (cy : Nat → ClassId) (n : Nat) (ad : Nat → Nat) (sa : Nat → Nat) (tL tM : Nat) (as : List Value) (I : Nat → Nat → Int32) (o : Int64) (r : Int32) (I' : Nat → Nat → Int32) (o' : Int64) : Prop :=
  ∀ sz : Nat, Met l y ws { frames := fr, cells := mc, slots := ms, locals := lo } (va_Pc as (tp_PE D cy n ad I o sa tL tM sz)) (va_Qi (fun x u => x = r ∧ u = I') (tp_B D cy n ad o' (va_A (tp_w cy n ad I o) sz)) (va_A (tp_w cy n ad I o) sz)) mc ms (va_A (tp_w cy n ad I o) sz)
section TPL
variable {D : va_G} {cy : Nat → ClassId} {n : Nat} {ad : Nat → Nat} {I : Nat → Nat → Int32} {o : Int64} {sa : Nat → Nat} {tL tM : Nat}
theorem tp_wD {A : Nat → Prop} {I' : Nat → Nat → Int32} {o' : Int64} (h : va_D A (tp_w cy n ad I o)) : va_D A (tp_w cy n ad I' o') := by
  have key : ∀ (k : Nat) (q : Nat × va_E), (tp_w cy n ad I' o')[k]? = some q → ∃ q', (tp_w cy n ad I o)[k]? = some q' ∧ q'.1 = q.1 := fun k q hk => by
    have hl := (List.getElem?_eq_some_iff.mp hk).1
    rw [tp_w_len] at hl
    rw [tp_at hl] at hk
    cases hk
    exact ⟨_, tp_at hl, rfl⟩
  refine ⟨fun i j p q hi hj e => ?_, fun k q hk => ?_⟩
  · obtain ⟨p', h1, e1⟩ := key i p hi
    obtain ⟨q', h2, e2⟩ := key j q hj
    exact h.1 i j p' q' h1 h2 (by rw [e1, e2, e])
  · obtain ⟨q', h1, e1⟩ := key k q hk
    rw [← e1]
    exact h.2 k q' h1
theorem tp_arrV1 {cA : ClassId} {f g : Nat → Value} (h : f 0 = g 0) : arrV cA 1 f = arrV cA 1 g := by
  unfold arrV
  congr 1
  congr 1
  funext i
  obtain ⟨i, hi⟩ := i
  obtain rfl : i = 0 := by omega
  exact h
theorem tp_w13 {H : Heap} {f : Nat → Int64} {x : Int64} (h : va_P D vwCl ((tp_w cy n ad I o).set 13 (ad 13, .inl (cy 2, 1, .inr (.inl f)))) H) (hf : f 0 = x) : va_P D vwCl (tp_w cy n ad I x) H := by
  have h13 : ((tp_w cy n ad I o).set 13 (ad 13, .inl (cy 2, 1, .inr (.inl f))))[13]? = some (ad 13, .inl (cy 2, 1, .inr (.inl f))) := by rw [List.getElem?_set_self (by rw [tp_w_len]; omega)]
  have h1 : H[ad 13]? = some (vp_cell (cy 2) (1, .inr (.inl f))) := h 13 _ h13
  rw [← tp_set13 (o := o)]
  intro k q hk
  by_cases e : k = 13
  · subst e
    rw [List.getElem?_set_self (by rw [tp_w_len]; omega)] at hk
    cases hk
    show H[ad 13]? = some (vp_cell (cy 2) (1, .inr (.inl (fun _ => x))))
    rw [h1, vp_cell_l, vp_cell_l]
    exact congrArg some (tp_arrV1 (by show Value.long (f 0) = Value.long x; rw [hf]))
  · rw [List.getElem?_set_ne (Ne.symm e)] at hk
    exact h k q (by rw [List.getElem?_set_ne (Ne.symm e)]; exact hk)
theorem tp_ofL {l : Launch} {y : MethodName} {ws ws' : List Cond} {fr lo mc ms : Nat} {I' : Nat → Nat → Int32} {o' : Int64} {as : List Value} {r : Int32} {cc : ByteArray} {maxL : Nat} {ret : Option FieldType} {hh : List (Nat × Nat × Nat × Nat)} {lv : List (Nat × Value)}
    (hy : plainName y.cls = true) (hw : ws = Cond.codeWith y cc maxL ret hh :: ws') (hlen : (lg_sl as).length ≤ maxL) (hlv : lv_args 0 as = lv)
    (body : ∀ (p : Program) (e : Env) (s : State) (m : MethodId) (args : Array Value) (below : List Frame) (meth : Method) (c : Code) (A : Nat → Prop) (ls : Array Slot), tp_S p s m args meth c y ws cc maxL ret D cy n ad o I A ls lv → tp_EV sa tL tM A s s.heap → c.exceptionTable.toList = tableOf hh →
      W p l e { frames := fr, cells := mc, slots := ms, locals := lo } s m args below meth c s.heap [] 0 0 (MQ below (va_Qi (fun x u => x = r ∧ u = I') (tp_B D cy n ad o' A) A) args s mc ms A) (F0 m 0 ls [])) :
    tp_L l y ws fr lo mc ms D cy n ad sa tL tM as I o r I' o' := by
  intro sz
  refine va_MetW (cc := cc) (maxL := maxL) (ret := ret) (hh := hh) hy hw ?_
  intro p e s m args below meth c s₁ B hml hv
  obtain ⟨rfl, ⟨hsz, hP, hK, hD0⟩, hE⟩ := hv
  subst hsz
  have hown : s.vm.findClass y.cls = some m.cls := findClass_of_methodNamed B.named
  have hD := hD0.self (sz := s.heap.size)
  generalize hAe : va_A (tp_w cy n ad I o) s.heap.size = A at hD hE ⊢
  have hA : ∀ q : Nat, s.heap.size ≤ q → A q := fun q h => by rw [← hAe]; exact Or.inr h
  have hl := lv_entry as (n := maxL) hlen
  rw [hlv] at hl
  rw [lg_entry_eq]
  have hts := atoms_spec (ws := ws) B.pre
  exact body p e s m _ below meth c A _ ⟨B.exec, B.bytes, B.returns, hml, hown, hts, B.notSynchronized, hA, hK, hP, hD, va_S.rf, hl⟩ hE (vx_table (x := y) B (hts _ (by rw [hw]; exact List.mem_cons_self)))
section TPLR
variable {p : Program} {l : Launch} {e : Env} {R : Room} {s : State} {m : MethodId} {args : Array Value} {below : List Frame} {meth : Method} {c : Code} {H : Heap} {locs : List Loc} {cells slots : Nat} {Q : State → Prop}
variable {cc : ByteArray} {pc : Nat} {ls : Array Slot} {rest : List Value} {A : Nat → Prop} {H0 : Heap}
theorem tp_retL {I1 I' : Nat → Nat → Int32} {o' : Int64} {v r : Int32} {ty : FieldType} (hx : p.tables.exec = Jvm.exec) (hb : c.code = cc) (hr : meth.sig.returnType = some ty) (hlocks : meth.locks = false) (hK : va_K D vwCl (tp_ty cy) s) (hP : va_P D vwCl (tp_w cy n ad I1 o') H) (hD : va_D A (tp_w cy n ad I1 o')) (hS : va_S A s.heap H locs) (hn : narrow ty (.int v) = .int v) (ev : v = r) (eI : I1 = I') (hdg : decode cc pc = .ok (.ireturn, 1)) :
    W p l e R s m args below meth c H locs cells slots (MQ below (va_Qi (fun x u => x = r ∧ u = I') (tp_B D cy n ad o' A) A) args s cells slots A) (F0 m pc ls [.int v]) := by
  subst ev
  subst eI
  exact W.zret (v := v) hx hb hr hn (fun t ht hW => ⟨⟨v, I1, rfl, ⟨rfl, rfl⟩, by rw [ht]; exact hP, va_K.moved hW.alike hK, hD⟩, hS.F ht⟩) hS.2.2 hdg
theorem tp_callE {own C : String} {index nA nL maxL fr lo : Nat} {y : MethodName} {bytes : ByteArray} {ret : Option FieldType} {ws Ts : List Cond} {b : Nat} {As st fs : List Value} {r : Int32} {I' : Nat → Nat → Int32} {q : vw_C}
    (S : CallFix p m c cc nL s args Ts own) (hM : tp_IE l y ws (tp_rm fr lo) D cy n ad o sa tL tM (.ref b :: As) I r I') (cw : CallW R s args own C index y bytes maxL ret ws (tp_rm fr lo) 0 0 nA) (hE : tp_EV sa tL tM A s s.heap) (hK : va_K D vwCl (tp_ty cy) s) (hP : va_P D vwCl (tp_w cy n ad I o) H) (hD : va_D A (tp_w cy n ad I o)) (hS : va_S A s.heap H locs) (hA : ∀ q : Nat, s.heap.size ≤ q → A q)
    (k0 ci : Nat) (he : (tp_w cy n ad I o)[k0]? = some (b, .inr (ci, fs))) (hci : vwCl[ci]? = some q) (hqC : q.1 = C) (hn : As.length = nA) (hls : ls.size = nL) (hst : st = As.reverse ++ .ref b :: rest) (hroom : (rest.map fun v => v.category).sum ≤ 8) (hdg : decode cc pc = .ok (.invokevirtual index, 3)) (hcs : cells ≤ R.cells ∧ slots ≤ R.slots)
    (kk : ∀ I1 : Nat → Nat → Int32, I' = I1 → ∀ (H1 : Heap) (locs1 : List Loc), va_P D vwCl (tp_w cy n ad I1 o) H1 → va_D A (tp_w cy n ad I1 o) → va_S A s.heap H1 locs1 → W p l e R s m args below meth c H1 locs1 cells slots Q (F0 m (pc + 3) ls (.int r :: rest))) : W p l e R s m args below meth c H locs cells slots Q (F0 m pc ls st) := by
  subst hst
  subst hqC
  have hF := tp_fr hD hS hA
  refine va_calli (va_runV (As := As) (rest := rest) S (hM H.size) cw ⟨tp_blindE, va_recv hK hP hci he, fun U hU hW => ⟨rfl, ⟨by rw [hU], by rw [hU]; exact hP, va_K.moved hW.alike hK, hD.weaken (fun _ _ _ _ => trivial)⟩, tp_EV.go hE hW hU hS hF⟩⟩ rfl hn hls rfl (lv_room hroom) hdg hcs) hS (fun q _ h => hF q h) hF (fun r1 u t H1 locs1 ht hvm hw hB hz1 hk1 hS1 => ?_)
  obtain ⟨rfl, rfl⟩ := hw
  obtain ⟨hP1, hK1, hD1⟩ := hB
  rw [ht] at hP1
  exact kk _ rfl H1 locs1 hP1 (hD1.weaken (fun _ _ _ h => hF _ h)) hS1
theorem tp_lst {x : Int64} (hx : p.tables.exec = Jvm.exec) (hb : c.code = cc) (hK : va_K D vwCl (tp_ty cy) s) (hP : va_P D vwCl (tp_w cy n ad I o) H) (hD : va_D A (tp_w cy n ad I o)) (hS : va_S A H0 H locs) (hdg : decode cc pc = .ok (.lastore, 1))
    (kk : ∀ (H1 : Heap) (locs1 : List Loc), va_P D vwCl (tp_w cy n ad I x) H1 → va_D A (tp_w cy n ad I x) → va_S A H0 H1 locs1 → W p l e R s m args below meth c H1 locs1 cells slots Q (F0 m (pc + 1) ls rest)) : W p l e R s m args below meth c H locs cells slots Q (F0 m pc ls (.long x :: .int 0 :: .ref (ad 13) :: rest)) :=
  va_last hx hb hK hP hD hS 13 2 (tp_at (by omega)) rfl (vp_in_nI (n := 0) (by decide) (by decide)) hdg (fun H1 locs1 hP1 hD1 hS1 => kk H1 locs1 (tp_w13 hP1 (if_pos rfl)) (tp_wD hD) hS1)
end TPLR
end TPL
set_option maxHeartbeats 4000000 in
set_option maxRecDepth 100000 in
/-- the law's debt: no -/
theorem lp_debt_no (l : Launch) (D : va_G) (cy : Nat → ClassId) (n : Nat) (ad : Nat → Nat) (o : Int64) (I : Nat → Nat → Int32) (sa : Nat → Nat) (tL tM : Nat) (hlt : l.stackTraces = false) (x : Int32) (hx0 : ∀ i, i < n → x ≠ nI i) (hn6 : n ≤ 6) : tp_L l yL_debt wsL_debt 8 133 1 6 D cy n ad sa tL tM [.ref (ad 0), .int x, .ref (ad 13)] I o 1 (I) (o) := by
  refine tp_ofL (lv := [(0, .ref (ad 0)), (1, .int x), (2, .ref (ad 13))]) (by decide) rfl (Nat.le_of_ble_eq_true rfl) rfl (fun p e s m args below meth c A ls S0 hE htb => ?_)
  obtain ⟨hx, hb, hr, hml, hown, hts, hlocks, hA, hK, hP, hD, hS, hl⟩ := S0
  obtain ⟨-, -, -, hEw, hEc, -, -⟩ := id hE
  refine lv_aload_n hx hb dL_debt_0 rfl (lv_at hl 2 rfl) ?_
  refine lv_iconst (v := 0) hx hb dL_debt_1 (by decide) ?_
  refine lv_aload_n hx hb dL_debt_2 rfl (lv_at hl 0 rfl) ?_
  refine lv_iload_n hx hb dL_debt_3 rfl (lv_at hl 1 rfl) ?_
  refine tp_callVT ⟨hx, hb, hml, hown, hts⟩ (op_debt_no l D cy n ad o I sa tL tM hlt x hx0 hn6) (cwV 1 hts gL_debt_X1_debt rfl rfl rfl (by decide +kernel) ⟨(Nat.le_of_ble_eq_true rfl), (Nat.le_of_ble_eq_true rfl)⟩) hE hK hP hD hS hA 0 1 tp_e0 rfl rfl rfl hl.1 rfl (Nat.le_of_ble_eq_true rfl) dL_debt_4 ⟨(Nat.le_of_ble_eq_true rfl), (Nat.le_of_ble_eq_true rfl)⟩ (fun ce q9 H locs hce hcv hcl hP hD hS => ?_)
  refine vx_catch (own := RL) (E := "java/lang/IndexOutOfBoundsException") (name := "java/lang/IndexOutOfBoundsException") hown [] ⟨0, 9, 12, 19⟩ [] htb (fun z hz => nomatch hz) (by decide) (by decide) (hts _ (List.mem_of_getElem? (i := 1) rfl)) (va_Nw.use rfl (hEw _ (List.mem_of_getElem? (i := 19) rfl))) hce hcv hcl ?_
  refine lv_astore_n (lv' := [(3, .ref q9), (0, .ref (ad 0)), (1, .int x), (2, .ref (ad 13))]) hx hb dL_debt_12 rfl hl (by decide) rfl (fun ls hl => ?_)
  refine lv_iconst (v := 1) hx hb dL_debt_13 (by decide) ?_
  exact tp_retL hx hb hr hlocks hK hP hD hS rfl rfl rfl dL_debt_14
set_option maxHeartbeats 4000000 in
set_option maxRecDepth 100000 in
/-- the law's recovered: no -/
theorem lp_recovered_no (l : Launch) (D : va_G) (cy : Nat → ClassId) (n : Nat) (ad : Nat → Nat) (o : Int64) (I : Nat → Nat → Int32) (sa : Nat → Nat) (tL tM : Nat) (hlt : l.stackTraces = false) (x : Int32) (hx0 : ∀ i, i < n → x ≠ nI i) (hn6 : n ≤ 6) : tp_L l yL_recovered wsL_recovered 8 133 1 6 D cy n ad sa tL tM [.ref (ad 0), .int x, .ref (ad 13)] I o 1 (I) (o) := by
  refine tp_ofL (lv := [(0, .ref (ad 0)), (1, .int x), (2, .ref (ad 13))]) (by decide) rfl (Nat.le_of_ble_eq_true rfl) rfl (fun p e s m args below meth c A ls S0 hE htb => ?_)
  obtain ⟨hx, hb, hr, hml, hown, hts, hlocks, hA, hK, hP, hD, hS, hl⟩ := S0
  obtain ⟨-, -, -, hEw, hEc, -, -⟩ := id hE
  refine lv_aload_n hx hb dL_recovered_0 rfl (lv_at hl 2 rfl) ?_
  refine lv_iconst (v := 0) hx hb dL_recovered_1 (by decide) ?_
  refine lv_aload_n hx hb dL_recovered_2 rfl (lv_at hl 0 rfl) ?_
  refine lv_iload_n hx hb dL_recovered_3 rfl (lv_at hl 1 rfl) ?_
  refine tp_callVT ⟨hx, hb, hml, hown, hts⟩ (op_recovered_no l D cy n ad o I sa tL tM hlt x hx0 hn6) (cwV 1 hts gL_recovered_X1_recovered rfl rfl rfl (by decide +kernel) ⟨(Nat.le_of_ble_eq_true rfl), (Nat.le_of_ble_eq_true rfl)⟩) hE hK hP hD hS hA 0 1 tp_e0 rfl rfl rfl hl.1 rfl (Nat.le_of_ble_eq_true rfl) dL_recovered_4 ⟨(Nat.le_of_ble_eq_true rfl), (Nat.le_of_ble_eq_true rfl)⟩ (fun ce q9 H locs hce hcv hcl hP hD hS => ?_)
  refine vx_catch (own := RL) (E := "java/lang/IndexOutOfBoundsException") (name := "java/lang/IndexOutOfBoundsException") hown [] ⟨0, 9, 12, 19⟩ [] htb (fun z hz => nomatch hz) (by decide) (by decide) (hts _ (List.mem_of_getElem? (i := 1) rfl)) (va_Nw.use rfl (hEw _ (List.mem_of_getElem? (i := 19) rfl))) hce hcv hcl ?_
  refine lv_astore_n (lv' := [(3, .ref q9), (0, .ref (ad 0)), (1, .int x), (2, .ref (ad 13))]) hx hb dL_recovered_12 rfl hl (by decide) rfl (fun ls hl => ?_)
  refine lv_iconst (v := 1) hx hb dL_recovered_13 (by decide) ?_
  exact tp_retL hx hb hr hlocks hK hP hD hS rfl rfl rfl dL_recovered_14
set_option maxHeartbeats 4000000 in
set_option maxRecDepth 100000 in
/-- the law's unassessed: no -/
theorem lp_unassessed_no (l : Launch) (D : va_G) (cy : Nat → ClassId) (n : Nat) (ad : Nat → Nat) (o : Int64) (I : Nat → Nat → Int32) (sa : Nat → Nat) (tL tM : Nat) (hlt : l.stackTraces = false) (x : Int32) (hx0 : ∀ i, i < n → x ≠ nI i) (hn6 : n ≤ 6) : tp_L l yL_unassessed wsL_unassessed 8 133 1 6 D cy n ad sa tL tM [.ref (ad 0), .int x, .ref (ad 13)] I o 1 (I) (o) := by
  refine tp_ofL (lv := [(0, .ref (ad 0)), (1, .int x), (2, .ref (ad 13))]) (by decide) rfl (Nat.le_of_ble_eq_true rfl) rfl (fun p e s m args below meth c A ls S0 hE htb => ?_)
  obtain ⟨hx, hb, hr, hml, hown, hts, hlocks, hA, hK, hP, hD, hS, hl⟩ := S0
  obtain ⟨-, -, -, hEw, hEc, -, -⟩ := id hE
  refine lv_aload_n hx hb dL_unassessed_0 rfl (lv_at hl 2 rfl) ?_
  refine lv_iconst (v := 0) hx hb dL_unassessed_1 (by decide) ?_
  refine lv_aload_n hx hb dL_unassessed_2 rfl (lv_at hl 0 rfl) ?_
  refine lv_iload_n hx hb dL_unassessed_3 rfl (lv_at hl 1 rfl) ?_
  refine tp_callVT ⟨hx, hb, hml, hown, hts⟩ (op_unassessed_no l D cy n ad o I sa tL tM hlt x hx0 hn6) (cwV 1 hts gL_unassessed_X1_unassessed rfl rfl rfl (by decide +kernel) ⟨(Nat.le_of_ble_eq_true rfl), (Nat.le_of_ble_eq_true rfl)⟩) hE hK hP hD hS hA 0 1 tp_e0 rfl rfl rfl hl.1 rfl (Nat.le_of_ble_eq_true rfl) dL_unassessed_4 ⟨(Nat.le_of_ble_eq_true rfl), (Nat.le_of_ble_eq_true rfl)⟩ (fun ce q9 H locs hce hcv hcl hP hD hS => ?_)
  refine vx_catch (own := RL) (E := "java/lang/IndexOutOfBoundsException") (name := "java/lang/IndexOutOfBoundsException") hown [] ⟨0, 9, 12, 19⟩ [] htb (fun z hz => nomatch hz) (by decide) (by decide) (hts _ (List.mem_of_getElem? (i := 1) rfl)) (va_Nw.use rfl (hEw _ (List.mem_of_getElem? (i := 19) rfl))) hce hcv hcl ?_
  refine lv_astore_n (lv' := [(3, .ref q9), (0, .ref (ad 0)), (1, .int x), (2, .ref (ad 13))]) hx hb dL_unassessed_12 rfl hl (by decide) rfl (fun ls hl => ?_)
  refine lv_iconst (v := 1) hx hb dL_unassessed_13 (by decide) ?_
  exact tp_retL hx hb hr hlocks hK hP hD hS rfl rfl rfl dL_unassessed_14
set_option maxHeartbeats 4000000 in
set_option maxRecDepth 100000 in
/-- the law's wouldPay: no -/
theorem lp_wouldPay_no (l : Launch) (D : va_G) (cy : Nat → ClassId) (n : Nat) (ad : Nat → Nat) (o : Int64) (I : Nat → Nat → Int32) (sa : Nat → Nat) (tL tM : Nat) (hlt : l.stackTraces = false) (x : Int32) (hx0 : ∀ i, i < n → x ≠ nI i) (hn6 : n ≤ 6) : tp_L l yL_wouldPay wsL_wouldPay 8 134 1 6 D cy n ad sa tL tM [.ref (ad 0), .int x, .ref (ad 13)] I o 1 (I) (o) := by
  refine tp_ofL (lv := [(0, .ref (ad 0)), (1, .int x), (2, .ref (ad 13))]) (by decide) rfl (Nat.le_of_ble_eq_true rfl) rfl (fun p e s m args below meth c A ls S0 hE htb => ?_)
  obtain ⟨hx, hb, hr, hml, hown, hts, hlocks, hA, hK, hP, hD, hS, hl⟩ := S0
  obtain ⟨-, -, -, hEw, hEc, -, -⟩ := id hE
  refine lv_aload_n hx hb dL_wouldPay_0 rfl (lv_at hl 2 rfl) ?_
  refine lv_iconst (v := 0) hx hb dL_wouldPay_1 (by decide) ?_
  refine lv_aload_n hx hb dL_wouldPay_2 rfl (lv_at hl 0 rfl) ?_
  refine lv_iload_n hx hb dL_wouldPay_3 rfl (lv_at hl 1 rfl) ?_
  refine tp_callVT ⟨hx, hb, hml, hown, hts⟩ (op_wouldPay_no l D cy n ad o I sa tL tM hlt x hx0 hn6) (cwV 1 hts gL_wouldPay_X1_wouldPay rfl rfl rfl (by decide +kernel) ⟨(Nat.le_of_ble_eq_true rfl), (Nat.le_of_ble_eq_true rfl)⟩) hE hK hP hD hS hA 0 1 tp_e0 rfl rfl rfl hl.1 rfl (Nat.le_of_ble_eq_true rfl) dL_wouldPay_4 ⟨(Nat.le_of_ble_eq_true rfl), (Nat.le_of_ble_eq_true rfl)⟩ (fun ce q9 H locs hce hcv hcl hP hD hS => ?_)
  refine vx_catch (own := RL) (E := "java/lang/IndexOutOfBoundsException") (name := "java/lang/IndexOutOfBoundsException") hown [] ⟨0, 9, 12, 19⟩ [] htb (fun z hz => nomatch hz) (by decide) (by decide) (hts _ (List.mem_of_getElem? (i := 1) rfl)) (va_Nw.use rfl (hEw _ (List.mem_of_getElem? (i := 19) rfl))) hce hcv hcl ?_
  refine lv_astore_n (lv' := [(3, .ref q9), (0, .ref (ad 0)), (1, .int x), (2, .ref (ad 13))]) hx hb dL_wouldPay_12 rfl hl (by decide) rfl (fun ls hl => ?_)
  refine lv_iconst (v := 1) hx hb dL_wouldPay_13 (by decide) ?_
  exact tp_retL hx hb hr hlocks hK hP hD hS rfl rfl rfl dL_wouldPay_14
set_option maxHeartbeats 4000000 in
set_option maxRecDepth 100000 in
/-- the law's debt: ok -/
theorem lp_debt_ok (l : Launch) (D : va_G) (cy : Nat → ClassId) (n : Nat) (ad : Nat → Nat) (o : Int64) (I : Nat → Nat → Int32) (sa : Nat → Nat) (tL tM : Nat) (hlt : l.stackTraces = false) (i : Nat) (hi : i < n) (hn6 : n ≤ 6) : tp_L l yL_debt wsL_debt 2 43 0 0 D cy n ad sa tL tM [.ref (ad 0), .int (nI i), .ref (ad 13)] I o 0 (I) ((I (14 + 15 * i) 6).toInt64) := by
  refine tp_ofL (lv := [(0, .ref (ad 0)), (1, .int (nI i)), (2, .ref (ad 13))]) (by decide) rfl (Nat.le_of_ble_eq_true rfl) rfl (fun p e s m args below meth c A ls S0 hE htb => ?_)
  obtain ⟨hx, hb, hr, hml, hown, hts, hlocks, hA, hK, hP, hD, hS, hl⟩ := S0
  obtain ⟨-, -, -, hEw, hEc, -, -⟩ := id hE
  refine lv_aload_n hx hb dL_debt_0 rfl (lv_at hl 2 rfl) ?_
  refine lv_iconst (v := 0) hx hb dL_debt_1 (by decide) ?_
  refine lv_aload_n hx hb dL_debt_2 rfl (lv_at hl 0 rfl) ?_
  refine lv_iload_n hx hb dL_debt_3 rfl (lv_at hl 1 rfl) ?_
  refine tp_callE ⟨hx, hb, hml, hown, hts⟩ (op_debt_ok l D cy n ad o I sa tL tM i hi hn6) (cwV 1 hts gL_debt_X1_debt rfl rfl rfl (by decide +kernel) ⟨(Nat.le_of_ble_eq_true rfl), (Nat.le_of_ble_eq_true rfl)⟩) hE hK hP hD hS hA 0 1 tp_e0 rfl rfl rfl hl.1 rfl (Nat.le_of_ble_eq_true rfl) dL_debt_4 ⟨Nat.zero_le _, Nat.zero_le _⟩ (fun I9 e9 H locs hP hD hS => ?_)
  subst e9
  refine lv_i2l hx hb dL_debt_7 rfl ?_
  refine tp_lst hx hb hK hP hD hS dL_debt_8 (fun H locs hP hD hS => ?_)
  refine lv_goto (tgt := 15) hx hb dL_debt_9 (by decide) ?_
  refine lv_iconst (v := 0) hx hb dL_debt_15 (by decide) ?_
  exact tp_retL hx hb hr hlocks hK hP hD hS rfl rfl rfl dL_debt_16
set_option maxHeartbeats 4000000 in
set_option maxRecDepth 100000 in
/-- the law's recovered: ok -/
theorem lp_recovered_ok (l : Launch) (D : va_G) (cy : Nat → ClassId) (n : Nat) (ad : Nat → Nat) (o : Int64) (I : Nat → Nat → Int32) (sa : Nat → Nat) (tL tM : Nat) (hlt : l.stackTraces = false) (i : Nat) (hi : i < n) (hn6 : n ≤ 6) : tp_L l yL_recovered wsL_recovered 2 43 0 0 D cy n ad sa tL tM [.ref (ad 0), .int (nI i), .ref (ad 13)] I o 0 (I) ((I (14 + 15 * i) 7).toInt64) := by
  refine tp_ofL (lv := [(0, .ref (ad 0)), (1, .int (nI i)), (2, .ref (ad 13))]) (by decide) rfl (Nat.le_of_ble_eq_true rfl) rfl (fun p e s m args below meth c A ls S0 hE htb => ?_)
  obtain ⟨hx, hb, hr, hml, hown, hts, hlocks, hA, hK, hP, hD, hS, hl⟩ := S0
  obtain ⟨-, -, -, hEw, hEc, -, -⟩ := id hE
  refine lv_aload_n hx hb dL_recovered_0 rfl (lv_at hl 2 rfl) ?_
  refine lv_iconst (v := 0) hx hb dL_recovered_1 (by decide) ?_
  refine lv_aload_n hx hb dL_recovered_2 rfl (lv_at hl 0 rfl) ?_
  refine lv_iload_n hx hb dL_recovered_3 rfl (lv_at hl 1 rfl) ?_
  refine tp_callE ⟨hx, hb, hml, hown, hts⟩ (op_recovered_ok l D cy n ad o I sa tL tM i hi hn6) (cwV 1 hts gL_recovered_X1_recovered rfl rfl rfl (by decide +kernel) ⟨(Nat.le_of_ble_eq_true rfl), (Nat.le_of_ble_eq_true rfl)⟩) hE hK hP hD hS hA 0 1 tp_e0 rfl rfl rfl hl.1 rfl (Nat.le_of_ble_eq_true rfl) dL_recovered_4 ⟨Nat.zero_le _, Nat.zero_le _⟩ (fun I9 e9 H locs hP hD hS => ?_)
  subst e9
  refine lv_i2l hx hb dL_recovered_7 rfl ?_
  refine tp_lst hx hb hK hP hD hS dL_recovered_8 (fun H locs hP hD hS => ?_)
  refine lv_goto (tgt := 15) hx hb dL_recovered_9 (by decide) ?_
  refine lv_iconst (v := 0) hx hb dL_recovered_15 (by decide) ?_
  exact tp_retL hx hb hr hlocks hK hP hD hS rfl rfl rfl dL_recovered_16
set_option maxHeartbeats 4000000 in
set_option maxRecDepth 100000 in
/-- the law's unassessed: ok -/
theorem lp_unassessed_ok (l : Launch) (D : va_G) (cy : Nat → ClassId) (n : Nat) (ad : Nat → Nat) (o : Int64) (I : Nat → Nat → Int32) (sa : Nat → Nat) (tL tM : Nat) (hlt : l.stackTraces = false) (i : Nat) (hi : i < n) (hn6 : n ≤ 6) (a0 e0 : Nat) (ha : I (14 + 15 * i) 3 = nI a0) (he : I 0 2 = nI e0) (ha8 : a0 ≤ 48) (he8 : e0 ≤ 48) : tp_L l yL_unassessed wsL_unassessed 5 110 0 0 D cy n ad sa tL tM [.ref (ad 0), .int (nI i), .ref (ad 13)] I o 0 (I) ((tp_open I (14 + 15 * i) a0 e0).toInt64) := by
  refine tp_ofL (lv := [(0, .ref (ad 0)), (1, .int (nI i)), (2, .ref (ad 13))]) (by decide) rfl (Nat.le_of_ble_eq_true rfl) rfl (fun p e s m args below meth c A ls S0 hE htb => ?_)
  obtain ⟨hx, hb, hr, hml, hown, hts, hlocks, hA, hK, hP, hD, hS, hl⟩ := S0
  obtain ⟨-, -, -, hEw, hEc, -, -⟩ := id hE
  refine lv_aload_n hx hb dL_unassessed_0 rfl (lv_at hl 2 rfl) ?_
  refine lv_iconst (v := 0) hx hb dL_unassessed_1 (by decide) ?_
  refine lv_aload_n hx hb dL_unassessed_2 rfl (lv_at hl 0 rfl) ?_
  refine lv_iload_n hx hb dL_unassessed_3 rfl (lv_at hl 1 rfl) ?_
  refine tp_callE ⟨hx, hb, hml, hown, hts⟩ (op_unassessed_ok l D cy n ad o I sa tL tM i hi hn6 a0 e0 ha he ha8 he8) (cwV 1 hts gL_unassessed_X1_unassessed rfl rfl rfl (by decide +kernel) ⟨(Nat.le_of_ble_eq_true rfl), (Nat.le_of_ble_eq_true rfl)⟩) hE hK hP hD hS hA 0 1 tp_e0 rfl rfl rfl hl.1 rfl (Nat.le_of_ble_eq_true rfl) dL_unassessed_4 ⟨Nat.zero_le _, Nat.zero_le _⟩ (fun I9 e9 H locs hP hD hS => ?_)
  subst e9
  refine lv_i2l hx hb dL_unassessed_7 rfl ?_
  refine tp_lst hx hb hK hP hD hS dL_unassessed_8 (fun H locs hP hD hS => ?_)
  refine lv_goto (tgt := 15) hx hb dL_unassessed_9 (by decide) ?_
  refine lv_iconst (v := 0) hx hb dL_unassessed_15 (by decide) ?_
  exact tp_retL hx hb hr hlocks hK hP hD hS rfl rfl rfl dL_unassessed_16
set_option maxHeartbeats 4000000 in
set_option maxRecDepth 100000 in
/-- the law's wouldPay: ok -/
theorem lp_wouldPay_ok (l : Launch) (D : va_G) (cy : Nat → ClassId) (n : Nat) (ad : Nat → Nat) (o : Int64) (I : Nat → Nat → Int32) (sa : Nat → Nat) (tL tM : Nat) (hlt : l.stackTraces = false) (i : Nat) (hi : i < n) (hn6 : n ≤ 6) (a0 e0 : Nat) (ha : I (14 + 15 * i) 3 = nI a0) (he : I 0 2 = nI e0) (ha8 : a0 ≤ 48) (he8 : e0 < 48) : tp_L l yL_wouldPay wsL_wouldPay 6 136 0 0 D cy n ad sa tL tM [.ref (ad 0), .int (nI i), .ref (ad 13)] I o 0 (I) ((tp_paym I (14 + 15 * i) a0 e0).toInt64) := by
  refine tp_ofL (lv := [(0, .ref (ad 0)), (1, .int (nI i)), (2, .ref (ad 13))]) (by decide) rfl (Nat.le_of_ble_eq_true rfl) rfl (fun p e s m args below meth c A ls S0 hE htb => ?_)
  obtain ⟨hx, hb, hr, hml, hown, hts, hlocks, hA, hK, hP, hD, hS, hl⟩ := S0
  obtain ⟨-, -, -, hEw, hEc, -, -⟩ := id hE
  refine lv_aload_n hx hb dL_wouldPay_0 rfl (lv_at hl 2 rfl) ?_
  refine lv_iconst (v := 0) hx hb dL_wouldPay_1 (by decide) ?_
  refine lv_aload_n hx hb dL_wouldPay_2 rfl (lv_at hl 0 rfl) ?_
  refine lv_iload_n hx hb dL_wouldPay_3 rfl (lv_at hl 1 rfl) ?_
  refine tp_callE ⟨hx, hb, hml, hown, hts⟩ (op_wouldPay_ok l D cy n ad o I sa tL tM i hi hn6 a0 e0 ha he ha8 he8) (cwV 1 hts gL_wouldPay_X1_wouldPay rfl rfl rfl (by decide +kernel) ⟨(Nat.le_of_ble_eq_true rfl), (Nat.le_of_ble_eq_true rfl)⟩) hE hK hP hD hS hA 0 1 tp_e0 rfl rfl rfl hl.1 rfl (Nat.le_of_ble_eq_true rfl) dL_wouldPay_4 ⟨Nat.zero_le _, Nat.zero_le _⟩ (fun I9 e9 H locs hP hD hS => ?_)
  subst e9
  refine lv_i2l hx hb dL_wouldPay_7 rfl ?_
  refine tp_lst hx hb hK hP hD hS dL_wouldPay_8 (fun H locs hP hD hS => ?_)
  refine lv_goto (tgt := 15) hx hb dL_wouldPay_9 (by decide) ?_
  refine lv_iconst (v := 0) hx hb dL_wouldPay_15 (by decide) ?_
  exact tp_retL hx hb hr hlocks hK hP hD hS rfl rfl rfl dL_wouldPay_16
set_option maxHeartbeats 4000000 in
set_option maxRecDepth 100000 in
/-- the law's wouldPay: end -/
theorem lp_wouldPay_end (l : Launch) (D : va_G) (cy : Nat → ClassId) (n : Nat) (ad : Nat → Nat) (o : Int64) (I : Nat → Nat → Int32) (sa : Nat → Nat) (tL tM : Nat) (hlt : l.stackTraces = false) (i : Nat) (hi : i < n) (hn6 : n ≤ 6) (a0 e0 : Nat) (ha : I (14 + 15 * i) 3 = nI a0) (he : I 0 2 = nI e0) (ha8 : a0 ≤ 48) (he8 : e0 = 48) : tp_L l yL_wouldPay wsL_wouldPay 2 44 0 0 D cy n ad sa tL tM [.ref (ad 0), .int (nI i), .ref (ad 13)] I o 0 (I) ((0).toInt64) := by
  refine tp_ofL (lv := [(0, .ref (ad 0)), (1, .int (nI i)), (2, .ref (ad 13))]) (by decide) rfl (Nat.le_of_ble_eq_true rfl) rfl (fun p e s m args below meth c A ls S0 hE htb => ?_)
  obtain ⟨hx, hb, hr, hml, hown, hts, hlocks, hA, hK, hP, hD, hS, hl⟩ := S0
  obtain ⟨-, -, -, hEw, hEc, -, -⟩ := id hE
  refine lv_aload_n hx hb dL_wouldPay_0 rfl (lv_at hl 2 rfl) ?_
  refine lv_iconst (v := 0) hx hb dL_wouldPay_1 (by decide) ?_
  refine lv_aload_n hx hb dL_wouldPay_2 rfl (lv_at hl 0 rfl) ?_
  refine lv_iload_n hx hb dL_wouldPay_3 rfl (lv_at hl 1 rfl) ?_
  refine tp_callE ⟨hx, hb, hml, hown, hts⟩ (op_wouldPay_end l D cy n ad o I sa tL tM i hi hn6 a0 e0 ha he ha8 he8) (cwV 1 hts gL_wouldPay_X1_wouldPay rfl rfl rfl (by decide +kernel) ⟨(Nat.le_of_ble_eq_true rfl), (Nat.le_of_ble_eq_true rfl)⟩) hE hK hP hD hS hA 0 1 tp_e0 rfl rfl rfl hl.1 rfl (Nat.le_of_ble_eq_true rfl) dL_wouldPay_4 ⟨Nat.zero_le _, Nat.zero_le _⟩ (fun I9 e9 H locs hP hD hS => ?_)
  subst e9
  refine lv_i2l hx hb dL_wouldPay_7 rfl ?_
  refine tp_lst hx hb hK hP hD hS dL_wouldPay_8 (fun H locs hP hD hS => ?_)
  refine lv_goto (tgt := 15) hx hb dL_wouldPay_9 (by decide) ?_
  refine lv_iconst (v := 0) hx hb dL_wouldPay_15 (by decide) ?_
  exact tp_retL hx hb hr hlocks hK hP hD hS rfl rfl rfl dL_wouldPay_16
set_option maxHeartbeats 4000000 in
set_option maxRecDepth 100000 in
/-- the law's need: no -/
theorem lp_need_no (l : Launch) (D : va_G) (cy : Nat → ClassId) (n : Nat) (ad : Nat → Nat) (o : Int64) (I : Nat → Nat → Int32) (sa : Nat → Nat) (tL tM : Nat) (hlt : l.stackTraces = false) (x : Int32) (hx0 : ∀ i, i < n → x ≠ nI i) (hn6 : n ≤ 6) (k : Int32) : tp_L l yL_need wsL_need 8 135 1 6 D cy n ad sa tL tM [.ref (ad 0), .int x, .int k, .ref (ad 13)] I o 1 (I) (o) := by
  refine tp_ofL (lv := [(0, .ref (ad 0)), (1, .int x), (2, .int k), (3, .ref (ad 13))]) (by decide) rfl (Nat.le_of_ble_eq_true rfl) rfl (fun p e s m args below meth c A ls S0 hE htb => ?_)
  obtain ⟨hx, hb, hr, hml, hown, hts, hlocks, hA, hK, hP, hD, hS, hl⟩ := S0
  obtain ⟨-, -, -, hEw, hEc, -, -⟩ := id hE
  refine lv_aload_n hx hb dL_need_0 rfl (lv_at hl 3 rfl) ?_
  refine lv_iconst (v := 0) hx hb dL_need_1 (by decide) ?_
  refine lv_aload_n hx hb dL_need_2 rfl (lv_at hl 0 rfl) ?_
  refine lv_iload_n hx hb dL_need_3 rfl (lv_at hl 1 rfl) ?_
  refine lv_iload_n hx hb dL_need_4 rfl (lv_at hl 2 rfl) ?_
  refine tp_callVT ⟨hx, hb, hml, hown, hts⟩ (op_need_no l D cy n ad o I sa tL tM hlt x hx0 hn6 k) (cwV 2 hts gL_need_X1_need rfl rfl rfl (by decide +kernel) ⟨(Nat.le_of_ble_eq_true rfl), (Nat.le_of_ble_eq_true rfl)⟩) hE hK hP hD hS hA 0 1 tp_e0 rfl rfl rfl hl.1 rfl (Nat.le_of_ble_eq_true rfl) dL_need_5 ⟨(Nat.le_of_ble_eq_true rfl), (Nat.le_of_ble_eq_true rfl)⟩ (fun ce q9 H locs hce hcv hcl hP hD hS => ?_)
  refine vx_catch (own := RL) (E := "java/lang/IndexOutOfBoundsException") (name := "java/lang/IndexOutOfBoundsException") hown [] ⟨0, 10, 13, 19⟩ [] htb (fun z hz => nomatch hz) (by decide) (by decide) (hts _ (List.mem_of_getElem? (i := 1) rfl)) (va_Nw.use rfl (hEw _ (List.mem_of_getElem? (i := 19) rfl))) hce hcv hcl ?_
  refine lv_astore (lv' := [(4, .ref q9), (0, .ref (ad 0)), (1, .int x), (2, .int k), (3, .ref (ad 13))]) hx hb dL_need_13 hl (by decide) rfl (fun ls hl => ?_)
  refine lv_iconst (v := 1) hx hb dL_need_15 (by decide) ?_
  exact tp_retL hx hb hr hlocks hK hP hD hS rfl rfl rfl dL_need_16
set_option maxHeartbeats 4000000 in
set_option maxRecDepth 100000 in
/-- the law's need: nomonth -/
theorem lp_need_nomonth (l : Launch) (D : va_G) (cy : Nat → ClassId) (n : Nat) (ad : Nat → Nat) (o : Int64) (I : Nat → Nat → Int32) (sa : Nat → Nat) (tL tM : Nat) (hlt : l.stackTraces = false) (i : Nat) (hi : i < n) (hn6 : n ≤ 6) (x : Int32) (hx0 : ∀ j, j < 48 → x ≠ nI j) : tp_L l yL_need wsL_need 8 133 1 6 D cy n ad sa tL tM [.ref (ad 0), .int (nI i), .int x, .ref (ad 13)] I o 1 (I) (o) := by
  refine tp_ofL (lv := [(0, .ref (ad 0)), (1, .int (nI i)), (2, .int x), (3, .ref (ad 13))]) (by decide) rfl (Nat.le_of_ble_eq_true rfl) rfl (fun p e s m args below meth c A ls S0 hE htb => ?_)
  obtain ⟨hx, hb, hr, hml, hown, hts, hlocks, hA, hK, hP, hD, hS, hl⟩ := S0
  obtain ⟨-, -, -, hEw, hEc, -, -⟩ := id hE
  refine lv_aload_n hx hb dL_need_0 rfl (lv_at hl 3 rfl) ?_
  refine lv_iconst (v := 0) hx hb dL_need_1 (by decide) ?_
  refine lv_aload_n hx hb dL_need_2 rfl (lv_at hl 0 rfl) ?_
  refine lv_iload_n hx hb dL_need_3 rfl (lv_at hl 1 rfl) ?_
  refine lv_iload_n hx hb dL_need_4 rfl (lv_at hl 2 rfl) ?_
  refine tp_callVT ⟨hx, hb, hml, hown, hts⟩ (op_need_nomonth l D cy n ad o I sa tL tM hlt i hi hn6 x hx0) (cwV 2 hts gL_need_X1_need rfl rfl rfl (by decide +kernel) ⟨(Nat.le_of_ble_eq_true rfl), (Nat.le_of_ble_eq_true rfl)⟩) hE hK hP hD hS hA 0 1 tp_e0 rfl rfl rfl hl.1 rfl (Nat.le_of_ble_eq_true rfl) dL_need_5 ⟨(Nat.le_of_ble_eq_true rfl), (Nat.le_of_ble_eq_true rfl)⟩ (fun ce q9 H locs hce hcv hcl hP hD hS => ?_)
  refine vx_catch (own := RL) (E := "java/lang/IndexOutOfBoundsException") (name := "java/lang/IndexOutOfBoundsException") hown [] ⟨0, 10, 13, 19⟩ [] htb (fun z hz => nomatch hz) (by decide) (by decide) (hts _ (List.mem_of_getElem? (i := 1) rfl)) (va_Nw.use rfl (hEw _ (List.mem_of_getElem? (i := 19) rfl))) hce hcv hcl ?_
  refine lv_astore (lv' := [(4, .ref q9), (0, .ref (ad 0)), (1, .int (nI i)), (2, .int x), (3, .ref (ad 13))]) hx hb dL_need_13 hl (by decide) rfl (fun ls hl => ?_)
  refine lv_iconst (v := 1) hx hb dL_need_15 (by decide) ?_
  exact tp_retL hx hb hr hlocks hK hP hD hS rfl rfl rfl dL_need_16
set_option maxHeartbeats 4000000 in
set_option maxRecDepth 100000 in
/-- the law's need: ok -/
theorem lp_need_ok (l : Launch) (D : va_G) (cy : Nat → ClassId) (n : Nat) (ad : Nat → Nat) (o : Int64) (I : Nat → Nat → Int32) (sa : Nat → Nat) (tL tM : Nat) (hlt : l.stackTraces = false) (i : Nat) (hi : i < n) (hn6 : n ≤ 6) (m0 : Nat) (hm : m0 < 48) : tp_L l yL_need wsL_need 3 66 0 0 D cy n ad sa tL tM [.ref (ad 0), .int (nI i), .int (nI m0), .ref (ad 13)] I o 0 (I) ((tp_need I (14 + 15 * i) m0).toInt64) := by
  refine tp_ofL (lv := [(0, .ref (ad 0)), (1, .int (nI i)), (2, .int (nI m0)), (3, .ref (ad 13))]) (by decide) rfl (Nat.le_of_ble_eq_true rfl) rfl (fun p e s m args below meth c A ls S0 hE htb => ?_)
  obtain ⟨hx, hb, hr, hml, hown, hts, hlocks, hA, hK, hP, hD, hS, hl⟩ := S0
  obtain ⟨-, -, -, hEw, hEc, -, -⟩ := id hE
  refine lv_aload_n hx hb dL_need_0 rfl (lv_at hl 3 rfl) ?_
  refine lv_iconst (v := 0) hx hb dL_need_1 (by decide) ?_
  refine lv_aload_n hx hb dL_need_2 rfl (lv_at hl 0 rfl) ?_
  refine lv_iload_n hx hb dL_need_3 rfl (lv_at hl 1 rfl) ?_
  refine lv_iload_n hx hb dL_need_4 rfl (lv_at hl 2 rfl) ?_
  refine tp_callE ⟨hx, hb, hml, hown, hts⟩ (op_need_ok l D cy n ad o I sa tL tM i hi hn6 m0 hm) (cwV 2 hts gL_need_X1_need rfl rfl rfl (by decide +kernel) ⟨(Nat.le_of_ble_eq_true rfl), (Nat.le_of_ble_eq_true rfl)⟩) hE hK hP hD hS hA 0 1 tp_e0 rfl rfl rfl hl.1 rfl (Nat.le_of_ble_eq_true rfl) dL_need_5 ⟨Nat.zero_le _, Nat.zero_le _⟩ (fun I9 e9 H locs hP hD hS => ?_)
  subst e9
  refine lv_i2l hx hb dL_need_8 rfl ?_
  refine tp_lst hx hb hK hP hD hS dL_need_9 (fun H locs hP hD hS => ?_)
  refine lv_goto (tgt := 17) hx hb dL_need_10 (by decide) ?_
  refine lv_iconst (v := 0) hx hb dL_need_17 (by decide) ?_
  exact tp_retL hx hb hr hlocks hK hP hD hS rfl rfl rfl dL_need_18
set_option maxHeartbeats 4000000 in
set_option maxRecDepth 100000 in
/-- the law's taper: no -/
theorem lp_taper_no (l : Launch) (D : va_G) (cy : Nat → ClassId) (n : Nat) (ad : Nat → Nat) (o : Int64) (I : Nat → Nat → Int32) (sa : Nat → Nat) (tL tM : Nat) (hlt : l.stackTraces = false) (x : Int32) (hx0 : ∀ i, i < n → x ≠ nI i) (hn6 : n ≤ 6) (k : Int32) : tp_L l yL_taper wsL_taper 8 135 1 6 D cy n ad sa tL tM [.ref (ad 0), .int x, .int k, .ref (ad 13)] I o 1 (I) (o) := by
  refine tp_ofL (lv := [(0, .ref (ad 0)), (1, .int x), (2, .int k), (3, .ref (ad 13))]) (by decide) rfl (Nat.le_of_ble_eq_true rfl) rfl (fun p e s m args below meth c A ls S0 hE htb => ?_)
  obtain ⟨hx, hb, hr, hml, hown, hts, hlocks, hA, hK, hP, hD, hS, hl⟩ := S0
  obtain ⟨-, -, -, hEw, hEc, -, -⟩ := id hE
  refine lv_aload_n hx hb dL_taper_0 rfl (lv_at hl 3 rfl) ?_
  refine lv_iconst (v := 0) hx hb dL_taper_1 (by decide) ?_
  refine lv_aload_n hx hb dL_taper_2 rfl (lv_at hl 0 rfl) ?_
  refine lv_iload_n hx hb dL_taper_3 rfl (lv_at hl 1 rfl) ?_
  refine lv_iload_n hx hb dL_taper_4 rfl (lv_at hl 2 rfl) ?_
  refine tp_callVT ⟨hx, hb, hml, hown, hts⟩ (op_taper_no l D cy n ad o I sa tL tM hlt x hx0 hn6 k) (cwV 2 hts gL_taper_X1_taper rfl rfl rfl (by decide +kernel) ⟨(Nat.le_of_ble_eq_true rfl), (Nat.le_of_ble_eq_true rfl)⟩) hE hK hP hD hS hA 0 1 tp_e0 rfl rfl rfl hl.1 rfl (Nat.le_of_ble_eq_true rfl) dL_taper_5 ⟨(Nat.le_of_ble_eq_true rfl), (Nat.le_of_ble_eq_true rfl)⟩ (fun ce q9 H locs hce hcv hcl hP hD hS => ?_)
  refine vx_catch (own := RL) (E := "java/lang/IndexOutOfBoundsException") (name := "java/lang/IndexOutOfBoundsException") hown [] ⟨0, 10, 13, 19⟩ [] htb (fun z hz => nomatch hz) (by decide) (by decide) (hts _ (List.mem_of_getElem? (i := 1) rfl)) (va_Nw.use rfl (hEw _ (List.mem_of_getElem? (i := 19) rfl))) hce hcv hcl ?_
  refine lv_astore (lv' := [(4, .ref q9), (0, .ref (ad 0)), (1, .int x), (2, .int k), (3, .ref (ad 13))]) hx hb dL_taper_13 hl (by decide) rfl (fun ls hl => ?_)
  refine lv_iconst (v := 1) hx hb dL_taper_15 (by decide) ?_
  exact tp_retL hx hb hr hlocks hK hP hD hS rfl rfl rfl dL_taper_16
set_option maxHeartbeats 4000000 in
set_option maxRecDepth 100000 in
/-- the law's taper: nomonth -/
theorem lp_taper_nomonth (l : Launch) (D : va_G) (cy : Nat → ClassId) (n : Nat) (ad : Nat → Nat) (o : Int64) (I : Nat → Nat → Int32) (sa : Nat → Nat) (tL tM : Nat) (hlt : l.stackTraces = false) (i : Nat) (hi : i < n) (hn6 : n ≤ 6) (x : Int32) (hx0 : ∀ j, j < 48 → x ≠ nI j) : tp_L l yL_taper wsL_taper 8 133 1 6 D cy n ad sa tL tM [.ref (ad 0), .int (nI i), .int x, .ref (ad 13)] I o 1 (I) (o) := by
  refine tp_ofL (lv := [(0, .ref (ad 0)), (1, .int (nI i)), (2, .int x), (3, .ref (ad 13))]) (by decide) rfl (Nat.le_of_ble_eq_true rfl) rfl (fun p e s m args below meth c A ls S0 hE htb => ?_)
  obtain ⟨hx, hb, hr, hml, hown, hts, hlocks, hA, hK, hP, hD, hS, hl⟩ := S0
  obtain ⟨-, -, -, hEw, hEc, -, -⟩ := id hE
  refine lv_aload_n hx hb dL_taper_0 rfl (lv_at hl 3 rfl) ?_
  refine lv_iconst (v := 0) hx hb dL_taper_1 (by decide) ?_
  refine lv_aload_n hx hb dL_taper_2 rfl (lv_at hl 0 rfl) ?_
  refine lv_iload_n hx hb dL_taper_3 rfl (lv_at hl 1 rfl) ?_
  refine lv_iload_n hx hb dL_taper_4 rfl (lv_at hl 2 rfl) ?_
  refine tp_callVT ⟨hx, hb, hml, hown, hts⟩ (op_taper_nomonth l D cy n ad o I sa tL tM hlt i hi hn6 x hx0) (cwV 2 hts gL_taper_X1_taper rfl rfl rfl (by decide +kernel) ⟨(Nat.le_of_ble_eq_true rfl), (Nat.le_of_ble_eq_true rfl)⟩) hE hK hP hD hS hA 0 1 tp_e0 rfl rfl rfl hl.1 rfl (Nat.le_of_ble_eq_true rfl) dL_taper_5 ⟨(Nat.le_of_ble_eq_true rfl), (Nat.le_of_ble_eq_true rfl)⟩ (fun ce q9 H locs hce hcv hcl hP hD hS => ?_)
  refine vx_catch (own := RL) (E := "java/lang/IndexOutOfBoundsException") (name := "java/lang/IndexOutOfBoundsException") hown [] ⟨0, 10, 13, 19⟩ [] htb (fun z hz => nomatch hz) (by decide) (by decide) (hts _ (List.mem_of_getElem? (i := 1) rfl)) (va_Nw.use rfl (hEw _ (List.mem_of_getElem? (i := 19) rfl))) hce hcv hcl ?_
  refine lv_astore (lv' := [(4, .ref q9), (0, .ref (ad 0)), (1, .int (nI i)), (2, .int x), (3, .ref (ad 13))]) hx hb dL_taper_13 hl (by decide) rfl (fun ls hl => ?_)
  refine lv_iconst (v := 1) hx hb dL_taper_15 (by decide) ?_
  exact tp_retL hx hb hr hlocks hK hP hD hS rfl rfl rfl dL_taper_16
set_option maxHeartbeats 4000000 in
set_option maxRecDepth 100000 in
/-- the law's taper: ok -/
theorem lp_taper_ok (l : Launch) (D : va_G) (cy : Nat → ClassId) (n : Nat) (ad : Nat → Nat) (o : Int64) (I : Nat → Nat → Int32) (sa : Nat → Nat) (tL tM : Nat) (hlt : l.stackTraces = false) (i : Nat) (hi : i < n) (hn6 : n ≤ 6) (m0 : Nat) (hm : m0 < 48) : tp_L l yL_taper wsL_taper 3 66 0 0 D cy n ad sa tL tM [.ref (ad 0), .int (nI i), .int (nI m0), .ref (ad 13)] I o 0 (I) ((tp_taper I (14 + 15 * i) m0).toInt64) := by
  refine tp_ofL (lv := [(0, .ref (ad 0)), (1, .int (nI i)), (2, .int (nI m0)), (3, .ref (ad 13))]) (by decide) rfl (Nat.le_of_ble_eq_true rfl) rfl (fun p e s m args below meth c A ls S0 hE htb => ?_)
  obtain ⟨hx, hb, hr, hml, hown, hts, hlocks, hA, hK, hP, hD, hS, hl⟩ := S0
  obtain ⟨-, -, -, hEw, hEc, -, -⟩ := id hE
  refine lv_aload_n hx hb dL_taper_0 rfl (lv_at hl 3 rfl) ?_
  refine lv_iconst (v := 0) hx hb dL_taper_1 (by decide) ?_
  refine lv_aload_n hx hb dL_taper_2 rfl (lv_at hl 0 rfl) ?_
  refine lv_iload_n hx hb dL_taper_3 rfl (lv_at hl 1 rfl) ?_
  refine lv_iload_n hx hb dL_taper_4 rfl (lv_at hl 2 rfl) ?_
  refine tp_callE ⟨hx, hb, hml, hown, hts⟩ (op_taper_ok l D cy n ad o I sa tL tM i hi hn6 m0 hm) (cwV 2 hts gL_taper_X1_taper rfl rfl rfl (by decide +kernel) ⟨(Nat.le_of_ble_eq_true rfl), (Nat.le_of_ble_eq_true rfl)⟩) hE hK hP hD hS hA 0 1 tp_e0 rfl rfl rfl hl.1 rfl (Nat.le_of_ble_eq_true rfl) dL_taper_5 ⟨Nat.zero_le _, Nat.zero_le _⟩ (fun I9 e9 H locs hP hD hS => ?_)
  subst e9
  refine lv_i2l hx hb dL_taper_8 rfl ?_
  refine tp_lst hx hb hK hP hD hS dL_taper_9 (fun H locs hP hD hS => ?_)
  refine lv_goto (tgt := 17) hx hb dL_taper_10 (by decide) ?_
  refine lv_iconst (v := 0) hx hb dL_taper_17 (by decide) ?_
  exact tp_retL hx hb hr hlocks hK hP hD hS rfl rfl rfl dL_taper_18
set_option maxHeartbeats 4000000 in
set_option maxRecDepth 100000 in
/-- the law's tariff: no -/
theorem lp_tariff_no (l : Launch) (D : va_G) (cy : Nat → ClassId) (n : Nat) (ad : Nat → Nat) (o : Int64) (I : Nat → Nat → Int32) (sa : Nat → Nat) (tL tM : Nat) (hlt : l.stackTraces = false) (x : Int32) (hx0 : ∀ i, i < n → x ≠ nI i) (hn6 : n ≤ 6) (k : Int32) : tp_L l yL_tariff wsL_tariff 8 135 1 6 D cy n ad sa tL tM [.ref (ad 0), .int x, .int k, .ref (ad 13)] I o 1 (I) (o) := by
  refine tp_ofL (lv := [(0, .ref (ad 0)), (1, .int x), (2, .int k), (3, .ref (ad 13))]) (by decide) rfl (Nat.le_of_ble_eq_true rfl) rfl (fun p e s m args below meth c A ls S0 hE htb => ?_)
  obtain ⟨hx, hb, hr, hml, hown, hts, hlocks, hA, hK, hP, hD, hS, hl⟩ := S0
  obtain ⟨-, -, -, hEw, hEc, -, -⟩ := id hE
  refine lv_aload_n hx hb dL_tariff_0 rfl (lv_at hl 3 rfl) ?_
  refine lv_iconst (v := 0) hx hb dL_tariff_1 (by decide) ?_
  refine lv_aload_n hx hb dL_tariff_2 rfl (lv_at hl 0 rfl) ?_
  refine lv_iload_n hx hb dL_tariff_3 rfl (lv_at hl 1 rfl) ?_
  refine lv_iload_n hx hb dL_tariff_4 rfl (lv_at hl 2 rfl) ?_
  refine tp_callVT ⟨hx, hb, hml, hown, hts⟩ (op_tariff_no l D cy n ad o I sa tL tM hlt x hx0 hn6 k) (cwV 2 hts gL_tariff_X1_tariff rfl rfl rfl (by decide +kernel) ⟨(Nat.le_of_ble_eq_true rfl), (Nat.le_of_ble_eq_true rfl)⟩) hE hK hP hD hS hA 0 1 tp_e0 rfl rfl rfl hl.1 rfl (Nat.le_of_ble_eq_true rfl) dL_tariff_5 ⟨(Nat.le_of_ble_eq_true rfl), (Nat.le_of_ble_eq_true rfl)⟩ (fun ce q9 H locs hce hcv hcl hP hD hS => ?_)
  refine vx_catch (own := RL) (E := "java/lang/IndexOutOfBoundsException") (name := "java/lang/IndexOutOfBoundsException") hown [] ⟨0, 10, 13, 19⟩ [] htb (fun z hz => nomatch hz) (by decide) (by decide) (hts _ (List.mem_of_getElem? (i := 1) rfl)) (va_Nw.use rfl (hEw _ (List.mem_of_getElem? (i := 19) rfl))) hce hcv hcl ?_
  refine lv_astore (lv' := [(4, .ref q9), (0, .ref (ad 0)), (1, .int x), (2, .int k), (3, .ref (ad 13))]) hx hb dL_tariff_13 hl (by decide) rfl (fun ls hl => ?_)
  refine lv_iconst (v := 1) hx hb dL_tariff_15 (by decide) ?_
  exact tp_retL hx hb hr hlocks hK hP hD hS rfl rfl rfl dL_tariff_16
set_option maxHeartbeats 4000000 in
set_option maxRecDepth 100000 in
/-- the law's tariff: nomonth -/
theorem lp_tariff_nomonth (l : Launch) (D : va_G) (cy : Nat → ClassId) (n : Nat) (ad : Nat → Nat) (o : Int64) (I : Nat → Nat → Int32) (sa : Nat → Nat) (tL tM : Nat) (hlt : l.stackTraces = false) (i : Nat) (hi : i < n) (hn6 : n ≤ 6) (x : Int32) (hx0 : ∀ j, j < 48 → x ≠ nI j) : tp_L l yL_tariff wsL_tariff 8 133 1 6 D cy n ad sa tL tM [.ref (ad 0), .int (nI i), .int x, .ref (ad 13)] I o 1 (I) (o) := by
  refine tp_ofL (lv := [(0, .ref (ad 0)), (1, .int (nI i)), (2, .int x), (3, .ref (ad 13))]) (by decide) rfl (Nat.le_of_ble_eq_true rfl) rfl (fun p e s m args below meth c A ls S0 hE htb => ?_)
  obtain ⟨hx, hb, hr, hml, hown, hts, hlocks, hA, hK, hP, hD, hS, hl⟩ := S0
  obtain ⟨-, -, -, hEw, hEc, -, -⟩ := id hE
  refine lv_aload_n hx hb dL_tariff_0 rfl (lv_at hl 3 rfl) ?_
  refine lv_iconst (v := 0) hx hb dL_tariff_1 (by decide) ?_
  refine lv_aload_n hx hb dL_tariff_2 rfl (lv_at hl 0 rfl) ?_
  refine lv_iload_n hx hb dL_tariff_3 rfl (lv_at hl 1 rfl) ?_
  refine lv_iload_n hx hb dL_tariff_4 rfl (lv_at hl 2 rfl) ?_
  refine tp_callVT ⟨hx, hb, hml, hown, hts⟩ (op_tariff_nomonth l D cy n ad o I sa tL tM hlt i hi hn6 x hx0) (cwV 2 hts gL_tariff_X1_tariff rfl rfl rfl (by decide +kernel) ⟨(Nat.le_of_ble_eq_true rfl), (Nat.le_of_ble_eq_true rfl)⟩) hE hK hP hD hS hA 0 1 tp_e0 rfl rfl rfl hl.1 rfl (Nat.le_of_ble_eq_true rfl) dL_tariff_5 ⟨(Nat.le_of_ble_eq_true rfl), (Nat.le_of_ble_eq_true rfl)⟩ (fun ce q9 H locs hce hcv hcl hP hD hS => ?_)
  refine vx_catch (own := RL) (E := "java/lang/IndexOutOfBoundsException") (name := "java/lang/IndexOutOfBoundsException") hown [] ⟨0, 10, 13, 19⟩ [] htb (fun z hz => nomatch hz) (by decide) (by decide) (hts _ (List.mem_of_getElem? (i := 1) rfl)) (va_Nw.use rfl (hEw _ (List.mem_of_getElem? (i := 19) rfl))) hce hcv hcl ?_
  refine lv_astore (lv' := [(4, .ref q9), (0, .ref (ad 0)), (1, .int (nI i)), (2, .int x), (3, .ref (ad 13))]) hx hb dL_tariff_13 hl (by decide) rfl (fun ls hl => ?_)
  refine lv_iconst (v := 1) hx hb dL_tariff_15 (by decide) ?_
  exact tp_retL hx hb hr hlocks hK hP hD hS rfl rfl rfl dL_tariff_16
set_option maxHeartbeats 4000000 in
set_option maxRecDepth 100000 in
/-- the law's tariff: ok -/
theorem lp_tariff_ok (l : Launch) (D : va_G) (cy : Nat → ClassId) (n : Nat) (ad : Nat → Nat) (o : Int64) (I : Nat → Nat → Int32) (sa : Nat → Nat) (tL tM : Nat) (hlt : l.stackTraces = false) (i : Nat) (hi : i < n) (hn6 : n ≤ 6) (m0 : Nat) (hm : m0 < 48) : tp_L l yL_tariff wsL_tariff 3 67 0 0 D cy n ad sa tL tM [.ref (ad 0), .int (nI i), .int (nI m0), .ref (ad 13)] I o 0 (I) ((tp_tariff I (14 + 15 * i) m0).toInt64) := by
  refine tp_ofL (lv := [(0, .ref (ad 0)), (1, .int (nI i)), (2, .int (nI m0)), (3, .ref (ad 13))]) (by decide) rfl (Nat.le_of_ble_eq_true rfl) rfl (fun p e s m args below meth c A ls S0 hE htb => ?_)
  obtain ⟨hx, hb, hr, hml, hown, hts, hlocks, hA, hK, hP, hD, hS, hl⟩ := S0
  obtain ⟨-, -, -, hEw, hEc, -, -⟩ := id hE
  refine lv_aload_n hx hb dL_tariff_0 rfl (lv_at hl 3 rfl) ?_
  refine lv_iconst (v := 0) hx hb dL_tariff_1 (by decide) ?_
  refine lv_aload_n hx hb dL_tariff_2 rfl (lv_at hl 0 rfl) ?_
  refine lv_iload_n hx hb dL_tariff_3 rfl (lv_at hl 1 rfl) ?_
  refine lv_iload_n hx hb dL_tariff_4 rfl (lv_at hl 2 rfl) ?_
  refine tp_callE ⟨hx, hb, hml, hown, hts⟩ (op_tariff_ok l D cy n ad o I sa tL tM i hi hn6 m0 hm) (cwV 2 hts gL_tariff_X1_tariff rfl rfl rfl (by decide +kernel) ⟨(Nat.le_of_ble_eq_true rfl), (Nat.le_of_ble_eq_true rfl)⟩) hE hK hP hD hS hA 0 1 tp_e0 rfl rfl rfl hl.1 rfl (Nat.le_of_ble_eq_true rfl) dL_tariff_5 ⟨Nat.zero_le _, Nat.zero_le _⟩ (fun I9 e9 H locs hP hD hS => ?_)
  subst e9
  refine lv_i2l hx hb dL_tariff_8 rfl ?_
  refine tp_lst hx hb hK hP hD hS dL_tariff_9 (fun H locs hP hD hS => ?_)
  refine lv_goto (tgt := 17) hx hb dL_tariff_10 (by decide) ?_
  refine lv_iconst (v := 0) hx hb dL_tariff_17 (by decide) ?_
  exact tp_retL hx hb hr hlocks hK hP hD hS rfl rfl rfl dL_tariff_18
set_option maxHeartbeats 4000000 in
set_option maxRecDepth 100000 in
/-- the law's due: no -/
theorem lp_due_no (l : Launch) (D : va_G) (cy : Nat → ClassId) (n : Nat) (ad : Nat → Nat) (o : Int64) (I : Nat → Nat → Int32) (sa : Nat → Nat) (tL tM : Nat) (hlt : l.stackTraces = false) (x : Int32) (hx0 : ∀ i, i < n → x ≠ nI i) (hn6 : n ≤ 6) (k : Int32) : tp_L l yL_due wsL_due 8 135 1 6 D cy n ad sa tL tM [.ref (ad 0), .int x, .int k, .ref (ad 13)] I o 1 (I) (o) := by
  refine tp_ofL (lv := [(0, .ref (ad 0)), (1, .int x), (2, .int k), (3, .ref (ad 13))]) (by decide) rfl (Nat.le_of_ble_eq_true rfl) rfl (fun p e s m args below meth c A ls S0 hE htb => ?_)
  obtain ⟨hx, hb, hr, hml, hown, hts, hlocks, hA, hK, hP, hD, hS, hl⟩ := S0
  obtain ⟨-, -, -, hEw, hEc, -, -⟩ := id hE
  refine lv_aload_n hx hb dL_due_0 rfl (lv_at hl 3 rfl) ?_
  refine lv_iconst (v := 0) hx hb dL_due_1 (by decide) ?_
  refine lv_aload_n hx hb dL_due_2 rfl (lv_at hl 0 rfl) ?_
  refine lv_iload_n hx hb dL_due_3 rfl (lv_at hl 1 rfl) ?_
  refine lv_iload_n hx hb dL_due_4 rfl (lv_at hl 2 rfl) ?_
  refine tp_callVT ⟨hx, hb, hml, hown, hts⟩ (op_due_no l D cy n ad o I sa tL tM hlt x hx0 hn6 k) (cwV 2 hts gL_due_X1_due rfl rfl rfl (by decide +kernel) ⟨(Nat.le_of_ble_eq_true rfl), (Nat.le_of_ble_eq_true rfl)⟩) hE hK hP hD hS hA 0 1 tp_e0 rfl rfl rfl hl.1 rfl (Nat.le_of_ble_eq_true rfl) dL_due_5 ⟨(Nat.le_of_ble_eq_true rfl), (Nat.le_of_ble_eq_true rfl)⟩ (fun ce q9 H locs hce hcv hcl hP hD hS => ?_)
  refine vx_catch (own := RL) (E := "java/lang/IndexOutOfBoundsException") (name := "java/lang/IndexOutOfBoundsException") hown [] ⟨0, 10, 13, 19⟩ [] htb (fun z hz => nomatch hz) (by decide) (by decide) (hts _ (List.mem_of_getElem? (i := 1) rfl)) (va_Nw.use rfl (hEw _ (List.mem_of_getElem? (i := 19) rfl))) hce hcv hcl ?_
  refine lv_astore (lv' := [(4, .ref q9), (0, .ref (ad 0)), (1, .int x), (2, .int k), (3, .ref (ad 13))]) hx hb dL_due_13 hl (by decide) rfl (fun ls hl => ?_)
  refine lv_iconst (v := 1) hx hb dL_due_15 (by decide) ?_
  exact tp_retL hx hb hr hlocks hK hP hD hS rfl rfl rfl dL_due_16
set_option maxHeartbeats 4000000 in
set_option maxRecDepth 100000 in
/-- the law's due: nomonth -/
theorem lp_due_nomonth (l : Launch) (D : va_G) (cy : Nat → ClassId) (n : Nat) (ad : Nat → Nat) (o : Int64) (I : Nat → Nat → Int32) (sa : Nat → Nat) (tL tM : Nat) (hlt : l.stackTraces = false) (i : Nat) (hi : i < n) (hn6 : n ≤ 6) (x : Int32) (hx0 : ∀ j, j < 48 → x ≠ nI j) : tp_L l yL_due wsL_due 8 133 1 6 D cy n ad sa tL tM [.ref (ad 0), .int (nI i), .int x, .ref (ad 13)] I o 1 (I) (o) := by
  refine tp_ofL (lv := [(0, .ref (ad 0)), (1, .int (nI i)), (2, .int x), (3, .ref (ad 13))]) (by decide) rfl (Nat.le_of_ble_eq_true rfl) rfl (fun p e s m args below meth c A ls S0 hE htb => ?_)
  obtain ⟨hx, hb, hr, hml, hown, hts, hlocks, hA, hK, hP, hD, hS, hl⟩ := S0
  obtain ⟨-, -, -, hEw, hEc, -, -⟩ := id hE
  refine lv_aload_n hx hb dL_due_0 rfl (lv_at hl 3 rfl) ?_
  refine lv_iconst (v := 0) hx hb dL_due_1 (by decide) ?_
  refine lv_aload_n hx hb dL_due_2 rfl (lv_at hl 0 rfl) ?_
  refine lv_iload_n hx hb dL_due_3 rfl (lv_at hl 1 rfl) ?_
  refine lv_iload_n hx hb dL_due_4 rfl (lv_at hl 2 rfl) ?_
  refine tp_callVT ⟨hx, hb, hml, hown, hts⟩ (op_due_nomonth l D cy n ad o I sa tL tM hlt i hi hn6 x hx0) (cwV 2 hts gL_due_X1_due rfl rfl rfl (by decide +kernel) ⟨(Nat.le_of_ble_eq_true rfl), (Nat.le_of_ble_eq_true rfl)⟩) hE hK hP hD hS hA 0 1 tp_e0 rfl rfl rfl hl.1 rfl (Nat.le_of_ble_eq_true rfl) dL_due_5 ⟨(Nat.le_of_ble_eq_true rfl), (Nat.le_of_ble_eq_true rfl)⟩ (fun ce q9 H locs hce hcv hcl hP hD hS => ?_)
  refine vx_catch (own := RL) (E := "java/lang/IndexOutOfBoundsException") (name := "java/lang/IndexOutOfBoundsException") hown [] ⟨0, 10, 13, 19⟩ [] htb (fun z hz => nomatch hz) (by decide) (by decide) (hts _ (List.mem_of_getElem? (i := 1) rfl)) (va_Nw.use rfl (hEw _ (List.mem_of_getElem? (i := 19) rfl))) hce hcv hcl ?_
  refine lv_astore (lv' := [(4, .ref q9), (0, .ref (ad 0)), (1, .int (nI i)), (2, .int x), (3, .ref (ad 13))]) hx hb dL_due_13 hl (by decide) rfl (fun ls hl => ?_)
  refine lv_iconst (v := 1) hx hb dL_due_15 (by decide) ?_
  exact tp_retL hx hb hr hlocks hK hP hD hS rfl rfl rfl dL_due_16
set_option maxHeartbeats 4000000 in
set_option maxRecDepth 100000 in
/-- the law's due: ok -/
theorem lp_due_ok (l : Launch) (D : va_G) (cy : Nat → ClassId) (n : Nat) (ad : Nat → Nat) (o : Int64) (I : Nat → Nat → Int32) (sa : Nat → Nat) (tL tM : Nat) (hlt : l.stackTraces = false) (i : Nat) (hi : i < n) (hn6 : n ≤ 6) (m0 : Nat) (hm : m0 < 48) : tp_L l yL_due wsL_due 4 89 0 0 D cy n ad sa tL tM [.ref (ad 0), .int (nI i), .int (nI m0), .ref (ad 13)] I o 0 (I) ((tp_due I (14 + 15 * i) m0).toInt64) := by
  refine tp_ofL (lv := [(0, .ref (ad 0)), (1, .int (nI i)), (2, .int (nI m0)), (3, .ref (ad 13))]) (by decide) rfl (Nat.le_of_ble_eq_true rfl) rfl (fun p e s m args below meth c A ls S0 hE htb => ?_)
  obtain ⟨hx, hb, hr, hml, hown, hts, hlocks, hA, hK, hP, hD, hS, hl⟩ := S0
  obtain ⟨-, -, -, hEw, hEc, -, -⟩ := id hE
  refine lv_aload_n hx hb dL_due_0 rfl (lv_at hl 3 rfl) ?_
  refine lv_iconst (v := 0) hx hb dL_due_1 (by decide) ?_
  refine lv_aload_n hx hb dL_due_2 rfl (lv_at hl 0 rfl) ?_
  refine lv_iload_n hx hb dL_due_3 rfl (lv_at hl 1 rfl) ?_
  refine lv_iload_n hx hb dL_due_4 rfl (lv_at hl 2 rfl) ?_
  refine tp_callE ⟨hx, hb, hml, hown, hts⟩ (op_due_ok l D cy n ad o I sa tL tM i hi hn6 m0 hm) (cwV 2 hts gL_due_X1_due rfl rfl rfl (by decide +kernel) ⟨(Nat.le_of_ble_eq_true rfl), (Nat.le_of_ble_eq_true rfl)⟩) hE hK hP hD hS hA 0 1 tp_e0 rfl rfl rfl hl.1 rfl (Nat.le_of_ble_eq_true rfl) dL_due_5 ⟨Nat.zero_le _, Nat.zero_le _⟩ (fun I9 e9 H locs hP hD hS => ?_)
  subst e9
  refine lv_i2l hx hb dL_due_8 rfl ?_
  refine tp_lst hx hb hK hP hD hS dL_due_9 (fun H locs hP hD hS => ?_)
  refine lv_goto (tgt := 17) hx hb dL_due_10 (by decide) ?_
  refine lv_iconst (v := 0) hx hb dL_due_17 (by decide) ?_
  exact tp_retL hx hb hr hlocks hK hP hD hS rfl rfl rfl dL_due_18
set_option maxHeartbeats 4000000 in
set_option maxRecDepth 100000 in
/-- the law's assessed: no -/
theorem lp_assessed_no (l : Launch) (D : va_G) (cy : Nat → ClassId) (n : Nat) (ad : Nat → Nat) (o : Int64) (I : Nat → Nat → Int32) (sa : Nat → Nat) (tL tM : Nat) (hlt : l.stackTraces = false) (x : Int32) (hx0 : ∀ i, i < n → x ≠ nI i) (hn6 : n ≤ 6) (k : Int32) : tp_L l yL_assessed wsL_assessed 8 135 1 6 D cy n ad sa tL tM [.ref (ad 0), .int x, .int k, .ref (ad 13)] I o 1 (I) (o) := by
  refine tp_ofL (lv := [(0, .ref (ad 0)), (1, .int x), (2, .int k), (3, .ref (ad 13))]) (by decide) rfl (Nat.le_of_ble_eq_true rfl) rfl (fun p e s m args below meth c A ls S0 hE htb => ?_)
  obtain ⟨hx, hb, hr, hml, hown, hts, hlocks, hA, hK, hP, hD, hS, hl⟩ := S0
  obtain ⟨-, -, -, hEw, hEc, -, -⟩ := id hE
  refine lv_aload_n hx hb dL_assessed_0 rfl (lv_at hl 3 rfl) ?_
  refine lv_iconst (v := 0) hx hb dL_assessed_1 (by decide) ?_
  refine lv_aload_n hx hb dL_assessed_2 rfl (lv_at hl 0 rfl) ?_
  refine lv_iload_n hx hb dL_assessed_3 rfl (lv_at hl 1 rfl) ?_
  refine lv_iload_n hx hb dL_assessed_4 rfl (lv_at hl 2 rfl) ?_
  refine tp_callVT ⟨hx, hb, hml, hown, hts⟩ (op_assessed_no l D cy n ad o I sa tL tM hlt x hx0 hn6 k) (cwV 2 hts gL_assessed_X1_assessed rfl rfl rfl (by decide +kernel) ⟨(Nat.le_of_ble_eq_true rfl), (Nat.le_of_ble_eq_true rfl)⟩) hE hK hP hD hS hA 0 1 tp_e0 rfl rfl rfl hl.1 rfl (Nat.le_of_ble_eq_true rfl) dL_assessed_5 ⟨(Nat.le_of_ble_eq_true rfl), (Nat.le_of_ble_eq_true rfl)⟩ (fun ce q9 H locs hce hcv hcl hP hD hS => ?_)
  refine vx_catch (own := RL) (E := "java/lang/IndexOutOfBoundsException") (name := "java/lang/IndexOutOfBoundsException") hown [] ⟨0, 10, 13, 19⟩ [] htb (fun z hz => nomatch hz) (by decide) (by decide) (hts _ (List.mem_of_getElem? (i := 1) rfl)) (va_Nw.use rfl (hEw _ (List.mem_of_getElem? (i := 19) rfl))) hce hcv hcl ?_
  refine lv_astore (lv' := [(4, .ref q9), (0, .ref (ad 0)), (1, .int x), (2, .int k), (3, .ref (ad 13))]) hx hb dL_assessed_13 hl (by decide) rfl (fun ls hl => ?_)
  refine lv_iconst (v := 1) hx hb dL_assessed_15 (by decide) ?_
  exact tp_retL hx hb hr hlocks hK hP hD hS rfl rfl rfl dL_assessed_16
set_option maxHeartbeats 4000000 in
set_option maxRecDepth 100000 in
/-- the law's assessed: nomonth -/
theorem lp_assessed_nomonth (l : Launch) (D : va_G) (cy : Nat → ClassId) (n : Nat) (ad : Nat → Nat) (o : Int64) (I : Nat → Nat → Int32) (sa : Nat → Nat) (tL tM : Nat) (hlt : l.stackTraces = false) (i : Nat) (hi : i < n) (hn6 : n ≤ 6) (x : Int32) (hx0 : ∀ j, j < 48 → x ≠ nI j) : tp_L l yL_assessed wsL_assessed 8 133 1 6 D cy n ad sa tL tM [.ref (ad 0), .int (nI i), .int x, .ref (ad 13)] I o 1 (I) (o) := by
  refine tp_ofL (lv := [(0, .ref (ad 0)), (1, .int (nI i)), (2, .int x), (3, .ref (ad 13))]) (by decide) rfl (Nat.le_of_ble_eq_true rfl) rfl (fun p e s m args below meth c A ls S0 hE htb => ?_)
  obtain ⟨hx, hb, hr, hml, hown, hts, hlocks, hA, hK, hP, hD, hS, hl⟩ := S0
  obtain ⟨-, -, -, hEw, hEc, -, -⟩ := id hE
  refine lv_aload_n hx hb dL_assessed_0 rfl (lv_at hl 3 rfl) ?_
  refine lv_iconst (v := 0) hx hb dL_assessed_1 (by decide) ?_
  refine lv_aload_n hx hb dL_assessed_2 rfl (lv_at hl 0 rfl) ?_
  refine lv_iload_n hx hb dL_assessed_3 rfl (lv_at hl 1 rfl) ?_
  refine lv_iload_n hx hb dL_assessed_4 rfl (lv_at hl 2 rfl) ?_
  refine tp_callVT ⟨hx, hb, hml, hown, hts⟩ (op_assessed_nomonth l D cy n ad o I sa tL tM hlt i hi hn6 x hx0) (cwV 2 hts gL_assessed_X1_assessed rfl rfl rfl (by decide +kernel) ⟨(Nat.le_of_ble_eq_true rfl), (Nat.le_of_ble_eq_true rfl)⟩) hE hK hP hD hS hA 0 1 tp_e0 rfl rfl rfl hl.1 rfl (Nat.le_of_ble_eq_true rfl) dL_assessed_5 ⟨(Nat.le_of_ble_eq_true rfl), (Nat.le_of_ble_eq_true rfl)⟩ (fun ce q9 H locs hce hcv hcl hP hD hS => ?_)
  refine vx_catch (own := RL) (E := "java/lang/IndexOutOfBoundsException") (name := "java/lang/IndexOutOfBoundsException") hown [] ⟨0, 10, 13, 19⟩ [] htb (fun z hz => nomatch hz) (by decide) (by decide) (hts _ (List.mem_of_getElem? (i := 1) rfl)) (va_Nw.use rfl (hEw _ (List.mem_of_getElem? (i := 19) rfl))) hce hcv hcl ?_
  refine lv_astore (lv' := [(4, .ref q9), (0, .ref (ad 0)), (1, .int (nI i)), (2, .int x), (3, .ref (ad 13))]) hx hb dL_assessed_13 hl (by decide) rfl (fun ls hl => ?_)
  refine lv_iconst (v := 1) hx hb dL_assessed_15 (by decide) ?_
  exact tp_retL hx hb hr hlocks hK hP hD hS rfl rfl rfl dL_assessed_16
set_option maxHeartbeats 4000000 in
set_option maxRecDepth 100000 in
/-- the law's assessed: ok -/
theorem lp_assessed_ok (l : Launch) (D : va_G) (cy : Nat → ClassId) (n : Nat) (ad : Nat → Nat) (o : Int64) (I : Nat → Nat → Int32) (sa : Nat → Nat) (tL tM : Nat) (hlt : l.stackTraces = false) (i : Nat) (hi : i < n) (hn6 : n ≤ 6) (m0 : Nat) (hm : m0 < 48) : tp_L l yL_assessed wsL_assessed 2 45 0 0 D cy n ad sa tL tM [.ref (ad 0), .int (nI i), .int (nI m0), .ref (ad 13)] I o 0 (I) ((I (14 + 15 * i + 13) m0).toInt64) := by
  refine tp_ofL (lv := [(0, .ref (ad 0)), (1, .int (nI i)), (2, .int (nI m0)), (3, .ref (ad 13))]) (by decide) rfl (Nat.le_of_ble_eq_true rfl) rfl (fun p e s m args below meth c A ls S0 hE htb => ?_)
  obtain ⟨hx, hb, hr, hml, hown, hts, hlocks, hA, hK, hP, hD, hS, hl⟩ := S0
  obtain ⟨-, -, -, hEw, hEc, -, -⟩ := id hE
  refine lv_aload_n hx hb dL_assessed_0 rfl (lv_at hl 3 rfl) ?_
  refine lv_iconst (v := 0) hx hb dL_assessed_1 (by decide) ?_
  refine lv_aload_n hx hb dL_assessed_2 rfl (lv_at hl 0 rfl) ?_
  refine lv_iload_n hx hb dL_assessed_3 rfl (lv_at hl 1 rfl) ?_
  refine lv_iload_n hx hb dL_assessed_4 rfl (lv_at hl 2 rfl) ?_
  refine tp_callE ⟨hx, hb, hml, hown, hts⟩ (op_assessed_ok l D cy n ad o I sa tL tM i hi hn6 m0 hm) (cwV 2 hts gL_assessed_X1_assessed rfl rfl rfl (by decide +kernel) ⟨(Nat.le_of_ble_eq_true rfl), (Nat.le_of_ble_eq_true rfl)⟩) hE hK hP hD hS hA 0 1 tp_e0 rfl rfl rfl hl.1 rfl (Nat.le_of_ble_eq_true rfl) dL_assessed_5 ⟨Nat.zero_le _, Nat.zero_le _⟩ (fun I9 e9 H locs hP hD hS => ?_)
  subst e9
  refine lv_i2l hx hb dL_assessed_8 rfl ?_
  refine tp_lst hx hb hK hP hD hS dL_assessed_9 (fun H locs hP hD hS => ?_)
  refine lv_goto (tgt := 17) hx hb dL_assessed_10 (by decide) ?_
  refine lv_iconst (v := 0) hx hb dL_assessed_17 (by decide) ?_
  exact tp_retL hx hb hr hlocks hK hP hD hS rfl rfl rfl dL_assessed_18
set_option maxHeartbeats 4000000 in
set_option maxRecDepth 100000 in
/-- the law's paid: no -/
theorem lp_paid_no (l : Launch) (D : va_G) (cy : Nat → ClassId) (n : Nat) (ad : Nat → Nat) (o : Int64) (I : Nat → Nat → Int32) (sa : Nat → Nat) (tL tM : Nat) (hlt : l.stackTraces = false) (x : Int32) (hx0 : ∀ i, i < n → x ≠ nI i) (hn6 : n ≤ 6) (k : Int32) : tp_L l yL_paid wsL_paid 8 135 1 6 D cy n ad sa tL tM [.ref (ad 0), .int x, .int k, .ref (ad 13)] I o 1 (I) (o) := by
  refine tp_ofL (lv := [(0, .ref (ad 0)), (1, .int x), (2, .int k), (3, .ref (ad 13))]) (by decide) rfl (Nat.le_of_ble_eq_true rfl) rfl (fun p e s m args below meth c A ls S0 hE htb => ?_)
  obtain ⟨hx, hb, hr, hml, hown, hts, hlocks, hA, hK, hP, hD, hS, hl⟩ := S0
  obtain ⟨-, -, -, hEw, hEc, -, -⟩ := id hE
  refine lv_aload_n hx hb dL_paid_0 rfl (lv_at hl 3 rfl) ?_
  refine lv_iconst (v := 0) hx hb dL_paid_1 (by decide) ?_
  refine lv_aload_n hx hb dL_paid_2 rfl (lv_at hl 0 rfl) ?_
  refine lv_iload_n hx hb dL_paid_3 rfl (lv_at hl 1 rfl) ?_
  refine lv_iload_n hx hb dL_paid_4 rfl (lv_at hl 2 rfl) ?_
  refine tp_callVT ⟨hx, hb, hml, hown, hts⟩ (op_paid_no l D cy n ad o I sa tL tM hlt x hx0 hn6 k) (cwV 2 hts gL_paid_X1_paid rfl rfl rfl (by decide +kernel) ⟨(Nat.le_of_ble_eq_true rfl), (Nat.le_of_ble_eq_true rfl)⟩) hE hK hP hD hS hA 0 1 tp_e0 rfl rfl rfl hl.1 rfl (Nat.le_of_ble_eq_true rfl) dL_paid_5 ⟨(Nat.le_of_ble_eq_true rfl), (Nat.le_of_ble_eq_true rfl)⟩ (fun ce q9 H locs hce hcv hcl hP hD hS => ?_)
  refine vx_catch (own := RL) (E := "java/lang/IndexOutOfBoundsException") (name := "java/lang/IndexOutOfBoundsException") hown [] ⟨0, 10, 13, 19⟩ [] htb (fun z hz => nomatch hz) (by decide) (by decide) (hts _ (List.mem_of_getElem? (i := 1) rfl)) (va_Nw.use rfl (hEw _ (List.mem_of_getElem? (i := 19) rfl))) hce hcv hcl ?_
  refine lv_astore (lv' := [(4, .ref q9), (0, .ref (ad 0)), (1, .int x), (2, .int k), (3, .ref (ad 13))]) hx hb dL_paid_13 hl (by decide) rfl (fun ls hl => ?_)
  refine lv_iconst (v := 1) hx hb dL_paid_15 (by decide) ?_
  exact tp_retL hx hb hr hlocks hK hP hD hS rfl rfl rfl dL_paid_16
set_option maxHeartbeats 4000000 in
set_option maxRecDepth 100000 in
/-- the law's paid: nomonth -/
theorem lp_paid_nomonth (l : Launch) (D : va_G) (cy : Nat → ClassId) (n : Nat) (ad : Nat → Nat) (o : Int64) (I : Nat → Nat → Int32) (sa : Nat → Nat) (tL tM : Nat) (hlt : l.stackTraces = false) (i : Nat) (hi : i < n) (hn6 : n ≤ 6) (x : Int32) (hx0 : ∀ j, j < 48 → x ≠ nI j) : tp_L l yL_paid wsL_paid 8 133 1 6 D cy n ad sa tL tM [.ref (ad 0), .int (nI i), .int x, .ref (ad 13)] I o 1 (I) (o) := by
  refine tp_ofL (lv := [(0, .ref (ad 0)), (1, .int (nI i)), (2, .int x), (3, .ref (ad 13))]) (by decide) rfl (Nat.le_of_ble_eq_true rfl) rfl (fun p e s m args below meth c A ls S0 hE htb => ?_)
  obtain ⟨hx, hb, hr, hml, hown, hts, hlocks, hA, hK, hP, hD, hS, hl⟩ := S0
  obtain ⟨-, -, -, hEw, hEc, -, -⟩ := id hE
  refine lv_aload_n hx hb dL_paid_0 rfl (lv_at hl 3 rfl) ?_
  refine lv_iconst (v := 0) hx hb dL_paid_1 (by decide) ?_
  refine lv_aload_n hx hb dL_paid_2 rfl (lv_at hl 0 rfl) ?_
  refine lv_iload_n hx hb dL_paid_3 rfl (lv_at hl 1 rfl) ?_
  refine lv_iload_n hx hb dL_paid_4 rfl (lv_at hl 2 rfl) ?_
  refine tp_callVT ⟨hx, hb, hml, hown, hts⟩ (op_paid_nomonth l D cy n ad o I sa tL tM hlt i hi hn6 x hx0) (cwV 2 hts gL_paid_X1_paid rfl rfl rfl (by decide +kernel) ⟨(Nat.le_of_ble_eq_true rfl), (Nat.le_of_ble_eq_true rfl)⟩) hE hK hP hD hS hA 0 1 tp_e0 rfl rfl rfl hl.1 rfl (Nat.le_of_ble_eq_true rfl) dL_paid_5 ⟨(Nat.le_of_ble_eq_true rfl), (Nat.le_of_ble_eq_true rfl)⟩ (fun ce q9 H locs hce hcv hcl hP hD hS => ?_)
  refine vx_catch (own := RL) (E := "java/lang/IndexOutOfBoundsException") (name := "java/lang/IndexOutOfBoundsException") hown [] ⟨0, 10, 13, 19⟩ [] htb (fun z hz => nomatch hz) (by decide) (by decide) (hts _ (List.mem_of_getElem? (i := 1) rfl)) (va_Nw.use rfl (hEw _ (List.mem_of_getElem? (i := 19) rfl))) hce hcv hcl ?_
  refine lv_astore (lv' := [(4, .ref q9), (0, .ref (ad 0)), (1, .int (nI i)), (2, .int x), (3, .ref (ad 13))]) hx hb dL_paid_13 hl (by decide) rfl (fun ls hl => ?_)
  refine lv_iconst (v := 1) hx hb dL_paid_15 (by decide) ?_
  exact tp_retL hx hb hr hlocks hK hP hD hS rfl rfl rfl dL_paid_16
set_option maxHeartbeats 4000000 in
set_option maxRecDepth 100000 in
/-- the law's paid: ok -/
theorem lp_paid_ok (l : Launch) (D : va_G) (cy : Nat → ClassId) (n : Nat) (ad : Nat → Nat) (o : Int64) (I : Nat → Nat → Int32) (sa : Nat → Nat) (tL tM : Nat) (hlt : l.stackTraces = false) (i : Nat) (hi : i < n) (hn6 : n ≤ 6) (m0 : Nat) (hm : m0 < 48) : tp_L l yL_paid wsL_paid 2 45 0 0 D cy n ad sa tL tM [.ref (ad 0), .int (nI i), .int (nI m0), .ref (ad 13)] I o 0 (I) ((I (14 + 15 * i + 14) m0).toInt64) := by
  refine tp_ofL (lv := [(0, .ref (ad 0)), (1, .int (nI i)), (2, .int (nI m0)), (3, .ref (ad 13))]) (by decide) rfl (Nat.le_of_ble_eq_true rfl) rfl (fun p e s m args below meth c A ls S0 hE htb => ?_)
  obtain ⟨hx, hb, hr, hml, hown, hts, hlocks, hA, hK, hP, hD, hS, hl⟩ := S0
  obtain ⟨-, -, -, hEw, hEc, -, -⟩ := id hE
  refine lv_aload_n hx hb dL_paid_0 rfl (lv_at hl 3 rfl) ?_
  refine lv_iconst (v := 0) hx hb dL_paid_1 (by decide) ?_
  refine lv_aload_n hx hb dL_paid_2 rfl (lv_at hl 0 rfl) ?_
  refine lv_iload_n hx hb dL_paid_3 rfl (lv_at hl 1 rfl) ?_
  refine lv_iload_n hx hb dL_paid_4 rfl (lv_at hl 2 rfl) ?_
  refine tp_callE ⟨hx, hb, hml, hown, hts⟩ (op_paid_ok l D cy n ad o I sa tL tM i hi hn6 m0 hm) (cwV 2 hts gL_paid_X1_paid rfl rfl rfl (by decide +kernel) ⟨(Nat.le_of_ble_eq_true rfl), (Nat.le_of_ble_eq_true rfl)⟩) hE hK hP hD hS hA 0 1 tp_e0 rfl rfl rfl hl.1 rfl (Nat.le_of_ble_eq_true rfl) dL_paid_5 ⟨Nat.zero_le _, Nat.zero_le _⟩ (fun I9 e9 H locs hP hD hS => ?_)
  subst e9
  refine lv_i2l hx hb dL_paid_8 rfl ?_
  refine tp_lst hx hb hK hP hD hS dL_paid_9 (fun H locs hP hD hS => ?_)
  refine lv_goto (tgt := 17) hx hb dL_paid_10 (by decide) ?_
  refine lv_iconst (v := 0) hx hb dL_paid_17 (by decide) ?_
  exact tp_retL hx hb hr hlocks hK hP hD hS rfl rfl rfl dL_paid_18
set_option maxHeartbeats 4000000 in
set_option maxRecDepth 100000 in
/-- the law's fact: no -/
theorem lp_fact_no (l : Launch) (D : va_G) (cy : Nat → ClassId) (n : Nat) (ad : Nat → Nat) (o : Int64) (I : Nat → Nat → Int32) (sa : Nat → Nat) (tL tM : Nat) (hlt : l.stackTraces = false) (x : Int32) (hx0 : ∀ i, i < n → x ≠ nI i) (hn6 : n ≤ 6) (f k : Int32) : tp_L l yL_fact wsL_fact 8 136 1 6 D cy n ad sa tL tM [.ref (ad 0), .int x, .int f, .int k, .ref (ad 13)] I o 1 (I) (o) := by
  refine tp_ofL (lv := [(0, .ref (ad 0)), (1, .int x), (2, .int f), (3, .int k), (4, .ref (ad 13))]) (by decide) rfl (Nat.le_of_ble_eq_true rfl) rfl (fun p e s m args below meth c A ls S0 hE htb => ?_)
  obtain ⟨hx, hb, hr, hml, hown, hts, hlocks, hA, hK, hP, hD, hS, hl⟩ := S0
  obtain ⟨-, -, -, hEw, hEc, -, -⟩ := id hE
  refine lv_aload hx hb dL_fact_0 (lv_at hl 4 rfl) ?_
  refine lv_iconst (v := 0) hx hb dL_fact_2 (by decide) ?_
  refine lv_aload_n hx hb dL_fact_3 rfl (lv_at hl 0 rfl) ?_
  refine lv_iload_n hx hb dL_fact_4 rfl (lv_at hl 1 rfl) ?_
  refine lv_iload_n hx hb dL_fact_5 rfl (lv_at hl 2 rfl) ?_
  refine lv_iload_n hx hb dL_fact_6 rfl (lv_at hl 3 rfl) ?_
  refine tp_callVT ⟨hx, hb, hml, hown, hts⟩ (op_fact_no l D cy n ad o I sa tL tM hlt x hx0 hn6 f k) (cwV 3 hts gL_fact_X1_fact rfl rfl rfl (by decide +kernel) ⟨(Nat.le_of_ble_eq_true rfl), (Nat.le_of_ble_eq_true rfl)⟩) hE hK hP hD hS hA 0 1 tp_e0 rfl rfl rfl hl.1 rfl (Nat.le_of_ble_eq_true rfl) dL_fact_7 ⟨(Nat.le_of_ble_eq_true rfl), (Nat.le_of_ble_eq_true rfl)⟩ (fun ce q9 H locs hce hcv hcl hP hD hS => ?_)
  refine vx_catch (own := RL) (E := "java/lang/IndexOutOfBoundsException") (name := "java/lang/IndexOutOfBoundsException") hown [] ⟨0, 12, 15, 19⟩ [⟨0, 12, 19, 21⟩] htb (fun z hz => nomatch hz) (by decide) (by decide) (hts _ (List.mem_of_getElem? (i := 1) rfl)) (va_Nw.use rfl (hEw _ (List.mem_of_getElem? (i := 19) rfl))) hce hcv hcl ?_
  refine lv_astore (lv' := [(5, .ref q9), (0, .ref (ad 0)), (1, .int x), (2, .int f), (3, .int k), (4, .ref (ad 13))]) hx hb dL_fact_15 hl (by decide) rfl (fun ls hl => ?_)
  refine lv_iconst (v := 1) hx hb dL_fact_17 (by decide) ?_
  exact tp_retL hx hb hr hlocks hK hP hD hS rfl rfl rfl dL_fact_18
set_option maxHeartbeats 4000000 in
set_option maxRecDepth 100000 in
/-- the law's fact: nomonth -/
theorem lp_fact_nomonth (l : Launch) (D : va_G) (cy : Nat → ClassId) (n : Nat) (ad : Nat → Nat) (o : Int64) (I : Nat → Nat → Int32) (sa : Nat → Nat) (tL tM : Nat) (hlt : l.stackTraces = false) (i : Nat) (hi : i < n) (hn6 : n ≤ 6) (f : Int32) (x : Int32) (hx0 : ∀ j, j < 48 → x ≠ nI j) : tp_L l yL_fact wsL_fact 8 134 1 6 D cy n ad sa tL tM [.ref (ad 0), .int (nI i), .int f, .int x, .ref (ad 13)] I o 1 (I) (o) := by
  refine tp_ofL (lv := [(0, .ref (ad 0)), (1, .int (nI i)), (2, .int f), (3, .int x), (4, .ref (ad 13))]) (by decide) rfl (Nat.le_of_ble_eq_true rfl) rfl (fun p e s m args below meth c A ls S0 hE htb => ?_)
  obtain ⟨hx, hb, hr, hml, hown, hts, hlocks, hA, hK, hP, hD, hS, hl⟩ := S0
  obtain ⟨-, -, -, hEw, hEc, -, -⟩ := id hE
  refine lv_aload hx hb dL_fact_0 (lv_at hl 4 rfl) ?_
  refine lv_iconst (v := 0) hx hb dL_fact_2 (by decide) ?_
  refine lv_aload_n hx hb dL_fact_3 rfl (lv_at hl 0 rfl) ?_
  refine lv_iload_n hx hb dL_fact_4 rfl (lv_at hl 1 rfl) ?_
  refine lv_iload_n hx hb dL_fact_5 rfl (lv_at hl 2 rfl) ?_
  refine lv_iload_n hx hb dL_fact_6 rfl (lv_at hl 3 rfl) ?_
  refine tp_callVT ⟨hx, hb, hml, hown, hts⟩ (op_fact_nomonth l D cy n ad o I sa tL tM hlt i hi hn6 f x hx0) (cwV 3 hts gL_fact_X1_fact rfl rfl rfl (by decide +kernel) ⟨(Nat.le_of_ble_eq_true rfl), (Nat.le_of_ble_eq_true rfl)⟩) hE hK hP hD hS hA 0 1 tp_e0 rfl rfl rfl hl.1 rfl (Nat.le_of_ble_eq_true rfl) dL_fact_7 ⟨(Nat.le_of_ble_eq_true rfl), (Nat.le_of_ble_eq_true rfl)⟩ (fun ce q9 H locs hce hcv hcl hP hD hS => ?_)
  refine vx_catch (own := RL) (E := "java/lang/IndexOutOfBoundsException") (name := "java/lang/IndexOutOfBoundsException") hown [] ⟨0, 12, 15, 19⟩ [⟨0, 12, 19, 21⟩] htb (fun z hz => nomatch hz) (by decide) (by decide) (hts _ (List.mem_of_getElem? (i := 1) rfl)) (va_Nw.use rfl (hEw _ (List.mem_of_getElem? (i := 19) rfl))) hce hcv hcl ?_
  refine lv_astore (lv' := [(5, .ref q9), (0, .ref (ad 0)), (1, .int (nI i)), (2, .int f), (3, .int x), (4, .ref (ad 13))]) hx hb dL_fact_15 hl (by decide) rfl (fun ls hl => ?_)
  refine lv_iconst (v := 1) hx hb dL_fact_17 (by decide) ?_
  exact tp_retL hx hb hr hlocks hK hP hD hS rfl rfl rfl dL_fact_18
set_option maxHeartbeats 4000000 in
set_option maxRecDepth 100000 in
/-- the law's fact: bad -/
theorem lp_fact_bad (l : Launch) (D : va_G) (cy : Nat → ClassId) (n : Nat) (ad : Nat → Nat) (o : Int64) (I : Nat → Nat → Int32) (sa : Nat → Nat) (tL tM : Nat) (hlt : l.stackTraces = false) (i : Nat) (hi : i < n) (hn6 : n ≤ 6) (m0 : Nat) (hm : m0 < 48) (x : Int32) (hx0 : ∀ j, j < 5 → x ≠ nI j) : tp_L l yL_fact wsL_fact 8 134 1 6 D cy n ad sa tL tM [.ref (ad 0), .int (nI i), .int x, .int (nI m0), .ref (ad 13)] I o 2 (I) (o) := by
  refine tp_ofL (lv := [(0, .ref (ad 0)), (1, .int (nI i)), (2, .int x), (3, .int (nI m0)), (4, .ref (ad 13))]) (by decide) rfl (Nat.le_of_ble_eq_true rfl) rfl (fun p e s m args below meth c A ls S0 hE htb => ?_)
  obtain ⟨hx, hb, hr, hml, hown, hts, hlocks, hA, hK, hP, hD, hS, hl⟩ := S0
  obtain ⟨-, -, -, hEw, hEc, -, -⟩ := id hE
  refine lv_aload hx hb dL_fact_0 (lv_at hl 4 rfl) ?_
  refine lv_iconst (v := 0) hx hb dL_fact_2 (by decide) ?_
  refine lv_aload_n hx hb dL_fact_3 rfl (lv_at hl 0 rfl) ?_
  refine lv_iload_n hx hb dL_fact_4 rfl (lv_at hl 1 rfl) ?_
  refine lv_iload_n hx hb dL_fact_5 rfl (lv_at hl 2 rfl) ?_
  refine lv_iload_n hx hb dL_fact_6 rfl (lv_at hl 3 rfl) ?_
  refine tp_callVT ⟨hx, hb, hml, hown, hts⟩ (op_fact_bad l D cy n ad o I sa tL tM hlt i hi hn6 m0 hm x hx0) (cwV 3 hts gL_fact_X1_fact rfl rfl rfl (by decide +kernel) ⟨(Nat.le_of_ble_eq_true rfl), (Nat.le_of_ble_eq_true rfl)⟩) hE hK hP hD hS hA 0 1 tp_e0 rfl rfl rfl hl.1 rfl (Nat.le_of_ble_eq_true rfl) dL_fact_7 ⟨(Nat.le_of_ble_eq_true rfl), (Nat.le_of_ble_eq_true rfl)⟩ (fun ce q9 H locs hce hcv hcl hP hD hS => ?_)
  refine vx_catch (own := RL) (E := "java/lang/IllegalArgumentException") (name := "java/lang/IllegalArgumentException") hown [⟨0, 12, 15, 19⟩] ⟨0, 12, 19, 21⟩ [] htb (fun z hz => by
      simp only [List.mem_cons, List.not_mem_nil, or_false] at hz
      subst hz
      exact Or.inr ⟨by decide, _, (hts _ (List.mem_of_getElem? (i := 1) rfl)), hEc ("java/lang/IllegalArgumentException", "java/lang/IndexOutOfBoundsException") (by decide)⟩) (by decide) (by decide) (hts _ (List.mem_of_getElem? (i := 2) rfl)) (va_Nw.use rfl (hEw _ (List.mem_of_getElem? (i := 18) rfl))) hce hcv hcl ?_
  refine lv_astore (lv' := [(5, .ref q9), (0, .ref (ad 0)), (1, .int (nI i)), (2, .int x), (3, .int (nI m0)), (4, .ref (ad 13))]) hx hb dL_fact_19 hl (by decide) rfl (fun ls hl => ?_)
  refine lv_iconst (v := 2) hx hb dL_fact_21 (by decide) ?_
  exact tp_retL hx hb hr hlocks hK hP hD hS rfl rfl rfl dL_fact_22
set_option maxHeartbeats 4000000 in
set_option maxRecDepth 100000 in
/-- the law's fact: ok -/
theorem lp_fact_ok (l : Launch) (D : va_G) (cy : Nat → ClassId) (n : Nat) (ad : Nat → Nat) (o : Int64) (I : Nat → Nat → Int32) (sa : Nat → Nat) (tL tM : Nat) (hlt : l.stackTraces = false) (i : Nat) (hi : i < n) (hn6 : n ≤ 6) (f0 m0 : Nat) (hf5 : f0 < 5) (hm : m0 < 48) : tp_L l yL_fact wsL_fact 2 46 0 0 D cy n ad sa tL tM [.ref (ad 0), .int (nI i), .int (nI f0), .int (nI m0), .ref (ad 13)] I o 0 (I) ((I (14 + 15 * i + 2 + f0) m0).toInt64) := by
  refine tp_ofL (lv := [(0, .ref (ad 0)), (1, .int (nI i)), (2, .int (nI f0)), (3, .int (nI m0)), (4, .ref (ad 13))]) (by decide) rfl (Nat.le_of_ble_eq_true rfl) rfl (fun p e s m args below meth c A ls S0 hE htb => ?_)
  obtain ⟨hx, hb, hr, hml, hown, hts, hlocks, hA, hK, hP, hD, hS, hl⟩ := S0
  obtain ⟨-, -, -, hEw, hEc, -, -⟩ := id hE
  refine lv_aload hx hb dL_fact_0 (lv_at hl 4 rfl) ?_
  refine lv_iconst (v := 0) hx hb dL_fact_2 (by decide) ?_
  refine lv_aload_n hx hb dL_fact_3 rfl (lv_at hl 0 rfl) ?_
  refine lv_iload_n hx hb dL_fact_4 rfl (lv_at hl 1 rfl) ?_
  refine lv_iload_n hx hb dL_fact_5 rfl (lv_at hl 2 rfl) ?_
  refine lv_iload_n hx hb dL_fact_6 rfl (lv_at hl 3 rfl) ?_
  refine tp_callE ⟨hx, hb, hml, hown, hts⟩ (op_fact_ok l D cy n ad o I sa tL tM i hi hn6 f0 m0 hf5 hm) (cwV 3 hts gL_fact_X1_fact rfl rfl rfl (by decide +kernel) ⟨(Nat.le_of_ble_eq_true rfl), (Nat.le_of_ble_eq_true rfl)⟩) hE hK hP hD hS hA 0 1 tp_e0 rfl rfl rfl hl.1 rfl (Nat.le_of_ble_eq_true rfl) dL_fact_7 ⟨Nat.zero_le _, Nat.zero_le _⟩ (fun I9 e9 H locs hP hD hS => ?_)
  subst e9
  refine lv_i2l hx hb dL_fact_10 rfl ?_
  refine tp_lst hx hb hK hP hD hS dL_fact_11 (fun H locs hP hD hS => ?_)
  refine lv_goto (tgt := 23) hx hb dL_fact_12 (by decide) ?_
  refine lv_iconst (v := 0) hx hb dL_fact_23 (by decide) ?_
  exact tp_retL hx hb hr hlocks hK hP hD hS rfl rfl rfl dL_fact_24
set_option maxHeartbeats 4000000 in
set_option maxRecDepth 100000 in
/-- the law's dispute: no -/
theorem lp_dispute_no (l : Launch) (D : va_G) (cy : Nat → ClassId) (n : Nat) (ad : Nat → Nat) (o : Int64) (I : Nat → Nat → Int32) (sa : Nat → Nat) (tL tM : Nat) (hlt : l.stackTraces = false) (x : Int32) (hx0 : ∀ i, i < n → x ≠ nI i) (hn6 : n ≤ 6) (v : Int32) : tp_L l yL_dispute wsL_dispute 8 136 1 6 D cy n ad sa tL tM [.ref (ad 0), .int x, .int v, .ref (ad 13)] I o 1 (I) (o) := by
  refine tp_ofL (lv := [(0, .ref (ad 0)), (1, .int x), (2, .int v), (3, .ref (ad 13))]) (by decide) rfl (Nat.le_of_ble_eq_true rfl) rfl (fun p e s m args below meth c A ls S0 hE htb => ?_)
  obtain ⟨hx, hb, hr, hml, hown, hts, hlocks, hA, hK, hP, hD, hS, hl⟩ := S0
  obtain ⟨-, -, -, hEw, hEc, -, -⟩ := id hE
  refine lv_aload_n hx hb dL_dispute_0 rfl (lv_at hl 3 rfl) ?_
  refine lv_iconst (v := 0) hx hb dL_dispute_1 (by decide) ?_
  refine lv_aload_n hx hb dL_dispute_2 rfl (lv_at hl 0 rfl) ?_
  refine lv_iload_n hx hb dL_dispute_3 rfl (lv_at hl 1 rfl) ?_
  refine lv_iload_n hx hb dL_dispute_4 rfl (lv_at hl 2 rfl) ?_
  refine tp_callVT ⟨hx, hb, hml, hown, hts⟩ (op_dispute_no l D cy n ad o I sa tL tM hlt x hx0 hn6 v) (cwV 2 hts gL_dispute_X1_dispute rfl rfl rfl (by decide +kernel) ⟨(Nat.le_of_ble_eq_true rfl), (Nat.le_of_ble_eq_true rfl)⟩) hE hK hP hD hS hA 0 1 tp_e0 rfl rfl rfl hl.1 rfl (Nat.le_of_ble_eq_true rfl) dL_dispute_5 ⟨(Nat.le_of_ble_eq_true rfl), (Nat.le_of_ble_eq_true rfl)⟩ (fun ce q9 H locs hce hcv hcl hP hD hS => ?_)
  refine vx_catch (own := RL) (E := "java/lang/IndexOutOfBoundsException") (name := "java/lang/IndexOutOfBoundsException") hown [] ⟨0, 17, 20, 19⟩ [] htb (fun z hz => nomatch hz) (by decide) (by decide) (hts _ (List.mem_of_getElem? (i := 1) rfl)) (va_Nw.use rfl (hEw _ (List.mem_of_getElem? (i := 19) rfl))) hce hcv hcl ?_
  refine lv_astore (lv' := [(4, .ref q9), (0, .ref (ad 0)), (1, .int x), (2, .int v), (3, .ref (ad 13))]) hx hb dL_dispute_20 hl (by decide) rfl (fun ls hl => ?_)
  refine lv_iconst (v := 1) hx hb dL_dispute_22 (by decide) ?_
  exact tp_retL hx hb hr hlocks hK hP hD hS rfl rfl rfl dL_dispute_23
set_option maxHeartbeats 4000000 in
set_option maxRecDepth 100000 in
/-- the law's dispute: ok -/
theorem lp_dispute_ok (l : Launch) (D : va_G) (cy : Nat → ClassId) (n : Nat) (ad : Nat → Nat) (o : Int64) (I : Nat → Nat → Int32) (sa : Nat → Nat) (tL tM : Nat) (hlt : l.stackTraces = false) (i : Nat) (hi : i < n) (hn6 : n ≤ 6) (v : Int32) (hv01 : v = 0 ∨ v = 1) (hd01 : I (14 + 15 * i) 8 = 0 ∨ I (14 + 15 * i) 8 = 1) : tp_L l yL_dispute wsL_dispute 2 46 0 0 D cy n ad sa tL tM [.ref (ad 0), .int (nI i), .int v, .ref (ad 13)] I o 0 (tp_u I (14 + 15 * i) 8 v) ((if I (14 + 15 * i) 8 = 0 then 0 else 1)) := by
  refine tp_ofL (lv := [(0, .ref (ad 0)), (1, .int (nI i)), (2, .int v), (3, .ref (ad 13))]) (by decide) rfl (Nat.le_of_ble_eq_true rfl) rfl (fun p e s m args below meth c A ls S0 hE htb => ?_)
  obtain ⟨hx, hb, hr, hml, hown, hts, hlocks, hA, hK, hP, hD, hS, hl⟩ := S0
  obtain ⟨-, -, -, hEw, hEc, -, -⟩ := id hE
  refine lv_aload_n hx hb dL_dispute_0 rfl (lv_at hl 3 rfl) ?_
  refine lv_iconst (v := 0) hx hb dL_dispute_1 (by decide) ?_
  refine lv_aload_n hx hb dL_dispute_2 rfl (lv_at hl 0 rfl) ?_
  refine lv_iload_n hx hb dL_dispute_3 rfl (lv_at hl 1 rfl) ?_
  refine lv_iload_n hx hb dL_dispute_4 rfl (lv_at hl 2 rfl) ?_
  refine tp_callE ⟨hx, hb, hml, hown, hts⟩ (op_dispute_ok l D cy n ad o I sa tL tM i hi hn6 v hv01 hd01) (cwV 2 hts gL_dispute_X1_dispute rfl rfl rfl (by decide +kernel) ⟨(Nat.le_of_ble_eq_true rfl), (Nat.le_of_ble_eq_true rfl)⟩) hE hK hP hD hS hA 0 1 tp_e0 rfl rfl rfl hl.1 rfl (Nat.le_of_ble_eq_true rfl) dL_dispute_5 ⟨Nat.zero_le _, Nat.zero_le _⟩ (fun I9 e9 H locs hP hD hS => ?_)
  subst e9
  refine tp_meetH (D := D) (cy := cy) (n := n) (ad := ad) (I := tp_u I (14 + 15 * i) 8 v) (o := o) (A := A) (H0 := s.heap) (if I (14 + 15 * i) 8 = 0 then 0 else 1 : Int64) (fun y => F0 m 16 ls [.long y, .int 0, .ref (ad 13)]) (fun hj => ?_) (fun H locs hP hD hS => ?_)
  · refine lv_if_eq (tgt := 15) hx hb dL_dispute_8 (by decide) (fun c8 => ?_) (fun c8 => ?_)
    · refine lv_lconst (v := 0) hx hb dL_dispute_15 (by decide) ?_
      exact hj _ (by rw [if_pos c8]) H locs hP hD hS
    · refine lv_lconst (v := 1) hx hb dL_dispute_11 (by decide) ?_
      refine lv_goto (tgt := 16) hx hb dL_dispute_12 (by decide) ?_
      exact hj _ (by rw [if_neg c8]) H locs hP hD hS
  refine tp_lst hx hb hK hP hD hS dL_dispute_16 (fun H locs hP hD hS => ?_)
  refine lv_goto (tgt := 24) hx hb dL_dispute_17 (by decide) ?_
  refine lv_iconst (v := 0) hx hb dL_dispute_24 (by decide) ?_
  exact tp_retL hx hb hr hlocks hK hP hD hS rfl rfl rfl dL_dispute_25
set_option maxHeartbeats 4000000 in
set_option maxRecDepth 100000 in
/-- the law's payBack: no -/
theorem lp_payBack_no (l : Launch) (D : va_G) (cy : Nat → ClassId) (n : Nat) (ad : Nat → Nat) (o : Int64) (I : Nat → Nat → Int32) (sa : Nat → Nat) (tL tM : Nat) (hlt : l.stackTraces = false) (x : Int32) (hx0 : ∀ i, i < n → x ≠ nI i) (hn6 : n ≤ 6) (z : Int32) : tp_L l yL_payBack wsL_payBack 8 135 1 6 D cy n ad sa tL tM [.ref (ad 0), .int x, .int z, .ref (ad 13)] I o 1 (I) (o) := by
  refine tp_ofL (lv := [(0, .ref (ad 0)), (1, .int x), (2, .int z), (3, .ref (ad 13))]) (by decide) rfl (Nat.le_of_ble_eq_true rfl) rfl (fun p e s m args below meth c A ls S0 hE htb => ?_)
  obtain ⟨hx, hb, hr, hml, hown, hts, hlocks, hA, hK, hP, hD, hS, hl⟩ := S0
  obtain ⟨-, -, -, hEw, hEc, -, -⟩ := id hE
  refine lv_aload_n hx hb dL_payBack_0 rfl (lv_at hl 3 rfl) ?_
  refine lv_iconst (v := 0) hx hb dL_payBack_1 (by decide) ?_
  refine lv_aload_n hx hb dL_payBack_2 rfl (lv_at hl 0 rfl) ?_
  refine lv_iload_n hx hb dL_payBack_3 rfl (lv_at hl 1 rfl) ?_
  refine lv_iload_n hx hb dL_payBack_4 rfl (lv_at hl 2 rfl) ?_
  refine tp_callVT ⟨hx, hb, hml, hown, hts⟩ (op_payBack_no l D cy n ad o I sa tL tM hlt x hx0 hn6 z) (cwV 2 hts gL_payBack_X1_payBack rfl rfl rfl (by decide +kernel) ⟨(Nat.le_of_ble_eq_true rfl), (Nat.le_of_ble_eq_true rfl)⟩) hE hK hP hD hS hA 0 1 tp_e0 rfl rfl rfl hl.1 rfl (Nat.le_of_ble_eq_true rfl) dL_payBack_5 ⟨(Nat.le_of_ble_eq_true rfl), (Nat.le_of_ble_eq_true rfl)⟩ (fun ce q9 H locs hce hcv hcl hP hD hS => ?_)
  refine vx_catch (own := RL) (E := "java/lang/IndexOutOfBoundsException") (name := "java/lang/IndexOutOfBoundsException") hown [] ⟨0, 10, 13, 19⟩ [⟨0, 10, 17, 21⟩, ⟨0, 10, 21, 13⟩] htb (fun z hz => nomatch hz) (by decide) (by decide) (hts _ (List.mem_of_getElem? (i := 1) rfl)) (va_Nw.use rfl (hEw _ (List.mem_of_getElem? (i := 19) rfl))) hce hcv hcl ?_
  refine lv_astore (lv' := [(4, .ref q9), (0, .ref (ad 0)), (1, .int x), (2, .int z), (3, .ref (ad 13))]) hx hb dL_payBack_13 hl (by decide) rfl (fun ls hl => ?_)
  refine lv_iconst (v := 1) hx hb dL_payBack_15 (by decide) ?_
  exact tp_retL hx hb hr hlocks hK hP hD hS rfl rfl rfl dL_payBack_16
set_option maxHeartbeats 4000000 in
set_option maxRecDepth 100000 in
/-- the law's payBack: bad -/
theorem lp_payBack_bad (l : Launch) (D : va_G) (cy : Nat → ClassId) (n : Nat) (ad : Nat → Nat) (o : Int64) (I : Nat → Nat → Int32) (sa : Nat → Nat) (tL tM : Nat) (hlt : l.stackTraces = false) (i : Nat) (hi : i < n) (hn6 : n ≤ 6) (x : Int32) (hxb : x < 1 ∨ ¬ x ≤ 1000000) : tp_L l yL_payBack wsL_payBack 7 113 1 6 D cy n ad sa tL tM [.ref (ad 0), .int (nI i), .int x, .ref (ad 13)] I o 2 (I) (o) := by
  refine tp_ofL (lv := [(0, .ref (ad 0)), (1, .int (nI i)), (2, .int x), (3, .ref (ad 13))]) (by decide) rfl (Nat.le_of_ble_eq_true rfl) rfl (fun p e s m args below meth c A ls S0 hE htb => ?_)
  obtain ⟨hx, hb, hr, hml, hown, hts, hlocks, hA, hK, hP, hD, hS, hl⟩ := S0
  obtain ⟨-, -, -, hEw, hEc, -, -⟩ := id hE
  refine lv_aload_n hx hb dL_payBack_0 rfl (lv_at hl 3 rfl) ?_
  refine lv_iconst (v := 0) hx hb dL_payBack_1 (by decide) ?_
  refine lv_aload_n hx hb dL_payBack_2 rfl (lv_at hl 0 rfl) ?_
  refine lv_iload_n hx hb dL_payBack_3 rfl (lv_at hl 1 rfl) ?_
  refine lv_iload_n hx hb dL_payBack_4 rfl (lv_at hl 2 rfl) ?_
  refine tp_callVT ⟨hx, hb, hml, hown, hts⟩ (op_payBack_bad l D cy n ad o I sa tL tM hlt i hi hn6 x hxb) (cwV 2 hts gL_payBack_X1_payBack rfl rfl rfl (by decide +kernel) ⟨(Nat.le_of_ble_eq_true rfl), (Nat.le_of_ble_eq_true rfl)⟩) hE hK hP hD hS hA 0 1 tp_e0 rfl rfl rfl hl.1 rfl (Nat.le_of_ble_eq_true rfl) dL_payBack_5 ⟨(Nat.le_of_ble_eq_true rfl), (Nat.le_of_ble_eq_true rfl)⟩ (fun ce q9 H locs hce hcv hcl hP hD hS => ?_)
  refine vx_catch (own := RL) (E := "java/lang/IllegalArgumentException") (name := "java/lang/IllegalArgumentException") hown [⟨0, 10, 13, 19⟩] ⟨0, 10, 17, 21⟩ [⟨0, 10, 21, 13⟩] htb (fun z hz => by
      simp only [List.mem_cons, List.not_mem_nil, or_false] at hz
      subst hz
      exact Or.inr ⟨by decide, _, (hts _ (List.mem_of_getElem? (i := 1) rfl)), hEc ("java/lang/IllegalArgumentException", "java/lang/IndexOutOfBoundsException") (by decide)⟩) (by decide) (by decide) (hts _ (List.mem_of_getElem? (i := 2) rfl)) (va_Nw.use rfl (hEw _ (List.mem_of_getElem? (i := 18) rfl))) hce hcv hcl ?_
  refine lv_astore (lv' := [(4, .ref q9), (0, .ref (ad 0)), (1, .int (nI i)), (2, .int x), (3, .ref (ad 13))]) hx hb dL_payBack_17 hl (by decide) rfl (fun ls hl => ?_)
  refine lv_iconst (v := 2) hx hb dL_payBack_19 (by decide) ?_
  exact tp_retL hx hb hr hlocks hK hP hD hS rfl rfl rfl dL_payBack_20
set_option maxHeartbeats 4000000 in
set_option maxRecDepth 100000 in
/-- the law's payBack: less -/
theorem lp_payBack_less (l : Launch) (D : va_G) (cy : Nat → ClassId) (n : Nat) (ad : Nat → Nat) (o : Int64) (I : Nat → Nat → Int32) (sa : Nat → Nat) (tL tM : Nat) (hlt : l.stackTraces = false) (i : Nat) (hi : i < n) (hn6 : n ≤ 6) (x : Int32) (hx1 : ¬ x < 1) (hx2 : x ≤ 1000000) (hx3 : ¬ x ≤ I (14 + 15 * i) 6) : tp_L l yL_payBack wsL_payBack 7 113 1 6 D cy n ad sa tL tM [.ref (ad 0), .int (nI i), .int x, .ref (ad 13)] I o 3 (I) (o) := by
  refine tp_ofL (lv := [(0, .ref (ad 0)), (1, .int (nI i)), (2, .int x), (3, .ref (ad 13))]) (by decide) rfl (Nat.le_of_ble_eq_true rfl) rfl (fun p e s m args below meth c A ls S0 hE htb => ?_)
  obtain ⟨hx, hb, hr, hml, hown, hts, hlocks, hA, hK, hP, hD, hS, hl⟩ := S0
  obtain ⟨-, -, -, hEw, hEc, -, -⟩ := id hE
  refine lv_aload_n hx hb dL_payBack_0 rfl (lv_at hl 3 rfl) ?_
  refine lv_iconst (v := 0) hx hb dL_payBack_1 (by decide) ?_
  refine lv_aload_n hx hb dL_payBack_2 rfl (lv_at hl 0 rfl) ?_
  refine lv_iload_n hx hb dL_payBack_3 rfl (lv_at hl 1 rfl) ?_
  refine lv_iload_n hx hb dL_payBack_4 rfl (lv_at hl 2 rfl) ?_
  refine tp_callVT ⟨hx, hb, hml, hown, hts⟩ (op_payBack_less l D cy n ad o I sa tL tM hlt i hi hn6 x hx1 hx2 hx3) (cwV 2 hts gL_payBack_X1_payBack rfl rfl rfl (by decide +kernel) ⟨(Nat.le_of_ble_eq_true rfl), (Nat.le_of_ble_eq_true rfl)⟩) hE hK hP hD hS hA 0 1 tp_e0 rfl rfl rfl hl.1 rfl (Nat.le_of_ble_eq_true rfl) dL_payBack_5 ⟨(Nat.le_of_ble_eq_true rfl), (Nat.le_of_ble_eq_true rfl)⟩ (fun ce q9 H locs hce hcv hcl hP hD hS => ?_)
  refine vx_catch (own := RL) (E := "java/lang/IllegalStateException") (name := "java/lang/IllegalStateException") hown [⟨0, 10, 13, 19⟩, ⟨0, 10, 17, 21⟩] ⟨0, 10, 21, 13⟩ [] htb (fun z hz => by
      simp only [List.mem_cons, List.not_mem_nil, or_false] at hz
      rcases hz with rfl | rfl
      · exact Or.inr ⟨by decide, _, (hts _ (List.mem_of_getElem? (i := 1) rfl)), hEc ("java/lang/IllegalStateException", "java/lang/IndexOutOfBoundsException") (by decide)⟩
      · exact Or.inr ⟨by decide, _, (hts _ (List.mem_of_getElem? (i := 2) rfl)), hEc ("java/lang/IllegalStateException", "java/lang/IllegalArgumentException") (by decide)⟩) (by decide) (by decide) (hts _ (List.mem_of_getElem? (i := 3) rfl)) (va_Nw.use rfl (hEw _ (List.mem_of_getElem? (i := 17) rfl))) hce hcv hcl ?_
  refine lv_astore (lv' := [(4, .ref q9), (0, .ref (ad 0)), (1, .int (nI i)), (2, .int x), (3, .ref (ad 13))]) hx hb dL_payBack_21 hl (by decide) rfl (fun ls hl => ?_)
  refine lv_iconst (v := 3) hx hb dL_payBack_23 (by decide) ?_
  exact tp_retL hx hb hr hlocks hK hP hD hS rfl rfl rfl dL_payBack_24
set_option maxHeartbeats 4000000 in
set_option maxRecDepth 100000 in
/-- the law's payBack: ok -/
theorem lp_payBack_ok (l : Launch) (D : va_G) (cy : Nat → ClassId) (n : Nat) (ad : Nat → Nat) (o : Int64) (I : Nat → Nat → Int32) (sa : Nat → Nat) (tL tM : Nat) (hlt : l.stackTraces = false) (i : Nat) (hi : i < n) (hn6 : n ≤ 6) (x : Int32) (hx1 : ¬ x < 1) (hx2 : x ≤ 1000000) (hx3 : x ≤ I (14 + 15 * i) 6) : tp_L l yL_payBack wsL_payBack 2 45 0 0 D cy n ad sa tL tM [.ref (ad 0), .int (nI i), .int x, .ref (ad 13)] I o 0 (tp_u (tp_u I (14 + 15 * i) 6 (I (14 + 15 * i) 6 - x)) (14 + 15 * i) 7 (I (14 + 15 * i) 7 + x)) ((I (14 + 15 * i) 6 - x).toInt64) := by
  refine tp_ofL (lv := [(0, .ref (ad 0)), (1, .int (nI i)), (2, .int x), (3, .ref (ad 13))]) (by decide) rfl (Nat.le_of_ble_eq_true rfl) rfl (fun p e s m args below meth c A ls S0 hE htb => ?_)
  obtain ⟨hx, hb, hr, hml, hown, hts, hlocks, hA, hK, hP, hD, hS, hl⟩ := S0
  obtain ⟨-, -, -, hEw, hEc, -, -⟩ := id hE
  refine lv_aload_n hx hb dL_payBack_0 rfl (lv_at hl 3 rfl) ?_
  refine lv_iconst (v := 0) hx hb dL_payBack_1 (by decide) ?_
  refine lv_aload_n hx hb dL_payBack_2 rfl (lv_at hl 0 rfl) ?_
  refine lv_iload_n hx hb dL_payBack_3 rfl (lv_at hl 1 rfl) ?_
  refine lv_iload_n hx hb dL_payBack_4 rfl (lv_at hl 2 rfl) ?_
  refine tp_callE ⟨hx, hb, hml, hown, hts⟩ (op_payBack_ok l D cy n ad o I sa tL tM i hi hn6 x hx1 hx2 hx3) (cwV 2 hts gL_payBack_X1_payBack rfl rfl rfl (by decide +kernel) ⟨(Nat.le_of_ble_eq_true rfl), (Nat.le_of_ble_eq_true rfl)⟩) hE hK hP hD hS hA 0 1 tp_e0 rfl rfl rfl hl.1 rfl (Nat.le_of_ble_eq_true rfl) dL_payBack_5 ⟨Nat.zero_le _, Nat.zero_le _⟩ (fun I9 e9 H locs hP hD hS => ?_)
  subst e9
  refine lv_i2l hx hb dL_payBack_8 rfl ?_
  refine tp_lst hx hb hK hP hD hS dL_payBack_9 (fun H locs hP hD hS => ?_)
  refine lv_goto (tgt := 25) hx hb dL_payBack_10 (by decide) ?_
  refine lv_iconst (v := 0) hx hb dL_payBack_25 (by decide) ?_
  exact tp_retL hx hb hr hlocks hK hP hD hS rfl rfl rfl dL_payBack_26
set_option maxHeartbeats 4000000 in
set_option maxRecDepth 100000 in
/-- the law's tell: no -/
theorem lp_tell_no (l : Launch) (D : va_G) (cy : Nat → ClassId) (n : Nat) (ad : Nat → Nat) (o : Int64) (I : Nat → Nat → Int32) (sa : Nat → Nat) (tL tM : Nat) (hlt : l.stackTraces = false) (x : Int32) (hx0 : ∀ i, i < n → x ≠ nI i) (hn6 : n ≤ 6) (f d v : Int32) : tp_L l yL_tell wsL_tell 8 138 1 6 D cy n ad sa tL tM [.ref (ad 0), .int x, .int f, .int d, .int v, .ref (ad 13)] I o 1 (I) (o) := by
  refine tp_ofL (lv := [(0, .ref (ad 0)), (1, .int x), (2, .int f), (3, .int d), (4, .int v), (5, .ref (ad 13))]) (by decide) rfl (Nat.le_of_ble_eq_true rfl) rfl (fun p e s m args below meth c A ls S0 hE htb => ?_)
  obtain ⟨hx, hb, hr, hml, hown, hts, hlocks, hA, hK, hP, hD, hS, hl⟩ := S0
  obtain ⟨-, -, -, hEw, hEc, -, -⟩ := id hE
  refine lv_aload hx hb dL_tell_0 (lv_at hl 5 rfl) ?_
  refine lv_iconst (v := 0) hx hb dL_tell_2 (by decide) ?_
  refine lv_aload_n hx hb dL_tell_3 rfl (lv_at hl 0 rfl) ?_
  refine lv_iload_n hx hb dL_tell_4 rfl (lv_at hl 1 rfl) ?_
  refine lv_iload_n hx hb dL_tell_5 rfl (lv_at hl 2 rfl) ?_
  refine lv_iload_n hx hb dL_tell_6 rfl (lv_at hl 3 rfl) ?_
  refine lv_iload hx hb dL_tell_7 (lv_at hl 4 rfl) ?_
  refine tp_callVT ⟨hx, hb, hml, hown, hts⟩ (op_tell_no l D cy n ad o I sa tL tM hlt x hx0 hn6 f d v) (cwV 4 hts gL_tell_X1_tell rfl rfl rfl (by decide +kernel) ⟨(Nat.le_of_ble_eq_true rfl), (Nat.le_of_ble_eq_true rfl)⟩) hE hK hP hD hS hA 0 1 tp_e0 rfl rfl rfl hl.1 rfl (Nat.le_of_ble_eq_true rfl) dL_tell_9 ⟨(Nat.le_of_ble_eq_true rfl), (Nat.le_of_ble_eq_true rfl)⟩ (fun ce q9 H locs hce hcv hcl hP hD hS => ?_)
  refine vx_catch (own := RL) (E := "java/lang/IndexOutOfBoundsException") (name := "java/lang/IndexOutOfBoundsException") hown [] ⟨0, 14, 17, 19⟩ [⟨0, 14, 21, 21⟩, ⟨0, 14, 25, 13⟩] htb (fun z hz => nomatch hz) (by decide) (by decide) (hts _ (List.mem_of_getElem? (i := 1) rfl)) (va_Nw.use rfl (hEw _ (List.mem_of_getElem? (i := 19) rfl))) hce hcv hcl ?_
  refine lv_astore (lv' := [(6, .ref q9), (0, .ref (ad 0)), (1, .int x), (2, .int f), (3, .int d), (4, .int v), (5, .ref (ad 13))]) hx hb dL_tell_17 hl (by decide) rfl (fun ls hl => ?_)
  refine lv_iconst (v := 1) hx hb dL_tell_19 (by decide) ?_
  exact tp_retL hx hb hr hlocks hK hP hD hS rfl rfl rfl dL_tell_20
set_option maxHeartbeats 4000000 in
set_option maxRecDepth 100000 in
/-- the law's tell: fact -/
theorem lp_tell_fact (l : Launch) (D : va_G) (cy : Nat → ClassId) (n : Nat) (ad : Nat → Nat) (o : Int64) (I : Nat → Nat → Int32) (sa : Nat → Nat) (tL tM : Nat) (hlt : l.stackTraces = false) (i : Nat) (hi : i < n) (hn6 : n ≤ 6) (x : Int32) (hx0 : ∀ j, j < 5 → x ≠ nI j) (d v : Int32) : tp_L l yL_tell wsL_tell 8 136 1 6 D cy n ad sa tL tM [.ref (ad 0), .int (nI i), .int x, .int d, .int v, .ref (ad 13)] I o 2 (I) (o) := by
  refine tp_ofL (lv := [(0, .ref (ad 0)), (1, .int (nI i)), (2, .int x), (3, .int d), (4, .int v), (5, .ref (ad 13))]) (by decide) rfl (Nat.le_of_ble_eq_true rfl) rfl (fun p e s m args below meth c A ls S0 hE htb => ?_)
  obtain ⟨hx, hb, hr, hml, hown, hts, hlocks, hA, hK, hP, hD, hS, hl⟩ := S0
  obtain ⟨-, -, -, hEw, hEc, -, -⟩ := id hE
  refine lv_aload hx hb dL_tell_0 (lv_at hl 5 rfl) ?_
  refine lv_iconst (v := 0) hx hb dL_tell_2 (by decide) ?_
  refine lv_aload_n hx hb dL_tell_3 rfl (lv_at hl 0 rfl) ?_
  refine lv_iload_n hx hb dL_tell_4 rfl (lv_at hl 1 rfl) ?_
  refine lv_iload_n hx hb dL_tell_5 rfl (lv_at hl 2 rfl) ?_
  refine lv_iload_n hx hb dL_tell_6 rfl (lv_at hl 3 rfl) ?_
  refine lv_iload hx hb dL_tell_7 (lv_at hl 4 rfl) ?_
  refine tp_callVT ⟨hx, hb, hml, hown, hts⟩ (op_tell_fact l D cy n ad o I sa tL tM hlt i hi hn6 x hx0 d v) (cwV 4 hts gL_tell_X1_tell rfl rfl rfl (by decide +kernel) ⟨(Nat.le_of_ble_eq_true rfl), (Nat.le_of_ble_eq_true rfl)⟩) hE hK hP hD hS hA 0 1 tp_e0 rfl rfl rfl hl.1 rfl (Nat.le_of_ble_eq_true rfl) dL_tell_9 ⟨(Nat.le_of_ble_eq_true rfl), (Nat.le_of_ble_eq_true rfl)⟩ (fun ce q9 H locs hce hcv hcl hP hD hS => ?_)
  refine vx_catch (own := RL) (E := "java/lang/IllegalArgumentException") (name := "java/lang/IllegalArgumentException") hown [⟨0, 14, 17, 19⟩] ⟨0, 14, 21, 21⟩ [⟨0, 14, 25, 13⟩] htb (fun z hz => by
      simp only [List.mem_cons, List.not_mem_nil, or_false] at hz
      subst hz
      exact Or.inr ⟨by decide, _, (hts _ (List.mem_of_getElem? (i := 1) rfl)), hEc ("java/lang/IllegalArgumentException", "java/lang/IndexOutOfBoundsException") (by decide)⟩) (by decide) (by decide) (hts _ (List.mem_of_getElem? (i := 2) rfl)) (va_Nw.use rfl (hEw _ (List.mem_of_getElem? (i := 18) rfl))) hce hcv hcl ?_
  refine lv_astore (lv' := [(6, .ref q9), (0, .ref (ad 0)), (1, .int (nI i)), (2, .int x), (3, .int d), (4, .int v), (5, .ref (ad 13))]) hx hb dL_tell_21 hl (by decide) rfl (fun ls hl => ?_)
  refine lv_iconst (v := 2) hx hb dL_tell_23 (by decide) ?_
  exact tp_retL hx hb hr hlocks hK hP hD hS rfl rfl rfl dL_tell_24
set_option maxHeartbeats 4000000 in
set_option maxRecDepth 100000 in
/-- the law's tell: day -/
theorem lp_tell_day (l : Launch) (D : va_G) (cy : Nat → ClassId) (n : Nat) (ad : Nat → Nat) (o : Int64) (I : Nat → Nat → Int32) (sa : Nat → Nat) (tL tM : Nat) (hlt : l.stackTraces = false) (i : Nat) (hi : i < n) (hn6 : n ≤ 6) (f0 : Nat) (hf5 : f0 < 5) (d v : Int32) (hd : ∀ j, j < 1440 → d ≠ nI j) : tp_L l yL_tell wsL_tell 7 116 1 6 D cy n ad sa tL tM [.ref (ad 0), .int (nI i), .int (nI f0), .int d, .int v, .ref (ad 13)] I o 2 (I) (o) := by
  refine tp_ofL (lv := [(0, .ref (ad 0)), (1, .int (nI i)), (2, .int (nI f0)), (3, .int d), (4, .int v), (5, .ref (ad 13))]) (by decide) rfl (Nat.le_of_ble_eq_true rfl) rfl (fun p e s m args below meth c A ls S0 hE htb => ?_)
  obtain ⟨hx, hb, hr, hml, hown, hts, hlocks, hA, hK, hP, hD, hS, hl⟩ := S0
  obtain ⟨-, -, -, hEw, hEc, -, -⟩ := id hE
  refine lv_aload hx hb dL_tell_0 (lv_at hl 5 rfl) ?_
  refine lv_iconst (v := 0) hx hb dL_tell_2 (by decide) ?_
  refine lv_aload_n hx hb dL_tell_3 rfl (lv_at hl 0 rfl) ?_
  refine lv_iload_n hx hb dL_tell_4 rfl (lv_at hl 1 rfl) ?_
  refine lv_iload_n hx hb dL_tell_5 rfl (lv_at hl 2 rfl) ?_
  refine lv_iload_n hx hb dL_tell_6 rfl (lv_at hl 3 rfl) ?_
  refine lv_iload hx hb dL_tell_7 (lv_at hl 4 rfl) ?_
  refine tp_callVT ⟨hx, hb, hml, hown, hts⟩ (op_tell_day l D cy n ad o I sa tL tM hlt i hi hn6 f0 hf5 d v hd) (cwV 4 hts gL_tell_X1_tell rfl rfl rfl (by decide +kernel) ⟨(Nat.le_of_ble_eq_true rfl), (Nat.le_of_ble_eq_true rfl)⟩) hE hK hP hD hS hA 0 1 tp_e0 rfl rfl rfl hl.1 rfl (Nat.le_of_ble_eq_true rfl) dL_tell_9 ⟨(Nat.le_of_ble_eq_true rfl), (Nat.le_of_ble_eq_true rfl)⟩ (fun ce q9 H locs hce hcv hcl hP hD hS => ?_)
  refine vx_catch (own := RL) (E := "java/lang/IllegalArgumentException") (name := "java/lang/IllegalArgumentException") hown [⟨0, 14, 17, 19⟩] ⟨0, 14, 21, 21⟩ [⟨0, 14, 25, 13⟩] htb (fun z hz => by
      simp only [List.mem_cons, List.not_mem_nil, or_false] at hz
      subst hz
      exact Or.inr ⟨by decide, _, (hts _ (List.mem_of_getElem? (i := 1) rfl)), hEc ("java/lang/IllegalArgumentException", "java/lang/IndexOutOfBoundsException") (by decide)⟩) (by decide) (by decide) (hts _ (List.mem_of_getElem? (i := 2) rfl)) (va_Nw.use rfl (hEw _ (List.mem_of_getElem? (i := 18) rfl))) hce hcv hcl ?_
  refine lv_astore (lv' := [(6, .ref q9), (0, .ref (ad 0)), (1, .int (nI i)), (2, .int (nI f0)), (3, .int d), (4, .int v), (5, .ref (ad 13))]) hx hb dL_tell_21 hl (by decide) rfl (fun ls hl => ?_)
  refine lv_iconst (v := 2) hx hb dL_tell_23 (by decide) ?_
  exact tp_retL hx hb hr hlocks hK hP hD hS rfl rfl rfl dL_tell_24
set_option maxHeartbeats 4000000 in
set_option maxRecDepth 100000 in
/-- the law's tell: value -/
theorem lp_tell_value (l : Launch) (D : va_G) (cy : Nat → ClassId) (n : Nat) (ad : Nat → Nat) (o : Int64) (I : Nat → Nat → Int32) (sa : Nat → Nat) (tL tM : Nat) (hlt : l.stackTraces = false) (i : Nat) (hi : i < n) (hn6 : n ≤ 6) (f0 d0 : Nat) (hf5 : f0 < 5) (hd0 : d0 < 1440) (v : Int32) (hvb : v < tp_vl f0 ∨ ¬ v ≤ tp_vm f0) : tp_L l yL_tell wsL_tell 7 116 1 6 D cy n ad sa tL tM [.ref (ad 0), .int (nI i), .int (nI f0), .int (nI d0), .int v, .ref (ad 13)] I o 2 (I) (o) := by
  refine tp_ofL (lv := [(0, .ref (ad 0)), (1, .int (nI i)), (2, .int (nI f0)), (3, .int (nI d0)), (4, .int v), (5, .ref (ad 13))]) (by decide) rfl (Nat.le_of_ble_eq_true rfl) rfl (fun p e s m args below meth c A ls S0 hE htb => ?_)
  obtain ⟨hx, hb, hr, hml, hown, hts, hlocks, hA, hK, hP, hD, hS, hl⟩ := S0
  obtain ⟨-, -, -, hEw, hEc, -, -⟩ := id hE
  refine lv_aload hx hb dL_tell_0 (lv_at hl 5 rfl) ?_
  refine lv_iconst (v := 0) hx hb dL_tell_2 (by decide) ?_
  refine lv_aload_n hx hb dL_tell_3 rfl (lv_at hl 0 rfl) ?_
  refine lv_iload_n hx hb dL_tell_4 rfl (lv_at hl 1 rfl) ?_
  refine lv_iload_n hx hb dL_tell_5 rfl (lv_at hl 2 rfl) ?_
  refine lv_iload_n hx hb dL_tell_6 rfl (lv_at hl 3 rfl) ?_
  refine lv_iload hx hb dL_tell_7 (lv_at hl 4 rfl) ?_
  refine tp_callVT ⟨hx, hb, hml, hown, hts⟩ (op_tell_value l D cy n ad o I sa tL tM hlt i hi hn6 f0 d0 hf5 hd0 v hvb) (cwV 4 hts gL_tell_X1_tell rfl rfl rfl (by decide +kernel) ⟨(Nat.le_of_ble_eq_true rfl), (Nat.le_of_ble_eq_true rfl)⟩) hE hK hP hD hS hA 0 1 tp_e0 rfl rfl rfl hl.1 rfl (Nat.le_of_ble_eq_true rfl) dL_tell_9 ⟨(Nat.le_of_ble_eq_true rfl), (Nat.le_of_ble_eq_true rfl)⟩ (fun ce q9 H locs hce hcv hcl hP hD hS => ?_)
  refine vx_catch (own := RL) (E := "java/lang/IllegalArgumentException") (name := "java/lang/IllegalArgumentException") hown [⟨0, 14, 17, 19⟩] ⟨0, 14, 21, 21⟩ [⟨0, 14, 25, 13⟩] htb (fun z hz => by
      simp only [List.mem_cons, List.not_mem_nil, or_false] at hz
      subst hz
      exact Or.inr ⟨by decide, _, (hts _ (List.mem_of_getElem? (i := 1) rfl)), hEc ("java/lang/IllegalArgumentException", "java/lang/IndexOutOfBoundsException") (by decide)⟩) (by decide) (by decide) (hts _ (List.mem_of_getElem? (i := 2) rfl)) (va_Nw.use rfl (hEw _ (List.mem_of_getElem? (i := 18) rfl))) hce hcv hcl ?_
  refine lv_astore (lv' := [(6, .ref q9), (0, .ref (ad 0)), (1, .int (nI i)), (2, .int (nI f0)), (3, .int (nI d0)), (4, .int v), (5, .ref (ad 13))]) hx hb dL_tell_21 hl (by decide) rfl (fun ls hl => ?_)
  refine lv_iconst (v := 2) hx hb dL_tell_23 (by decide) ?_
  exact tp_retL hx hb hr hlocks hK hP hD hS rfl rfl rfl dL_tell_24
set_option maxHeartbeats 4000000 in
set_option maxRecDepth 100000 in
/-- the law's tell: full -/
theorem lp_tell_full (l : Launch) (D : va_G) (cy : Nat → ClassId) (n : Nat) (ad : Nat → Nat) (o : Int64) (I : Nat → Nat → Int32) (sa : Nat → Nat) (tL tM : Nat) (hlt : l.stackTraces = false) (i : Nat) (hi : i < n) (hn6 : n ≤ 6) (f0 d0 : Nat) (hf5 : f0 < 5) (hd0 : d0 < 1440) (v : Int32) (hv1 : ¬ v < tp_vl f0) (hv2 : v ≤ tp_vm f0) (h100 : ¬ I (14 + 15 * i) 2 < 100) : tp_L l yL_tell wsL_tell 7 116 1 6 D cy n ad sa tL tM [.ref (ad 0), .int (nI i), .int (nI f0), .int (nI d0), .int v, .ref (ad 13)] I o 3 (I) (o) := by
  refine tp_ofL (lv := [(0, .ref (ad 0)), (1, .int (nI i)), (2, .int (nI f0)), (3, .int (nI d0)), (4, .int v), (5, .ref (ad 13))]) (by decide) rfl (Nat.le_of_ble_eq_true rfl) rfl (fun p e s m args below meth c A ls S0 hE htb => ?_)
  obtain ⟨hx, hb, hr, hml, hown, hts, hlocks, hA, hK, hP, hD, hS, hl⟩ := S0
  obtain ⟨-, -, -, hEw, hEc, -, -⟩ := id hE
  refine lv_aload hx hb dL_tell_0 (lv_at hl 5 rfl) ?_
  refine lv_iconst (v := 0) hx hb dL_tell_2 (by decide) ?_
  refine lv_aload_n hx hb dL_tell_3 rfl (lv_at hl 0 rfl) ?_
  refine lv_iload_n hx hb dL_tell_4 rfl (lv_at hl 1 rfl) ?_
  refine lv_iload_n hx hb dL_tell_5 rfl (lv_at hl 2 rfl) ?_
  refine lv_iload_n hx hb dL_tell_6 rfl (lv_at hl 3 rfl) ?_
  refine lv_iload hx hb dL_tell_7 (lv_at hl 4 rfl) ?_
  refine tp_callVT ⟨hx, hb, hml, hown, hts⟩ (op_tell_full l D cy n ad o I sa tL tM hlt i hi hn6 f0 d0 hf5 hd0 v hv1 hv2 h100) (cwV 4 hts gL_tell_X1_tell rfl rfl rfl (by decide +kernel) ⟨(Nat.le_of_ble_eq_true rfl), (Nat.le_of_ble_eq_true rfl)⟩) hE hK hP hD hS hA 0 1 tp_e0 rfl rfl rfl hl.1 rfl (Nat.le_of_ble_eq_true rfl) dL_tell_9 ⟨(Nat.le_of_ble_eq_true rfl), (Nat.le_of_ble_eq_true rfl)⟩ (fun ce q9 H locs hce hcv hcl hP hD hS => ?_)
  refine vx_catch (own := RL) (E := "java/lang/IllegalStateException") (name := "java/lang/IllegalStateException") hown [⟨0, 14, 17, 19⟩, ⟨0, 14, 21, 21⟩] ⟨0, 14, 25, 13⟩ [] htb (fun z hz => by
      simp only [List.mem_cons, List.not_mem_nil, or_false] at hz
      rcases hz with rfl | rfl
      · exact Or.inr ⟨by decide, _, (hts _ (List.mem_of_getElem? (i := 1) rfl)), hEc ("java/lang/IllegalStateException", "java/lang/IndexOutOfBoundsException") (by decide)⟩
      · exact Or.inr ⟨by decide, _, (hts _ (List.mem_of_getElem? (i := 2) rfl)), hEc ("java/lang/IllegalStateException", "java/lang/IllegalArgumentException") (by decide)⟩) (by decide) (by decide) (hts _ (List.mem_of_getElem? (i := 3) rfl)) (va_Nw.use rfl (hEw _ (List.mem_of_getElem? (i := 17) rfl))) hce hcv hcl ?_
  refine lv_astore (lv' := [(6, .ref q9), (0, .ref (ad 0)), (1, .int (nI i)), (2, .int (nI f0)), (3, .int (nI d0)), (4, .int v), (5, .ref (ad 13))]) hx hb dL_tell_25 hl (by decide) rfl (fun ls hl => ?_)
  refine lv_iconst (v := 3) hx hb dL_tell_27 (by decide) ?_
  exact tp_retL hx hb hr hlocks hK hP hD hS rfl rfl rfl dL_tell_28
set_option maxHeartbeats 4000000 in
set_option maxRecDepth 100000 in
/-- the law's tell: ok -/
theorem lp_tell_ok (l : Launch) (D : va_G) (cy : Nat → ClassId) (n : Nat) (ad : Nat → Nat) (o : Int64) (I : Nat → Nat → Int32) (sa : Nat → Nat) (tL tM : Nat) (hlt : l.stackTraces = false) (i : Nat) (hi : i < n) (hn6 : n ≤ 6) (f0 d0 : Nat) (hf5 : f0 < 5) (hd0 : d0 < 1440) (v : Int32) (hv1 : ¬ v < tp_vl f0) (hv2 : v ≤ tp_vm f0) (h100 : I (14 + 15 * i) 2 < 100) (z0 : Nat) (hz1 : tp_r0 d0 ≤ z0) (hz2 : z0 ≤ 48) (hz3 : ∀ m, tp_r0 d0 ≤ m → m < z0 → I (14 + 15 * i + 8 + f0) m ≤ nI (tp_r0 d0)) (hz4 : z0 = 48 ∨ ¬ I (14 + 15 * i + 8 + f0) z0 ≤ nI (tp_r0 d0)) : tp_L l yL_tell wsL_tell 2 50 0 0 D cy n ad sa tL tM [.ref (ad 0), .int (nI i), .int (nI f0), .int (nI d0), .int v, .ref (ad 13)] I o 0 (tp_chg I (14 + 15 * i) f0 (tp_r0 d0) v (z0 - tp_r0 d0)) ((nI (tp_r0 d0)).toInt64) := by
  refine tp_ofL (lv := [(0, .ref (ad 0)), (1, .int (nI i)), (2, .int (nI f0)), (3, .int (nI d0)), (4, .int v), (5, .ref (ad 13))]) (by decide) rfl (Nat.le_of_ble_eq_true rfl) rfl (fun p e s m args below meth c A ls S0 hE htb => ?_)
  obtain ⟨hx, hb, hr, hml, hown, hts, hlocks, hA, hK, hP, hD, hS, hl⟩ := S0
  obtain ⟨-, -, -, hEw, hEc, -, -⟩ := id hE
  refine lv_aload hx hb dL_tell_0 (lv_at hl 5 rfl) ?_
  refine lv_iconst (v := 0) hx hb dL_tell_2 (by decide) ?_
  refine lv_aload_n hx hb dL_tell_3 rfl (lv_at hl 0 rfl) ?_
  refine lv_iload_n hx hb dL_tell_4 rfl (lv_at hl 1 rfl) ?_
  refine lv_iload_n hx hb dL_tell_5 rfl (lv_at hl 2 rfl) ?_
  refine lv_iload_n hx hb dL_tell_6 rfl (lv_at hl 3 rfl) ?_
  refine lv_iload hx hb dL_tell_7 (lv_at hl 4 rfl) ?_
  refine tp_callE ⟨hx, hb, hml, hown, hts⟩ (op_tell_ok l D cy n ad o I sa tL tM i hi hn6 f0 d0 hf5 hd0 v hv1 hv2 h100 z0 hz1 hz2 hz3 hz4) (cwV 4 hts gL_tell_X1_tell rfl rfl rfl (by decide +kernel) ⟨(Nat.le_of_ble_eq_true rfl), (Nat.le_of_ble_eq_true rfl)⟩) hE hK hP hD hS hA 0 1 tp_e0 rfl rfl rfl hl.1 rfl (Nat.le_of_ble_eq_true rfl) dL_tell_9 ⟨Nat.zero_le _, Nat.zero_le _⟩ (fun I9 e9 H locs hP hD hS => ?_)
  subst e9
  refine lv_i2l hx hb dL_tell_12 rfl ?_
  refine tp_lst hx hb hK hP hD hS dL_tell_13 (fun H locs hP hD hS => ?_)
  refine lv_goto (tgt := 29) hx hb dL_tell_14 (by decide) ?_
  refine lv_iconst (v := 0) hx hb dL_tell_29 (by decide) ?_
  exact tp_retL hx hb hr hlocks hK hP hD hS rfl rfl rfl dL_tell_30
set_option maxHeartbeats 4000000 in
set_option maxRecDepth 100000 in
/-- the law's add: full -/
theorem lp_add_full (l : Launch) (D : va_G) (cy : Nat → ClassId) (n : Nat) (ad : Nat → Nat) (o : Int64) (I : Nat → Nat → Int32) (sa : Nat → Nat) (tL tM : Nat) (hlt : l.stackTraces = false) (hf : ¬ I 0 1 < 6) (hf0 : ¬ I 0 1 < 0) : tp_L l yL_add wsL_add 7 111 1 6 D cy n ad sa tL tM [.ref (ad 0), .ref (ad 13)] I o 1 (I) (o) := by
  refine tp_ofL (lv := [(0, .ref (ad 0)), (1, .ref (ad 13))]) (by decide) rfl (Nat.le_of_ble_eq_true rfl) rfl (fun p e s m args below meth c A ls S0 hE htb => ?_)
  obtain ⟨hx, hb, hr, hml, hown, hts, hlocks, hA, hK, hP, hD, hS, hl⟩ := S0
  obtain ⟨-, -, -, hEw, hEc, -, -⟩ := id hE
  refine lv_aload_n hx hb dL_add_0 rfl (lv_at hl 1 rfl) ?_
  refine lv_iconst (v := 0) hx hb dL_add_1 (by decide) ?_
  refine lv_aload_n hx hb dL_add_2 rfl (lv_at hl 0 rfl) ?_
  refine tp_callVT ⟨hx, hb, hml, hown, hts⟩ (op_add_full l D cy n ad o I sa tL tM hlt hf hf0) (cwV 0 hts gL_add_X1_add rfl rfl rfl (by decide +kernel) ⟨(Nat.le_of_ble_eq_true rfl), (Nat.le_of_ble_eq_true rfl)⟩) hE hK hP hD hS hA 0 1 tp_e0 rfl rfl rfl hl.1 rfl (Nat.le_of_ble_eq_true rfl) dL_add_3 ⟨(Nat.le_of_ble_eq_true rfl), (Nat.le_of_ble_eq_true rfl)⟩ (fun ce q9 H locs hce hcv hcl hP hD hS => ?_)
  refine vx_catch (own := RL) (E := "java/lang/IllegalStateException") (name := "java/lang/IllegalStateException") hown [] ⟨0, 8, 11, 13⟩ [] htb (fun z hz => nomatch hz) (by decide) (by decide) (hts _ (List.mem_of_getElem? (i := 1) rfl)) (va_Nw.use rfl (hEw _ (List.mem_of_getElem? (i := 17) rfl))) hce hcv hcl ?_
  refine lv_astore_n (lv' := [(2, .ref q9), (0, .ref (ad 0)), (1, .ref (ad 13))]) hx hb dL_add_11 rfl hl (by decide) rfl (fun ls hl => ?_)
  refine lv_iconst (v := 1) hx hb dL_add_12 (by decide) ?_
  exact tp_retL hx hb hr hlocks hK hP hD hS rfl rfl rfl dL_add_13
set_option maxHeartbeats 4000000 in
set_option maxRecDepth 100000 in
/-- the law's add: end -/
theorem lp_add_end (l : Launch) (D : va_G) (cy : Nat → ClassId) (n : Nat) (ad : Nat → Nat) (o : Int64) (I : Nat → Nat → Int32) (sa : Nat → Nat) (tL tM : Nat) (hlt : l.stackTraces = false) (hf : I 0 1 < 6) (hf0 : ¬ I 0 1 < 0) (he : ¬ I 0 2 < 48) : tp_L l yL_add wsL_add 7 111 1 6 D cy n ad sa tL tM [.ref (ad 0), .ref (ad 13)] I o 1 (I) (o) := by
  refine tp_ofL (lv := [(0, .ref (ad 0)), (1, .ref (ad 13))]) (by decide) rfl (Nat.le_of_ble_eq_true rfl) rfl (fun p e s m args below meth c A ls S0 hE htb => ?_)
  obtain ⟨hx, hb, hr, hml, hown, hts, hlocks, hA, hK, hP, hD, hS, hl⟩ := S0
  obtain ⟨-, -, -, hEw, hEc, -, -⟩ := id hE
  refine lv_aload_n hx hb dL_add_0 rfl (lv_at hl 1 rfl) ?_
  refine lv_iconst (v := 0) hx hb dL_add_1 (by decide) ?_
  refine lv_aload_n hx hb dL_add_2 rfl (lv_at hl 0 rfl) ?_
  refine tp_callVT ⟨hx, hb, hml, hown, hts⟩ (op_add_end l D cy n ad o I sa tL tM hlt hf hf0 he) (cwV 0 hts gL_add_X1_add rfl rfl rfl (by decide +kernel) ⟨(Nat.le_of_ble_eq_true rfl), (Nat.le_of_ble_eq_true rfl)⟩) hE hK hP hD hS hA 0 1 tp_e0 rfl rfl rfl hl.1 rfl (Nat.le_of_ble_eq_true rfl) dL_add_3 ⟨(Nat.le_of_ble_eq_true rfl), (Nat.le_of_ble_eq_true rfl)⟩ (fun ce q9 H locs hce hcv hcl hP hD hS => ?_)
  refine vx_catch (own := RL) (E := "java/lang/IllegalStateException") (name := "java/lang/IllegalStateException") hown [] ⟨0, 8, 11, 13⟩ [] htb (fun z hz => nomatch hz) (by decide) (by decide) (hts _ (List.mem_of_getElem? (i := 1) rfl)) (va_Nw.use rfl (hEw _ (List.mem_of_getElem? (i := 17) rfl))) hce hcv hcl ?_
  refine lv_astore_n (lv' := [(2, .ref q9), (0, .ref (ad 0)), (1, .ref (ad 13))]) hx hb dL_add_11 rfl hl (by decide) rfl (fun ls hl => ?_)
  refine lv_iconst (v := 1) hx hb dL_add_12 (by decide) ?_
  exact tp_retL hx hb hr hlocks hK hP hD hS rfl rfl rfl dL_add_13
set_option maxHeartbeats 4000000 in
set_option maxRecDepth 100000 in
/-- the law's close: end -/
theorem lp_close_end (l : Launch) (D : va_G) (cy : Nat → ClassId) (n : Nat) (ad : Nat → Nat) (o : Int64) (I : Nat → Nat → Int32) (sa : Nat → Nat) (tL tM : Nat) (hlt : l.stackTraces = false) (he : ¬ I 0 2 < 48) : tp_L l yL_close wsL_close 7 115 1 6 D cy n ad sa tL tM [.ref (ad 0), .ref (ad 13)] I o 1 (I) (o) := by
  refine tp_ofL (lv := [(0, .ref (ad 0)), (1, .ref (ad 13))]) (by decide) rfl (Nat.le_of_ble_eq_true rfl) rfl (fun p e s m args below meth c A ls S0 hE htb => ?_)
  obtain ⟨hx, hb, hr, hml, hown, hts, hlocks, hA, hK, hP, hD, hS, hl⟩ := S0
  obtain ⟨-, -, -, hEw, hEc, -, -⟩ := id hE
  refine lv_aload_n hx hb dL_close_0 rfl (lv_at hl 1 rfl) ?_
  refine lv_iconst (v := 0) hx hb dL_close_1 (by decide) ?_
  refine lv_aload_n hx hb dL_close_2 rfl (lv_at hl 0 rfl) ?_
  refine tp_callVT ⟨hx, hb, hml, hown, hts⟩ (op_close_end l D cy n ad o I sa tL tM hlt he) (cwV 0 hts gL_close_X1_close rfl rfl rfl (by decide +kernel) ⟨(Nat.le_of_ble_eq_true rfl), (Nat.le_of_ble_eq_true rfl)⟩) hE hK hP hD hS hA 0 1 tp_e0 rfl rfl rfl hl.1 rfl (Nat.le_of_ble_eq_true rfl) dL_close_3 ⟨(Nat.le_of_ble_eq_true rfl), (Nat.le_of_ble_eq_true rfl)⟩ (fun ce q9 H locs hce hcv hcl hP hD hS => ?_)
  refine vx_catch (own := RL) (E := "java/lang/IllegalStateException") (name := "java/lang/IllegalStateException") hown [] ⟨0, 8, 11, 13⟩ [] htb (fun z hz => nomatch hz) (by decide) (by decide) (hts _ (List.mem_of_getElem? (i := 1) rfl)) (va_Nw.use rfl (hEw _ (List.mem_of_getElem? (i := 17) rfl))) hce hcv hcl ?_
  refine lv_astore_n (lv' := [(2, .ref q9), (0, .ref (ad 0)), (1, .ref (ad 13))]) hx hb dL_close_11 rfl hl (by decide) rfl (fun ls hl => ?_)
  refine lv_iconst (v := 1) hx hb dL_close_12 (by decide) ?_
  exact tp_retL hx hb hr hlocks hK hP hD hS rfl rfl rfl dL_close_13
set_option maxHeartbeats 4000000 in
set_option maxRecDepth 100000 in
/-- the law's close: ok -/
theorem lp_close_ok (l : Launch) (D : va_G) (cy : Nat → ClassId) (n : Nat) (ad : Nat → Nat) (o : Int64) (I : Nat → Nat → Int32) (sa : Nat → Nat) (tL tM : Nat) (hlt : l.stackTraces = false) (aF : Nat → Nat) (e0 : Nat) (hn6 : n ≤ 6) (he : I 0 2 = nI e0) (he8 : e0 < 48) (ha : ∀ h, h < n → I (14 + 15 * h) 3 = nI (aF h)) (ha8 : ∀ h, h < n → aF h ≤ e0) : tp_L l yL_close wsL_close 7 162 0 0 D cy n ad sa tL tM [.ref (ad 0), .ref (ad 13)] I o 0 (tp_u (tp_ost I aF e0 n) 0 2 (nI (e0 + 1))) ((tp_osum I aF e0 n).toInt64) := by
  refine tp_ofL (lv := [(0, .ref (ad 0)), (1, .ref (ad 13))]) (by decide) rfl (Nat.le_of_ble_eq_true rfl) rfl (fun p e s m args below meth c A ls S0 hE htb => ?_)
  obtain ⟨hx, hb, hr, hml, hown, hts, hlocks, hA, hK, hP, hD, hS, hl⟩ := S0
  obtain ⟨-, -, -, hEw, hEc, -, -⟩ := id hE
  refine lv_aload_n hx hb dL_close_0 rfl (lv_at hl 1 rfl) ?_
  refine lv_iconst (v := 0) hx hb dL_close_1 (by decide) ?_
  refine lv_aload_n hx hb dL_close_2 rfl (lv_at hl 0 rfl) ?_
  refine tp_callE ⟨hx, hb, hml, hown, hts⟩ (op_close_ok l D cy n ad o I sa tL tM aF e0 hn6 he he8 ha ha8) (cwV 0 hts gL_close_X1_close rfl rfl rfl (by decide +kernel) ⟨(Nat.le_of_ble_eq_true rfl), (Nat.le_of_ble_eq_true rfl)⟩) hE hK hP hD hS hA 0 1 tp_e0 rfl rfl rfl hl.1 rfl (Nat.le_of_ble_eq_true rfl) dL_close_3 ⟨Nat.zero_le _, Nat.zero_le _⟩ (fun I9 e9 H locs hP hD hS => ?_)
  subst e9
  refine lv_i2l hx hb dL_close_6 rfl ?_
  refine tp_lst hx hb hK hP hD hS dL_close_7 (fun H locs hP hD hS => ?_)
  refine lv_goto (tgt := 14) hx hb dL_close_8 (by decide) ?_
  refine lv_iconst (v := 0) hx hb dL_close_14 (by decide) ?_
  exact tp_retL hx hb hr hlocks hK hP hD hS rfl rfl rfl dL_close_15
/-- the law's add: the world grows -/
def tp_LA (l : Launch) (D : va_G) (cy : Nat → ClassId) (n : Nat) (ad : Nat → Nat) (sa : Nat → Nat) (tL tM : Nat) (I : Nat → Nat → Int32) (o : Int64) (e0 : Nat) : Prop :=
  ∀ sz : Nat, Met l yL_add wsL_add { frames := 3, cells := 15, slots := 595, locals := 63 } (va_Pc [.ref (ad 0), .ref (ad 13)] (tp_PE D cy n ad I o sa tL tM sz)) (va_Qi (fun x (u : Nat → Nat) => x = 0 ∧ ∀ k, k < 14 + 15 * n → u k = ad k) (fun u t => va_P D vwCl (tp_w cy (n + 1) u (tp_u (tp_gI n I (nI e0)) 0 1 (nI (n + 1))) (nI n).toInt64) t.heap ∧ va_K D vwCl (tp_ty cy) t ∧ va_D (va_A (tp_w cy n ad I o) sz) (tp_w cy (n + 1) u (tp_u (tp_gI n I (nI e0)) 0 1 (nI (n + 1))) (nI n).toInt64)) (va_A (tp_w cy n ad I o) sz)) 15 595 (va_A (tp_w cy n ad I o) sz)
set_option maxHeartbeats 4000000 in
set_option maxRecDepth 100000 in
theorem lp_add_ok (l : Launch) (D : va_G) (cy : Nat → ClassId) (n : Nat) (ad : Nat → Nat) (o : Int64) (I : Nat → Nat → Int32) (sa : Nat → Nat) (tL tM : Nat) (e0 : Nat) (hn6 : n < 6) (hna : I 0 1 = nI n) (he : I 0 2 = nI e0) (he8 : e0 < 48) : tp_LA l D cy n ad sa tL tM I o e0 := by
  intro sz
  refine va_MetW (cc := cL_add) (maxL := 3) (ret := some .int) (hh := [(0, 8, 11, 13)]) (by decide) rfl ?_
  intro p e s m args below meth c s₁ B hml hv
  obtain ⟨rfl, ⟨hsz, hP, hK, hD0⟩, hE⟩ := hv
  subst hsz
  have hx := B.exec
  have hb := B.bytes
  have hr := B.returns
  have hts := atoms_spec (ws := wsL_add) B.pre
  have hlocks := B.notSynchronized
  have hown : s.vm.findClass RL = some m.cls := findClass_of_methodNamed B.named
  have hD := hD0.self (sz := s.heap.size)
  generalize hAe : va_A (tp_w cy n ad I o) s.heap.size = A at hD hE ⊢
  have hA : ∀ q : Nat, s.heap.size ≤ q → A q := fun q h => by rw [← hAe]; exact Or.inr h
  have hS : va_S A s.heap s.heap [] := va_S.rf
  have hl := lv_entry ([.ref (ad 0), .ref (ad 13)]) (n := 3) (Nat.le_of_ble_eq_true rfl)
  rw [lg_entry_eq]
  generalize (lg_sl ([.ref (ad 0), .ref (ad 13)]) ++ List.replicate (3 - (lg_sl ([.ref (ad 0), .ref (ad 13)])).length) Slot.unset).toArray = ls at hl ⊢
  have hl : lv_has ls 3 [(0, .ref (ad 0)), (1, .ref (ad 13))] := hl
  have hF := tp_fr hD hS hA
  refine lv_aload_n hx hb dL_add_0 rfl (lv_at hl 1 rfl) ?_
  refine lv_iconst (v := 0) hx hb dL_add_1 (by decide) ?_
  refine lv_aload_n hx hb dL_add_2 rfl (lv_at hl 0 rfl) ?_
  refine va_calli (va_runV (As := []) (rest := [.int 0, .ref (ad 13)]) ⟨hx, hb, hml, hown, hts⟩ (op_add_ok l D cy n ad o I sa tL tM e0 hn6 hna he he8 s.heap.size) (cwV 0 hts gL_add_X1_add rfl rfl rfl (by decide +kernel) ⟨(Nat.le_of_ble_eq_true rfl), (Nat.le_of_ble_eq_true rfl)⟩) ⟨tp_blindE, va_recv (ci := 1) (q0 := 0) hK hP rfl tp_e0, fun U hU hW => ⟨rfl, ⟨by rw [hU], by rw [hU]; exact hP, va_K.moved hW.alike hK, hD.weaken (fun _ _ _ _ => trivial)⟩, tp_EV.go hE hW hU hS hF⟩⟩ rfl rfl hl.1 rfl (lv_room (Nat.le_of_ble_eq_true rfl)) dL_add_3 ⟨(Nat.le_of_ble_eq_true rfl), (Nat.le_of_ble_eq_true rfl)⟩) hS (fun q _ h => hF q h) hF (fun r1 u t H locs ht hvm hw hB hz1 hk1 hS => ?_)
  obtain ⟨rfl, hu⟩ := hw
  obtain ⟨hP1, hK1, hD1⟩ := hB
  rw [ht] at hP1
  have hD1 := hD1.weaken (B := A) (fun _ _ _ h => hF _ h)
  rw [← hu 13 (by omega)] at hl ⊢
  refine lv_i2l hx hb dL_add_6 rfl ?_
  refine tp_lst hx hb hK hP1 hD1 hS dL_add_7 (fun H locs hP hD hS => ?_)
  refine lv_goto (tgt := 14) hx hb dL_add_8 (by decide) ?_
  refine lv_iconst (v := 0) hx hb dL_add_14 (by decide) ?_
  exact W.zret (v := 0) (ty := .int) hx hb hr rfl (fun t ht hW => ⟨⟨0, u, rfl, ⟨rfl, hu⟩, by rw [ht]; exact hP, va_K.moved hW.alike hK, hD⟩, hS.F ht⟩) hS.2.2 dL_add_15

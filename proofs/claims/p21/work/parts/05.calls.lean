section TPC
variable {p : Program} {l : Launch} {e : Env} {R : Room} {s : State} {m : MethodId} {args : Array Value} {below : List Frame} {meth : Method} {c : Code} {H : Heap} {locs : List Loc} {cells slots : Nat} {Q : State → Prop}
variable {cc : ByteArray} {pc : Nat} {ls : Array Slot} {rest : List Value} {D : va_G} {A : Nat → Prop} {H0 : Heap}
variable {cy : Nat → ClassId} {n : Nat} {ad : Nat → Nat} {I : Nat → Nat → Int32} {o : Int64}
theorem tp_fr (hD : va_D A (tp_w cy n ad I o)) (hS : va_S A H0 H locs) (hA : ∀ q : Nat, H0.size ≤ q → A q) : ∀ q : Nat, va_A (tp_w cy n ad I o) H.size q → A q := by
  intro q h
  rcases h with ⟨k, e, hk⟩ | h
  · exact hD.2 k _ hk
  · exact hA q (Nat.le_trans hS.1 h)
theorem tp_blind {as : List Value} {sz : Nat} : FrameBlind (va_Pc as (tp_P D cy n ad I o sz)) := fun a U g mk q => by
  obtain ⟨q0, q1, qP, qK, qD⟩ := q
  exact ⟨q0, q1, qP, va_K.moved (u := U) (U := U.calling g mk a) (Vm.Alike.refl U.vm) qK, qD⟩
/-- a field of an int, written -/
theorem tp_put {own C : String} {T : u_T} {N ci index : Nat} {Ts : List Cond} (hx : p.tables.exec = Jvm.exec) (hb : c.code = cc) (hts : ∀ w ∈ Ts, w.before args s = true) (hin : ∀ w ∈ u_ws C T N, w ∈ Ts) (ty0 : Nat → FieldType) (hty : ∀ k, k < N → parseFieldDescriptor (T k).2.2.1 = some (ty0 k)) (hnm : ∀ a, a < N → ∀ b, b < N → a ≠ b → (T a).2.1 ≠ (T b).2.1) (hown : s.vm.findClass own = some m.cls)
    (hK : va_K D vwCl (tp_ty cy) s) (hP : va_P D vwCl (tp_w cy n ad I o) H) (hD : va_D A (tp_w cy n ad I o)) (hS : va_S A H0 H locs) (k : Nat) {fs : List Value} (he : (tp_w cy n ad I o)[k]? = some (ad k, .inr (ci, fs))) (hk : k < 9 + 15 * n) (hc : vwCl[ci]? = some (C, T, N)) (j : Nat) (hj : j < N) (hlink : (Cond.fieldLink own index (T j).1 (T j).2.1 (T j).2.2.1).before args s = true) (hfin : (T j).2.2.2 = false) {ty : FieldType} {v : Int32} (hd : parseFieldDescriptor (T j).2.2.1 = some ty) (hn : narrow ty (.int v) = .int v) (hfit : fits ty (.int v) = true) (hl : j < fs.length)
    (hcell : tp_c cy n ad (tp_u I k j v) o k = .inr (ci, fs.set j (.int v))) (hdg : decode cc pc = .ok (.putfield index, 3))
    (kk : ∀ (H1 : Heap) (locs1 : List Loc), va_P D vwCl (tp_w cy n ad (tp_u I k j v) o) H1 → va_D A (tp_w cy n ad (tp_u I k j v) o) → va_S A H0 H1 locs1 → W p l e R s m args below meth c H1 locs1 cells slots Q (F0 m (pc + 3) ls rest)) : W p l e R s m args below meth c H locs cells slots Q (F0 m pc ls (.int v :: .ref (ad k) :: rest)) := by
  refine va_put (D := D) (ci := ci) (v := .int v) (ty := ty) (C := C) (T := T) (N := N) hx hb hts hin ty0 hty hnm hown hK hP hD hS k he hc j hj hlink (fun _ h9 => h9) hfin hd hn hfit hl hdg (fun H1 locs1 hP hD hS => ?_)
  rw [tp_set hk (I' := tp_u I k j v) tp_u_ne hcell] at hP hD
  exact kk H1 locs1 hP hD hS
theorem tp_putN {own C host : String} {T : u_T} {N ci index : Nat} {Ts : List Cond} (hx : p.tables.exec = Jvm.exec) (hb : c.code = cc) (hts : ∀ w ∈ Ts, w.before args s = true) (hin : ∀ w ∈ u_ws C T N, w ∈ Ts) (ty0 : Nat → FieldType) (hty : ∀ k, k < N → parseFieldDescriptor (T k).2.2.1 = some (ty0 k)) (hnm : ∀ a, a < N → ∀ b, b < N → a ≠ b → (T a).2.1 ≠ (T b).2.1) (hown : s.vm.findClass own = some m.cls)
    (hK : va_K D vwCl (tp_ty cy) s) (hP : va_P D vwCl (tp_w cy n ad I o) H) (hD : va_D A (tp_w cy n ad I o)) (hS : va_S A H0 H locs) (k : Nat) {fs : List Value} (he : (tp_w cy n ad I o)[k]? = some (ad k, .inr (ci, fs))) (hk : k < 9 + 15 * n) (hc : vwCl[ci]? = some (C, T, N)) (j : Nat) (hj : j < N) (hlink : (Cond.fieldLinkNest own index (T j).1 (T j).2.1 (T j).2.2.1 host).before args s = true) (hfin : (T j).2.2.2 = false) {ty : FieldType} {v : Int32} (hd : parseFieldDescriptor (T j).2.2.1 = some ty) (hn : narrow ty (.int v) = .int v) (hfit : fits ty (.int v) = true) (hl : j < fs.length)
    (hcell : tp_c cy n ad (tp_u I k j v) o k = .inr (ci, fs.set j (.int v))) (hdg : decode cc pc = .ok (.putfield index, 3))
    (kk : ∀ (H1 : Heap) (locs1 : List Loc), va_P D vwCl (tp_w cy n ad (tp_u I k j v) o) H1 → va_D A (tp_w cy n ad (tp_u I k j v) o) → va_S A H0 H1 locs1 → W p l e R s m args below meth c H1 locs1 cells slots Q (F0 m (pc + 3) ls rest)) : W p l e R s m args below meth c H locs cells slots Q (F0 m pc ls (.int v :: .ref (ad k) :: rest)) := by
  refine va_putN (D := D) (ci := ci) (v := .int v) (ty := ty) (C := C) (T := T) (N := N) hx hb hts hin ty0 hty hnm hown hK hP hD hS k he hc j hj hlink (fun _ h9 => h9) hfin hd hn hfit hl hdg (fun H1 locs1 hP hD hS => ?_)
  rw [tp_set hk (I' := tp_u I k j v) tp_u_ne hcell] at hP hD
  exact kk H1 locs1 hP hD hS
theorem tp_callV {own C : String} {index nA nL maxL fr lo : Nat} {y : MethodName} {bytes : ByteArray} {ret : Option FieldType} {ws Ts : List Cond} {b : Nat} {As st fs : List Value} {r : Int32} {I' : Nat → Nat → Int32} {q : vw_C}
    (S : CallFix p m c cc nL s args Ts own) (hM : tp_I l y ws (tp_rm fr lo) D cy n ad o (.ref b :: As) I r I') (cw : CallW R s args own C index y bytes maxL ret ws (tp_rm fr lo) 0 0 nA) (hK : va_K D vwCl (tp_ty cy) s) (hP : va_P D vwCl (tp_w cy n ad I o) H) (hD : va_D A (tp_w cy n ad I o)) (hS : va_S A H0 H locs) (hA : ∀ q : Nat, H0.size ≤ q → A q)
    (k0 ci : Nat) (he : (tp_w cy n ad I o)[k0]? = some (b, .inr (ci, fs))) (hci : vwCl[ci]? = some q) (hqC : q.1 = C) (hn : As.length = nA) (hls : ls.size = nL) (hst : st = As.reverse ++ .ref b :: rest) (hroom : (rest.map fun v => v.category).sum ≤ 8) (hdg : decode cc pc = .ok (.invokevirtual index, 3)) (hcs : cells ≤ R.cells ∧ slots ≤ R.slots)
    (kk : ∀ I1 : Nat → Nat → Int32, I' = I1 → ∀ (H1 : Heap) (locs1 : List Loc), va_P D vwCl (tp_w cy n ad I1 o) H1 → va_D A (tp_w cy n ad I1 o) → va_S A H0 H1 locs1 → W p l e R s m args below meth c H1 locs1 cells slots Q (F0 m (pc + 3) ls (.int r :: rest))) : W p l e R s m args below meth c H locs cells slots Q (F0 m pc ls st) := by
  subst hst
  subst hqC
  have hF := tp_fr hD hS hA
  refine va_calli (va_runV (As := As) (rest := rest) S (hM H.size) cw ⟨tp_blind, va_recv hK hP hci he, fun U hU hW => ⟨rfl, by rw [hU], by rw [hU]; exact hP, va_K.moved hW.alike hK, hD.weaken (fun _ _ _ _ => trivial)⟩⟩ rfl hn hls rfl (lv_room hroom) hdg hcs) hS (fun q _ h => hF q h) hF (fun r1 u t H1 locs1 ht hvm hw hB hz1 hk1 hS1 => ?_)
  obtain ⟨rfl, rfl⟩ := hw
  obtain ⟨hP1, hK1, hD1⟩ := hB
  rw [ht] at hP1
  exact kk _ rfl H1 locs1 hP1 (hD1.weaken (fun _ _ _ h => hF _ h)) hS1
theorem tp_callVv {own C : String} {index nA nL maxL fr lo : Nat} {y : MethodName} {bytes : ByteArray} {ret : Option FieldType} {ws Ts : List Cond} {b : Nat} {As st fs : List Value} {I' : Nat → Nat → Int32} {q : vw_C}
    (S : CallFix p m c cc nL s args Ts own) (hM : tp_V l y ws (tp_rm fr lo) D cy n ad o (.ref b :: As) I I') (cw : CallW R s args own C index y bytes maxL ret ws (tp_rm fr lo) 0 0 nA) (hK : va_K D vwCl (tp_ty cy) s) (hP : va_P D vwCl (tp_w cy n ad I o) H) (hD : va_D A (tp_w cy n ad I o)) (hS : va_S A H0 H locs) (hA : ∀ q : Nat, H0.size ≤ q → A q)
    (k0 ci : Nat) (he : (tp_w cy n ad I o)[k0]? = some (b, .inr (ci, fs))) (hci : vwCl[ci]? = some q) (hqC : q.1 = C) (hn : As.length = nA) (hls : ls.size = nL) (hst : st = As.reverse ++ .ref b :: rest) (hroom : (rest.map fun v => v.category).sum ≤ 8) (hdg : decode cc pc = .ok (.invokevirtual index, 3)) (hcs : cells ≤ R.cells ∧ slots ≤ R.slots)
    (kk : ∀ I1 : Nat → Nat → Int32, I' = I1 → ∀ (H1 : Heap) (locs1 : List Loc), va_P D vwCl (tp_w cy n ad I1 o) H1 → va_D A (tp_w cy n ad I1 o) → va_S A H0 H1 locs1 → W p l e R s m args below meth c H1 locs1 cells slots Q (F0 m (pc + 3) ls rest)) : W p l e R s m args below meth c H locs cells slots Q (F0 m pc ls st) := by
  subst hst
  subst hqC
  have hF := tp_fr hD hS hA
  refine va_callv (va_runV (As := As) (rest := rest) S (hM H.size) cw ⟨tp_blind, va_recv hK hP hci he, fun U hU hW => ⟨rfl, by rw [hU], by rw [hU]; exact hP, va_K.moved hW.alike hK, hD.weaken (fun _ _ _ _ => trivial)⟩⟩ rfl hn hls rfl (lv_room hroom) hdg hcs) hS (fun q _ h => hF q h) hF (fun u t H1 locs1 ht hvm hw hB hz1 hk1 hS1 => ?_)
  subst hw
  obtain ⟨hP1, hK1, hD1⟩ := hB
  rw [ht] at hP1
  exact kk _ rfl H1 locs1 hP1 (hD1.weaken (fun _ _ _ h => hF _ h)) hS1
theorem tp_callS {own : String} {index nA nL maxL fr lo : Nat} {y : MethodName} {bytes : ByteArray} {ret : Option FieldType} {ws Ts : List Cond} {As st : List Value} {r : Int32} {I' : Nat → Nat → Int32}
    (S : CallFix p m c cc nL s args Ts own) (hM : tp_I l y ws (tp_rm fr lo) D cy n ad o As I r I') (cw : CallB R s args own index y bytes maxL ret ws (tp_rm fr lo) 0 0 nA ∧ (Cond.static y).before args s = true) (hK : va_K D vwCl (tp_ty cy) s) (hP : va_P D vwCl (tp_w cy n ad I o) H) (hD : va_D A (tp_w cy n ad I o)) (hS : va_S A H0 H locs) (hA : ∀ q : Nat, H0.size ≤ q → A q)
    (hn : As.length = nA) (hls : ls.size = nL) (hst : st = As.reverse ++ rest) (hroom : (rest.map fun v => v.category).sum ≤ 8) (hdg : decode cc pc = .ok (.invokestatic index, 3)) (hcs : cells ≤ R.cells ∧ slots ≤ R.slots)
    (kk : ∀ I1 : Nat → Nat → Int32, I' = I1 → ∀ (H1 : Heap) (locs1 : List Loc), va_P D vwCl (tp_w cy n ad I1 o) H1 → va_D A (tp_w cy n ad I1 o) → va_S A H0 H1 locs1 → W p l e R s m args below meth c H1 locs1 cells slots Q (F0 m (pc + 3) ls (.int r :: rest))) : W p l e R s m args below meth c H locs cells slots Q (F0 m pc ls st) := by
  subst hst
  have hF := tp_fr hD hS hA
  refine va_calli (va_runS (As := As) (rest := rest) S (hM H.size) cw ⟨tp_blind, fun U hU hW => ⟨rfl, by rw [hU], by rw [hU]; exact hP, va_K.moved hW.alike hK, hD.weaken (fun _ _ _ _ => trivial)⟩⟩ rfl hn hls rfl (lv_room hroom) hdg hcs) hS (fun q _ h => hF q h) hF (fun r1 u t H1 locs1 ht hvm hw hB hz1 hk1 hS1 => ?_)
  obtain ⟨rfl, rfl⟩ := hw
  obtain ⟨hP1, hK1, hD1⟩ := hB
  rw [ht] at hP1
  exact kk _ rfl H1 locs1 hP1 (hD1.weaken (fun _ _ _ h => hF _ h)) hS1
/-- a loop of N turns; J, V: the numbers and the locals behind t turns -/
theorem tp_for {nL pcH : Nat} (N : Nat) (J : Nat → Nat → Nat → Int32) (V : Nat → List (Nat × Value))
    (step : ∀ t : Nat, t < N → ∀ (ls : Array Slot) (H : Heap) (locs : List Loc), lv_has ls nL (V t) → va_P D vwCl (tp_w cy n ad (J t) o) H → va_D A (tp_w cy n ad (J t) o) → va_S A H0 H locs → (∀ (ls : Array Slot) (H : Heap) (locs : List Loc), lv_has ls nL (V (t + 1)) → va_P D vwCl (tp_w cy n ad (J (t + 1)) o) H → va_D A (tp_w cy n ad (J (t + 1)) o) → va_S A H0 H locs → W p l e R s m args below meth c H locs cells slots Q (F0 m pcH ls [])) → W p l e R s m args below meth c H locs cells slots Q (F0 m pcH ls []))
    (exit : ∀ (ls : Array Slot) (H : Heap) (locs : List Loc), lv_has ls nL (V N) → va_P D vwCl (tp_w cy n ad (J N) o) H → va_D A (tp_w cy n ad (J N) o) → va_S A H0 H locs → W p l e R s m args below meth c H locs cells slots Q (F0 m pcH ls []))
    (hl : lv_has ls nL (V 0)) (hP : va_P D vwCl (tp_w cy n ad (J 0) o) H) (hD : va_D A (tp_w cy n ad (J 0) o)) (hS : va_S A H0 H locs) : W p l e R s m args below meth c H locs cells slots Q (F0 m pcH ls []) := by
  have key : ∀ k t : Nat, t + k = N → ∀ (ls : Array Slot) (H : Heap) (locs : List Loc), lv_has ls nL (V t) → va_P D vwCl (tp_w cy n ad (J t) o) H → va_D A (tp_w cy n ad (J t) o) → va_S A H0 H locs → W p l e R s m args below meth c H locs cells slots Q (F0 m pcH ls []) := by
    intro k
    induction k with
    | zero =>
      intro t h ls H locs h1 h2 h3 h4
      have ht : t = N := h
      subst ht
      exact exit ls H locs h1 h2 h3 h4
    | succ k ih =>
      intro t h ls H locs h1 h2 h3 h4
      exact step t (by omega) ls H locs h1 h2 h3 h4 (ih (t + 1) (by omega))
  exact key N 0 (by omega) ls H locs hl hP hD hS
end TPC
section TPF
variable {cy : Nat → ClassId} {n : Nat} {ad : Nat → Nat} {I : Nat → Nat → Int32} {o : Int64}
/-- a household's number written, in its cell -/
theorem tp_ch2 (i : Nat) (v : Int32) : tp_c cy n ad (tp_u I (9 + 15 * i) 2 v) o (9 + 15 * i) = .inr (0, [.ref (ad (9 + 15 * i + 1)), .ref (ad (9 + 15 * i + 7)), .int v, .int (I (9 + 15 * i) 3), .ref (ad (9 + 15 * i + 13)), .ref (ad (9 + 15 * i + 14)), .int (I (9 + 15 * i) 6), .int (I (9 + 15 * i) 7), .int (I (9 + 15 * i) 8)]) := by
  rw [tp_cH0]
  unfold tp_hc
  simp only [tp_u_at]
  rfl
theorem tp_ch6 (i : Nat) (v : Int32) : tp_c cy n ad (tp_u I (9 + 15 * i) 6 v) o (9 + 15 * i) = .inr (0, [.ref (ad (9 + 15 * i + 1)), .ref (ad (9 + 15 * i + 7)), .int (I (9 + 15 * i) 2), .int (I (9 + 15 * i) 3), .ref (ad (9 + 15 * i + 13)), .ref (ad (9 + 15 * i + 14)), .int v, .int (I (9 + 15 * i) 7), .int (I (9 + 15 * i) 8)]) := by
  rw [tp_cH0]
  unfold tp_hc
  simp only [tp_u_at]
  rfl
theorem tp_ch7 (i : Nat) (v : Int32) : tp_c cy n ad (tp_u I (9 + 15 * i) 7 v) o (9 + 15 * i) = .inr (0, [.ref (ad (9 + 15 * i + 1)), .ref (ad (9 + 15 * i + 7)), .int (I (9 + 15 * i) 2), .int (I (9 + 15 * i) 3), .ref (ad (9 + 15 * i + 13)), .ref (ad (9 + 15 * i + 14)), .int (I (9 + 15 * i) 6), .int v, .int (I (9 + 15 * i) 8)]) := by
  rw [tp_cH0]
  unfold tp_hc
  simp only [tp_u_at]
  rfl
theorem tp_ch8 (i : Nat) (v : Int32) : tp_c cy n ad (tp_u I (9 + 15 * i) 8 v) o (9 + 15 * i) = .inr (0, [.ref (ad (9 + 15 * i + 1)), .ref (ad (9 + 15 * i + 7)), .int (I (9 + 15 * i) 2), .int (I (9 + 15 * i) 3), .ref (ad (9 + 15 * i + 13)), .ref (ad (9 + 15 * i + 14)), .int (I (9 + 15 * i) 6), .int (I (9 + 15 * i) 7), .int v]) := by
  rw [tp_cH0]
  unfold tp_hc
  simp only [tp_u_at]
  rfl
theorem tp_hVo (i : Nat) : tp_c cy n ad I o (9 + 15 * i + 1) = .inl (cy 4, 5, .inr (.inr (.inr (.inr (tp_rf 5 (fun f => ad (9 + 15 * i + 2 + f))))))) := by
  rw [tp_cH i (by decide)]
  rfl
theorem tp_hSo (i : Nat) : tp_c cy n ad I o (9 + 15 * i + 7) = .inl (cy 4, 5, .inr (.inr (.inr (.inr (tp_rf 5 (fun f => ad (9 + 15 * i + 8 + f))))))) := by
  rw [tp_cH i (by decide)]
  rfl
end TPF

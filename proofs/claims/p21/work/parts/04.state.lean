/-! THE WORLD: numbered cells. 0 the office, 1 its rows, 2 to 8 the law's arrays q, f, v, a, b, o, p; a household i stands at 9 + 15 i: the object, values (outer, five rows), since (outer, five rows), assessments, payments. What a cell holds of numbers is one function I: cell, place. -/
def tp_ty (cy : Nat → ClassId) : List (ClassId × FieldType) := [(cy 0, .int), (cy 0, .int), (cy 0, .int), (cy 3, .object "TaperOffice$Household"), (cy 4, .array .int)]
def tp_rf (n : Nat) (f : Nat → Nat) : Nat → Option Nat := fun j => if j < n then some (f j) else none
def tp_hc (cy : Nat → ClassId) (ad : Nat → Nat) (I : Nat → Nat → Int32) (b : Nat) : Nat → va_E := fun j => match j with
  | 0 => .inr (0, [.ref (ad (b + 1)), .ref (ad (b + 7)), .int (I b 2), .int (I b 3), .ref (ad (b + 13)), .ref (ad (b + 14)), .int (I b 6), .int (I b 7), .int (I b 8)])
  | 1 => .inl (cy 4, 5, .inr (.inr (.inr (.inr (tp_rf 5 (fun f => ad (b + 2 + f)))))))
  | 7 => .inl (cy 4, 5, .inr (.inr (.inr (.inr (tp_rf 5 (fun f => ad (b + 8 + f)))))))
  | j => .inl (cy 0, 48, .inl (I (b + j)))
def tp_c (cy : Nat → ClassId) (n : Nat) (ad : Nat → Nat) (I : Nat → Nat → Int32) (_ : Int64) : Nat → va_E := fun k => match k with
  | 0 => .inr (1, [.ref (ad 1), .int (I 0 1), .int (I 0 2)])
  | 1 => .inl (cy 3, 6, .inr (.inr (.inr (.inr (tp_rf n (fun j => ad (9 + 15 * j)))))))
  | 2 => .inl (cy 0, 12, .inl (I 2))
  | 3 => .inl (cy 0, 64, .inl (I 3))
  | 4 => .inl (cy 0, 64, .inl (I 4))
  | 5 => .inl (cy 0, 48, .inl (I 5))
  | 6 => .inl (cy 0, 48, .inl (I 6))
  | 7 => .inl (cy 0, 48, .inl (I 7))
  | 8 => .inl (cy 0, 48, .inl (I 8))
  | k + 9 => tp_hc cy ad I (9 + 15 * (k / 15)) (k % 15)
def tp_w (cy : Nat → ClassId) (n : Nat) (ad : Nat → Nat) (I : Nat → Nat → Int32) (o : Int64) : va_W := (List.range (9 + 15 * n)).map (fun k => (ad k, tp_c cy n ad I o k))
section TPW
variable {cy : Nat → ClassId} {n : Nat} {ad : Nat → Nat} {I : Nat → Nat → Int32} {o : Int64}
theorem tp_cH (i : Nat) {j : Nat} (hj : j < 15) : tp_c cy n ad I o (9 + 15 * i + j) = tp_hc cy ad I (9 + 15 * i) j := by
  have e : 9 + 15 * i + j = (15 * i + j) + 9 := by omega
  rw [e]
  show tp_hc cy ad I (9 + 15 * ((15 * i + j) / 15)) ((15 * i + j) % 15) = _
  rw [show (15 * i + j) / 15 = i by omega, show (15 * i + j) % 15 = j by omega]
theorem tp_cH0 (i : Nat) : tp_c cy n ad I o (9 + 15 * i) = tp_hc cy ad I (9 + 15 * i) 0 := tp_cH i (j := 0) (by decide)
theorem tp_hV (i : Nat) {f : Nat} (hf : f < 5) : tp_c cy n ad I o (9 + 15 * i + 2 + f) = .inl (cy 0, 48, .inl (I (9 + 15 * i + 2 + f))) := by
  rw [show 9 + 15 * i + 2 + f = 9 + 15 * i + (2 + f) by omega, tp_cH i (by omega)]
  rcases (show f = 0 ∨ f = 1 ∨ f = 2 ∨ f = 3 ∨ f = 4 by omega) with rfl | rfl | rfl | rfl | rfl <;> rfl
theorem tp_hS (i : Nat) {f : Nat} (hf : f < 5) : tp_c cy n ad I o (9 + 15 * i + 8 + f) = .inl (cy 0, 48, .inl (I (9 + 15 * i + 8 + f))) := by
  rw [show 9 + 15 * i + 8 + f = 9 + 15 * i + (8 + f) by omega, tp_cH i (by omega)]
  rcases (show f = 0 ∨ f = 1 ∨ f = 2 ∨ f = 3 ∨ f = 4 by omega) with rfl | rfl | rfl | rfl | rfl <;> rfl
theorem tp_hA (i : Nat) : tp_c cy n ad I o (9 + 15 * i + 13) = .inl (cy 0, 48, .inl (I (9 + 15 * i + 13))) := by rw [tp_cH i (by decide)]; rfl
theorem tp_hP (i : Nat) : tp_c cy n ad I o (9 + 15 * i + 14) = .inl (cy 0, 48, .inl (I (9 + 15 * i + 14))) := by rw [tp_cH i (by decide)]; rfl
theorem tp_at {k : Nat} (hk : k < 9 + 15 * n) : (tp_w cy n ad I o)[k]? = some (ad k, tp_c cy n ad I o k) := by
  unfold tp_w
  rw [List.getElem?_map, List.getElem?_range hk]
  rfl
theorem tp_hown {I' : Nat → Nat → Int32} (b : Nat) : ∀ j : Nat, I b = I' b → I (b + j) = I' (b + j) → tp_hc cy ad I b j = tp_hc cy ad I' b j := fun j h0 h => by
  unfold tp_hc
  split
  · simp only [h0]
  · rfl
  · rfl
  · simp only [h]
theorem tp_own {I' : Nat → Nat → Int32} {k0 k : Nat} (hne : k ≠ k0) (h : ∀ j, j ≠ k0 → I j = I' j) : tp_c cy n ad I o k = tp_c cy n ad I' o k := by
  unfold tp_c
  split
  case h_10 k' =>
    by_cases h0 : k' % 15 = 0
    · have e : 9 + 15 * (k' / 15) = k' + 9 := by omega
      rw [h0, e]
      have h1 := h (k' + 9) hne
      exact tp_hown (k' + 9) 0 h1 h1
    · have e : 9 + 15 * (k' / 15) + k' % 15 = k' + 9 := by omega
      have h1 := h (k' + 9) hne
      rw [← e] at h1
      generalize 9 + 15 * (k' / 15) = b at h1 ⊢
      generalize k' % 15 = r at h0 h1 ⊢
      unfold tp_hc
      split
      · exact absurd rfl h0
      · rfl
      · rfl
      · simp only [h1]
  all_goals first | rfl | simp only [h _ hne]
theorem tp_set {k : Nat} (hk : k < 9 + 15 * n) {I' : Nat → Nat → Int32} (h : ∀ j, j ≠ k → I j = I' j) {e : va_E} (he : tp_c cy n ad I' o k = e) : (tp_w cy n ad I o).set k (ad k, e) = tp_w cy n ad I' o := by
  subst he
  apply List.ext_getElem?
  intro q
  by_cases hq : q = k
  · subst hq
    rw [tp_at hk, List.getElem?_set_self (by unfold tp_w; simpa using hk)]
  · rw [List.getElem?_set_ne (Ne.symm hq)]
    by_cases hl : q < 9 + 15 * n
    · rw [tp_at hl, tp_at hl, tp_own hq h]
    · rw [List.getElem?_eq_none (by unfold tp_w; simpa using hl), List.getElem?_eq_none (by unfold tp_w; simpa using hl)]
theorem tp_e0 : (tp_w cy n ad I o)[0]? = some (ad 0, .inr (1, [.ref (ad 1), .int (I 0 1), .int (I 0 2)])) := tp_at (by omega)
theorem tp_eh {i : Nat} (hi : i < n) : (tp_w cy n ad I o)[9 + 15 * i]? = some (ad (9 + 15 * i), .inr (0, [.ref (ad (9 + 15 * i + 1)), .ref (ad (9 + 15 * i + 7)), .int (I (9 + 15 * i) 2), .int (I (9 + 15 * i) 3), .ref (ad (9 + 15 * i + 13)), .ref (ad (9 + 15 * i + 14)), .int (I (9 + 15 * i) 6), .int (I (9 + 15 * i) 7), .int (I (9 + 15 * i) 8)])) := by
  rw [tp_at (by omega), tp_cH0]
  rfl
end TPW
/-- one place of I written -/
def tp_u (I : Nat → Nat → Int32) (k j : Nat) (x : Int32) : Nat → Nat → Int32 := va_up I k (upd (I k) j x)
theorem tp_u_ne {I : Nat → Nat → Int32} {k j : Nat} {x : Int32} : ∀ a, a ≠ k → I a = tp_u I k j x a := fun a h => (va_up_ne I _ h).symm
theorem tp_u_at {I : Nat → Nat → Int32} {k j : Nat} {x : Int32} : tp_u I k j x k = upd (I k) j x := va_up_self I k _
theorem tp_u_oth {I : Nat → Nat → Int32} {k j a : Nat} {x : Int32} (h : a ≠ k) : tp_u I k j x a = I a := va_up_ne I _ h
theorem tp_u_s {I : Nat → Nat → Int32} {k j : Nat} {x : Int32} : tp_u I k j x k j = x := by rw [tp_u_at]; exact pk_us
theorem tp_u_n {I : Nat → Nat → Int32} {k j b : Nat} {x : Int32} (h : b ≠ j) : tp_u I k j x k b = I k b := by rw [tp_u_at]; exact pk_un h
/-- a world in a heap, of a state -/
def tp_P (D : va_G) (cy : Nat → ClassId) (n : Nat) (ad : Nat → Nat) (I : Nat → Nat → Int32) (o : Int64) (sz : Nat) (U : State) : Prop := U.heap.size = sz ∧ va_P D vwCl (tp_w cy n ad I o) U.heap ∧ va_K D vwCl (tp_ty cy) U ∧ va_D (fun _ => True) (tp_w cy n ad I o)
def tp_B (D : va_G) (cy : Nat → ClassId) (n : Nat) (ad : Nat → Nat) (o : Int64) (A : Nat → Prop) (I : Nat → Nat → Int32) (t : State) : Prop := va_P D vwCl (tp_w cy n ad I o) t.heap ∧ va_K D vwCl (tp_ty cy) t ∧ va_D A (tp_w cy n ad I o)
/-- a contract: the answer r, the numbers I' behind it -/
def tp_I (l : Launch) (y : MethodName) (ws : List Cond) (rm : Room) (D : va_G) (cy : Nat → ClassId) (n : Nat) (ad : Nat → Nat) (o : Int64) (as : List Value) (I : Nat → Nat → Int32) (r : Int32) (I' : Nat → Nat → Int32) : Prop :=
  ∀ sz : Nat, Met l y ws rm (va_Pc as (tp_P D cy n ad I o sz)) (va_Qi (fun x u => x = r ∧ u = I') (tp_B D cy n ad o (va_A (tp_w cy n ad I o) sz)) (va_A (tp_w cy n ad I o) sz)) 0 0 (va_A (tp_w cy n ad I o) sz)
def tp_V (l : Launch) (y : MethodName) (ws : List Cond) (rm : Room) (D : va_G) (cy : Nat → ClassId) (n : Nat) (ad : Nat → Nat) (o : Int64) (as : List Value) (I : Nat → Nat → Int32) (I' : Nat → Nat → Int32) : Prop :=
  ∀ sz : Nat, Met l y ws rm (va_Pc as (tp_P D cy n ad I o sz)) (va_Qv (fun u => u = I') (tp_B D cy n ad o (va_A (tp_w cy n ad I o) sz)) (va_A (tp_w cy n ad I o) sz)) 0 0 (va_A (tp_w cy n ad I o) sz)
abbrev tp_rm (fr lo : Nat) : Room := { frames := fr, cells := 0, slots := 0, locals := lo }
/-- a body's start -/
def tp_S (p : Program) (s : State) (m : MethodId) (args : Array Value) (meth : Method) (c : Code) (y : MethodName) (ws : List Cond) (cc : ByteArray) (maxL : Nat) (ret : Option FieldType) (D : va_G) (cy : Nat → ClassId) (n : Nat) (ad : Nat → Nat) (o : Int64) (I : Nat → Nat → Int32) (A : Nat → Prop) (ls : Array Slot) (lv : List (Nat × Value)) : Prop :=
  p.tables.exec = Jvm.exec ∧ c.code = cc ∧ meth.sig.returnType = ret ∧ c.maxLocals = maxL ∧ s.vm.findClass y.cls = some m.cls ∧ (∀ w ∈ ws, w.before args s = true) ∧ meth.locks = false ∧ (∀ q : Nat, s.heap.size ≤ q → A q) ∧ va_K D vwCl (tp_ty cy) s ∧ va_P D vwCl (tp_w cy n ad I o) s.heap ∧ va_D A (tp_w cy n ad I o) ∧ va_S A s.heap s.heap [] ∧ lv_has ls maxL lv
theorem tp_ofI {l : Launch} {y : MethodName} {ws ws' : List Cond} {fr lo : Nat} {D : va_G} {cy : Nat → ClassId} {n : Nat} {ad : Nat → Nat} {o : Int64} {I I' : Nat → Nat → Int32} {as : List Value} {r : Int32} {cc : ByteArray} {maxL : Nat} {ret : Option FieldType} {lv : List (Nat × Value)}
    (hy : plainName y.cls = true) (hw : ws = Cond.code y cc maxL ret :: ws') (hlen : (lg_sl as).length ≤ maxL) (hlv : lv_args 0 as = lv)
    (body : ∀ (p : Program) (e : Env) (s : State) (m : MethodId) (args : Array Value) (below : List Frame) (meth : Method) (c : Code) (A : Nat → Prop) (ls : Array Slot), tp_S p s m args meth c y ws cc maxL ret D cy n ad o I A ls lv →
      W p l e (tp_rm fr lo) s m args below meth c s.heap [] 0 0 (MQ below (va_Qi (fun x u => x = r ∧ u = I') (tp_B D cy n ad o A) A) args s 0 0 A) (F0 m 0 ls [])) :
    tp_I l y ws (tp_rm fr lo) D cy n ad o as I r I' := by
  intro sz
  refine Met.ofW (cc := cc) (maxL := maxL) (ret := ret) hy hw ?_
  intro p e s m args below meth c s₁ B hml hv
  obtain ⟨rfl, hsz, hP, hK, hD0⟩ := hv
  subst hsz
  have hown : s.vm.findClass y.cls = some m.cls := findClass_of_methodNamed B.named
  have hD := hD0.self (sz := s.heap.size)
  generalize hAe : va_A (tp_w cy n ad I o) s.heap.size = A at hD ⊢
  have hA : ∀ q : Nat, s.heap.size ≤ q → A q := fun q h => by rw [← hAe]; exact Or.inr h
  have hl := lv_entry as (n := maxL) hlen
  rw [hlv] at hl
  rw [lg_entry_eq]
  exact body p e s m _ below meth c A _ ⟨B.exec, B.bytes, B.returns, hml, hown, atoms_spec (ws := ws) B.pre, B.notSynchronized, hA, hK, hP, hD, va_S.rf, hl⟩
theorem tp_ofV {l : Launch} {y : MethodName} {ws ws' : List Cond} {fr lo : Nat} {D : va_G} {cy : Nat → ClassId} {n : Nat} {ad : Nat → Nat} {o : Int64} {I I' : Nat → Nat → Int32} {as : List Value} {cc : ByteArray} {maxL : Nat} {ret : Option FieldType} {lv : List (Nat × Value)}
    (hy : plainName y.cls = true) (hw : ws = Cond.code y cc maxL ret :: ws') (hlen : (lg_sl as).length ≤ maxL) (hlv : lv_args 0 as = lv)
    (body : ∀ (p : Program) (e : Env) (s : State) (m : MethodId) (args : Array Value) (below : List Frame) (meth : Method) (c : Code) (A : Nat → Prop) (ls : Array Slot), tp_S p s m args meth c y ws cc maxL ret D cy n ad o I A ls lv →
      W p l e (tp_rm fr lo) s m args below meth c s.heap [] 0 0 (MQ below (va_Qv (fun u => u = I') (tp_B D cy n ad o A) A) args s 0 0 A) (F0 m 0 ls [])) :
    tp_V l y ws (tp_rm fr lo) D cy n ad o as I I' := by
  intro sz
  refine Met.ofW (cc := cc) (maxL := maxL) (ret := ret) hy hw ?_
  intro p e s m args below meth c s₁ B hml hv
  obtain ⟨rfl, hsz, hP, hK, hD0⟩ := hv
  subst hsz
  have hown : s.vm.findClass y.cls = some m.cls := findClass_of_methodNamed B.named
  have hD := hD0.self (sz := s.heap.size)
  generalize hAe : va_A (tp_w cy n ad I o) s.heap.size = A at hD ⊢
  have hA : ∀ q : Nat, s.heap.size ≤ q → A q := fun q h => by rw [← hAe]; exact Or.inr h
  have hl := lv_entry as (n := maxL) hlen
  rw [hlv] at hl
  rw [lg_entry_eq]
  exact body p e s m _ below meth c A _ ⟨B.exec, B.bytes, B.returns, hml, hown, atoms_spec (ws := ws) B.pre, B.notSynchronized, hA, hK, hP, hD, va_S.rf, hl⟩
section TPR
variable {p : Program} {l : Launch} {e : Env} {R : Room} {s : State} {m : MethodId} {args : Array Value} {below : List Frame} {meth : Method} {c : Code} {H : Heap} {locs : List Loc} {cells slots : Nat} {Q : State → Prop}
variable {cc : ByteArray} {pc : Nat} {ls : Array Slot} {rest : List Value} {D : va_G} {A : Nat → Prop} {H0 : Heap}
variable {cy : Nat → ClassId} {n : Nat} {ad : Nat → Nat} {I : Nat → Nat → Int32} {o : Int64}
/-- ends -/
theorem tp_reti {I1 I' : Nat → Nat → Int32} {v r : Int32} {ty : FieldType} (hx : p.tables.exec = Jvm.exec) (hb : c.code = cc) (hr : meth.sig.returnType = some ty) (hlocks : meth.locks = false) (hK : va_K D vwCl (tp_ty cy) s) (hP : va_P D vwCl (tp_w cy n ad I1 o) H) (hD : va_D A (tp_w cy n ad I1 o)) (hS : va_S A s.heap H locs) (hn : narrow ty (.int v) = .int v) (ev : v = r) (eI : I1 = I') (hdg : decode cc pc = .ok (.ireturn, 1)) :
    W p l e R s m args below meth c H locs 0 0 (MQ below (va_Qi (fun x u => x = r ∧ u = I') (tp_B D cy n ad o A) A) args s 0 0 A) (F0 m pc ls [.int v]) := by
  subst ev
  subst eI
  exact W.zret (v := v) hx hb hr hn (fun t ht hW => ⟨⟨v, I1, rfl, ⟨rfl, rfl⟩, by rw [ht]; exact hP, va_K.moved hW.alike hK, hD⟩, hS.F ht⟩) hS.2.2 hdg
theorem tp_retv {I1 I' : Nat → Nat → Int32} (hx : p.tables.exec = Jvm.exec) (hb : c.code = cc) (hr : meth.sig.returnType = none) (hlocks : meth.locks = false) (hK : va_K D vwCl (tp_ty cy) s) (hP : va_P D vwCl (tp_w cy n ad I1 o) H) (hD : va_D A (tp_w cy n ad I1 o)) (hS : va_S A s.heap H locs) (eI : I1 = I') (hdg : decode cc pc = .ok (.return_, 1)) :
    W p l e R s m args below meth c H locs 0 0 (MQ below (va_Qv (fun u => u = I') (tp_B D cy n ad o A) A) args s 0 0 A) (F0 m pc ls []) := by
  subst eI
  exact W.vret hx hb hr (fun t ht hW => ⟨⟨I1, rfl, rfl, by rw [ht]; exact hP, va_K.moved hW.alike hK, hD⟩, hS.F ht⟩) hS.2.2 hdg
/-- a value by a name, with what is known of it, where two ways meet -/
theorem tp_join {α : Sort _} {g0 : JFrame} (x : α) (g : α → JFrame) (k : ∀ y : α, y = x → W p l e R s m args below meth c H locs cells slots Q (g y)) (h : (∀ y : α, y = x → W p l e R s m args below meth c H locs cells slots Q (g y)) → W p l e R s m args below meth c H locs cells slots Q g0) : W p l e R s m args below meth c H locs cells slots Q g0 := h k
/-- arrays -/
theorem tp_iald {f : Nat → Int32} {x : Int32} (hx : p.tables.exec = Jvm.exec) (hb : c.code = cc) (hK : va_K D vwCl (tp_ty cy) s) (hP : va_P D vwCl (tp_w cy n ad I o) H) (k N j : Nat) (hk : k < 9 + 15 * n) (hc : tp_c cy n ad I o k = .inl (cy 0, N, .inl f)) (hj : x = nI j) (hlt : j < N) (hN : N < 2 ^ 31) (hdg : decode cc pc = .ok (.iaload, 1))
    (kk : W p l e R s m args below meth c H locs cells slots Q (F0 m (pc + 1) ls (.int (f j) :: rest))) : W p l e R s m args below meth c H locs cells slots Q (F0 m pc ls (.int x :: .ref (ad k) :: rest)) := by
  subst hj
  refine va_iald hx hb hK hP k 0 (by rw [tp_at hk, hc]) rfl (vp_in_nI hlt hN) hdg ?_
  rw [nI_clamp (by omega)]
  exact kk
/-- a row of an array of arrays -/
theorem tp_aald {f : Nat → Nat} {x : Int32} (hx : p.tables.exec = Jvm.exec) (hb : c.code = cc) (hK : va_K D vwCl (tp_ty cy) s) (hP : va_P D vwCl (tp_w cy n ad I o) H) (k N j : Nat) (hk : k < 9 + 15 * n) (hc : tp_c cy n ad I o k = .inl (cy 4, N, .inr (.inr (.inr (.inr (tp_rf N f)))))) (hj : x = nI j) (hlt : j < N) (hN : N < 2 ^ 31) (hdg : decode cc pc = .ok (.aaload, 1))
    (kk : W p l e R s m args below meth c H locs cells slots Q (F0 m (pc + 1) ls (.ref (f j) :: rest))) : W p l e R s m args below meth c H locs cells slots Q (F0 m pc ls (.int x :: .ref (ad k) :: rest)) := by
  subst hj
  have hh : (tp_w cy n ad I o)[k]? = some (ad k, .inl (cy 4, N, .inr (.inr (.inr (.inr (tp_rf N f)))))) := by rw [tp_at hk, hc]
  have e1 : tp_rf N f j = some (f j) := if_pos hlt
  exact W.aald (v := .ref (f j)) (ty := .array .int) hx hb (hP k _ hh) ((hK.2 4 _ rfl).1 N (fun j => va_rf (tp_rf N f j))) rfl (fun q => by cases q) (by show ¬ (_ ∨ (arrV _ _ _).slots.size ≤ _); rw [arrV_size]; exact vp_in_nI hlt hN) (by show (arrV _ _ _).slots[_]? = _; rw [nI_clamp (by omega), arrV_read _ _ hlt, e1]; rfl) rfl rfl hdg kk
theorem tp_iast {x v : Int32} (hx : p.tables.exec = Jvm.exec) (hb : c.code = cc) (hK : va_K D vwCl (tp_ty cy) s) (hP : va_P D vwCl (tp_w cy n ad I o) H) (hD : va_D A (tp_w cy n ad I o)) (hS : va_S A H0 H locs) (k N j : Nat) (hk : k < 9 + 15 * n) (hc : ∀ I : Nat → Nat → Int32, tp_c cy n ad I o k = .inl (cy 0, N, .inl (I k))) (hj : x = nI j) (hlt : j < N) (hN : N < 2 ^ 31) (hdg : decode cc pc = .ok (.iastore, 1))
    (kk : ∀ (H1 : Heap) (locs1 : List Loc), va_P D vwCl (tp_w cy n ad (tp_u I k j v) o) H1 → va_D A (tp_w cy n ad (tp_u I k j v) o) → va_S A H0 H1 locs1 → W p l e R s m args below meth c H1 locs1 cells slots Q (F0 m (pc + 1) ls rest)) : W p l e R s m args below meth c H locs cells slots Q (F0 m pc ls (.int v :: .int x :: .ref (ad k) :: rest)) := by
  subst hj
  refine va_iast hx hb hK hP hD hS k 0 (by rw [tp_at hk, hc]) rfl (vp_in_nI hlt hN) hdg (fun H1 locs1 hP hD hS => ?_)
  rw [nI_clamp (by omega), tp_set hk (I' := tp_u I k j v) tp_u_ne (by rw [hc, tp_u_at])] at hP hD
  exact kk H1 locs1 hP hD hS
end TPR

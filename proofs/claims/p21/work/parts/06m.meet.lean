/-! WHERE WAYS MEET -/
section TPM
variable {p : Program} {l : Launch} {e : Env} {R : Room} {s : State} {m : MethodId} {args : Array Value} {below : List Frame} {meth : Method} {c : Code} {H : Heap} {locs : List Loc} {cells slots : Nat} {Q : State → Prop}
variable {pc : Nat} {ls : Array Slot} {rest : List Value}
/-- where ways meet -/
theorem tp_meet {α : Sort _} {g0 : JFrame} (x : α) (g : α → JFrame) (h : (∀ y : α, y = x → W p l e R s m args below meth c H locs cells slots Q (g y)) → W p l e R s m args below meth c H locs cells slots Q g0) (k : W p l e R s m args below meth c H locs cells slots Q (g x)) : W p l e R s m args below meth c H locs cells slots Q g0 := h (fun y ey => by subst ey; exact k)
theorem tp_meetH {D : va_G} {A : Nat → Prop} {H0 : Heap} {cy : Nat → ClassId} {n : Nat} {ad : Nat → Nat} {I : Nat → Nat → Int32} {o : Int64} {α : Sort _} {g0 : JFrame} (x : α) (g : α → JFrame)
    (h : (∀ y : α, y = x → ∀ (H : Heap) (locs : List Loc), va_P D vwCl (tp_w cy n ad I o) H → va_D A (tp_w cy n ad I o) → va_S A H0 H locs → W p l e R s m args below meth c H locs cells slots Q (g y)) → W p l e R s m args below meth c H locs cells slots Q g0)
    (k : ∀ (H : Heap) (locs : List Loc), va_P D vwCl (tp_w cy n ad I o) H → va_D A (tp_w cy n ad I o) → va_S A H0 H locs → W p l e R s m args below meth c H locs cells slots Q (g x)) : W p l e R s m args below meth c H locs cells slots Q g0 := h (fun y ey => by subst ey; exact k)
theorem tp_eqi {x y : Int32} (h : x = y) (k : W p l e R s m args below meth c H locs cells slots Q (F0 m pc ls (.int y :: rest))) : W p l e R s m args below meth c H locs cells slots Q (F0 m pc ls (.int x :: rest)) := by
  subst h
  exact k
end TPM
theorem tp_eqI {l : Launch} {y : MethodName} {ws : List Cond} {rm : Room} {D : va_G} {cy : Nat → ClassId} {n : Nat} {ad : Nat → Nat} {o : Int64} {as : List Value} {I : Nat → Nat → Int32} {r r' : Int32} {I1 I2 : Nat → Nat → Int32} (h : tp_I l y ws rm D cy n ad o as I r I1) (hr : r = r') (hI : I1 = I2) : tp_I l y ws rm D cy n ad o as I r' I2 := by
  subst hr
  subst hI
  exact h

/-! WHAT THE MODEL'S METHODS ANSWER -/
section TPM
variable {p : Program} {l : Launch} {e : Env} {R : Room} {s : State} {m : MethodId} {args : Array Value} {below : List Frame} {meth : Method} {c : Code} {H : Heap} {locs : List Loc} {cells slots : Nat} {Q : State → Prop}
variable {pc : Nat} {ls : Array Slot} {rest : List Value}
/-- where ways meet -/
theorem tp_meet {α : Sort _} {g0 : JFrame} (x : α) (g : α → JFrame) (h : (∀ y : α, y = x → W p l e R s m args below meth c H locs cells slots Q (g y)) → W p l e R s m args below meth c H locs cells slots Q g0) (k : W p l e R s m args below meth c H locs cells slots Q (g x)) : W p l e R s m args below meth c H locs cells slots Q g0 := h (fun y ey => by subst ey; exact k)
theorem tp_meetH {D : va_G} {A : Nat → Prop} {H0 : Heap} {cy : Nat → ClassId} {n : Nat} {ad : Nat → Nat} {I : Nat → Nat → Int32} {o : Int64} {α : Sort _} {g0 : JFrame} (x : α) (g : α → JFrame)
    (h : (∀ y : α, y = x → ∀ (H : Heap) (locs : List Loc), va_P D vwCl (tp_w cy n ad I o) H → va_D A (tp_w cy n ad I o) → va_S A H0 H locs → W p l e R s m args below meth c H locs cells slots Q (g y)) → W p l e R s m args below meth c H locs cells slots Q g0)
    (k : ∀ (H : Heap) (locs : List Loc), va_P D vwCl (tp_w cy n ad I o) H → va_D A (tp_w cy n ad I o) → va_S A H0 H locs → W p l e R s m args below meth c H locs cells slots Q (g x)) : W p l e R s m args below meth c H locs cells slots Q g0 := h (fun y ey => by subst ey; exact k)
theorem tp_eqi {x y : Int32} (h : x = y) (k : W p l e R s m args below meth c H locs cells slots Q (F0 m pc ls (.int y :: rest))) : W p l e R s m args below meth c H locs cells slots Q (F0 m pc ls (.int x :: rest)) := by
  subst h
  exact k
end TPM
theorem tp_eqI {l : Launch} {y : MethodName} {ws : List Cond} {rm : Room} {D : va_G} {cy : Nat → ClassId} {n : Nat} {ad : Nat → Nat} {o : Int64} {as : List Value} {I : Nat → Nat → Int32} {r r' : Int32} {I1 I2 : Nat → Nat → Int32} (h : tp_I l y ws rm D cy n ad o as I r I1) (hr : r = r') (hI : I1 = I2) : tp_I l y ws rm D cy n ad o as I r' I2 := by
  subst hr
  subst hI
  exact h
def tp_in (v lo hi : Int32) : Int32 := if v < lo then 0 else if hi < v then 0 else 1
def tp_low (f : Int32) : Int32 := if f = 0 then 1 else 0
def tp_great (f : Int32) : Int32 := if f = 0 then 2 else if f = 1 then 9 else if f = 4 then 10000000 else 1000000
def tp_least (x y : Int32) : Int32 := if y ≤ x then y else x
def tp_cnt (I : Nat → Nat → Int32) (f m la : Int32) (k : Nat) : Int32 := if I 5 k = f then (if m < I 6 k then 0 else if I 6 k < la then 0 else 1) else 0
def tp_scan (I : Nat → Nat → Int32) (f m : Int32) (b : Nat) : Nat → Int32 × Int32
  | 0 => (tp_low f, -1)
  | t + 1 => (if tp_cnt I f m (tp_scan I f m b t).2 (b + t) = 0 then (tp_scan I f m b t).1 else I 7 (b + t), if tp_cnt I f m (tp_scan I f m b t).2 (b + t) = 0 then (tp_scan I f m b t).2 else I 6 (b + t))
def tp_mfact (I : Nat → Nat → Int32) (h : Nat) (f m : Int32) : Int32 := (tp_scan I f m (100 * h) (I 4 h).toNatClampNeg).1
/-- the model's count of a household's changes is a number up to 100 -/
def tp_C (I : Nat → Nat → Int32) (h : Nat) : Prop := ∃ c : Nat, c ≤ 100 ∧ I 4 h = nI c
def tp_mneed (I : Nat → Nat → Int32) (h : Nat) (m : Int32) : Int32 := 30000 + (if tp_mfact I h 0 m = 2 then 12000 else 0) + 8000 * tp_mfact I h 1 m + (if 60000 ≤ tp_mfact I h 2 m then 60000 else tp_mfact I h 2 m)
def tp_mtaper (I : Nat → Nat → Int32) (h : Nat) (m : Int32) : Int32 := if tp_mfact I h 3 m - 20000 ≤ 0 then 0 else (tp_mfact I h 3 m - 20000) * 60 / 100
def tp_mtariff (I : Nat → Nat → Int32) (h : Nat) (m : Int32) : Int32 := if tp_mfact I h 4 m - 600000 ≤ 0 then 0 else (tp_mfact I h 4 m - 600000 + 24999) / 25000 * 500
def tp_mdue (I : Nat → Nat → Int32) (h : Nat) (m : Int32) : Int32 := if tp_mneed I h m - tp_mtaper I h m - tp_mtariff I h m < 500 then 0 else if tp_mfact I h 4 m ≤ 1600000 then tp_mneed I h m - tp_mtaper I h m - tp_mtariff I h m else 0
def tp_mopen (I : Nat → Nat → Int32) (h a e : Nat) : Int32 := tp_sum (fun m => tp_mdue I h (nI m) - I 8 (48 * h + m)) a (e - a)
def tp_ask (I : Nat → Nat → Int32) (x m : Int32) : Int32 := if tp_in x 0 (I 2 2 - 1) = 0 then 1 else if tp_in m 0 47 = 0 then 1 else 0
/-- what reckons says: debt brought down, arrears, room, debt then, taken, pay -/
def tp_rdown (I : Nat → Nat → Int32) (h : Nat) (more : Int32) : Int32 := if more ≤ 0 then 0 else tp_least more (I 10 h)
def tp_rarr (I : Nat → Nat → Int32) (h : Nat) (more : Int32) : Int32 := if more ≤ 0 then 0 else more - tp_rdown I h more
def tp_rroom (I : Nat → Nat → Int32) (h : Nat) (k : Int32) : Int32 := tp_mdue I h k + tp_mfact I h 3 k - 25000
def tp_rthen (I : Nat → Nat → Int32) (h : Nat) (more : Int32) : Int32 := if more ≤ 0 then I 10 h - more else I 10 h - tp_rdown I h more
def tp_rtaken (I : Nat → Nat → Int32) (h : Nat) (k more : Int32) : Int32 := if I 12 h = 0 then (if 0 ≤ tp_rroom I h k then tp_least (tp_rthen I h more) (tp_least (tp_mdue I h k * 15 / 100) (tp_rroom I h k)) else 0) else 0
def tp_rpay (I : Nat → Nat → Int32) (h : Nat) (k more : Int32) : Int32 := tp_mdue I h k - tp_rtaken I h k more + tp_rarr I h more
def tp_reck (I : Nat → Nat → Int32) (h : Nat) (k more : Int32) : Nat → Nat → Int32 := tp_u (tp_u (tp_u I 2 13 (tp_rthen I h more)) 2 14 (tp_rtaken I h k more)) 2 15 (tp_rpay I h k more)
/-- are a change's arguments in their ranges? -/
def tp_tok (f d v : Int32) : Int32 := if tp_in f 0 4 = 0 then 0 else if tp_in d 0 1439 = 0 then 0 else tp_in v (tp_low f) (tp_great f)

/-! STRETCHES OF AN ARRAY FILLED, and what doesn't depend on them -/
def tp_fill (I : Nat → Nat → Int32) (c lo : Nat) (g : Nat → Int32) (s : Nat) : Nat → Nat → Int32 := va_up I c (fun j => if lo ≤ j ∧ j < lo + s then g (j - lo) else I c j)
theorem tp_fill_oth {I : Nat → Nat → Int32} {c lo a : Nat} {g : Nat → Int32} {s : Nat} (h : a ≠ c) : tp_fill I c lo g s a = I a := va_up_ne I _ h
theorem tp_fill_at {I : Nat → Nat → Int32} {c lo : Nat} {g : Nat → Int32} {s : Nat} : tp_fill I c lo g s c = fun j => if lo ≤ j ∧ j < lo + s then g (j - lo) else I c j := va_up_self I c _
theorem tp_fill_0 {I : Nat → Nat → Int32} {c lo : Nat} {g : Nat → Int32} : tp_fill I c lo g 0 = I := by
  funext a
  by_cases h : a = c
  · subst h
    rw [tp_fill_at]
    funext j
    rw [if_neg (by omega)]
  · rw [tp_fill_oth h]
theorem tp_fill_s {I : Nat → Nat → Int32} {c lo : Nat} {g : Nat → Int32} {s : Nat} {x : Int32} (hx : x = g s) : tp_u (tp_fill I c lo g s) c (lo + s) x = tp_fill I c lo g (s + 1) := by
  subst hx
  funext a
  by_cases h : a = c
  · subst h
    rw [tp_u_at, tp_fill_at, tp_fill_at]
    funext j
    unfold upd
    dsimp only
    by_cases hj : j = lo + s
    · subst hj
      rw [if_pos rfl, if_pos (by omega), Nat.add_sub_cancel_left]
    · rw [if_neg hj]
      by_cases h2 : lo ≤ j ∧ j < lo + s
      · rw [if_pos h2, if_pos (by omega)]
      · rw [if_neg h2, if_neg (by omega)]
  · rw [tp_u_oth h, tp_fill_oth h, tp_fill_oth h]
/-- two arrays side by side -/
theorem tp_fill_s2 {I : Nat → Nat → Int32} {c c2 lo : Nat} {g g2 : Nat → Int32} {s : Nat} {x x2 : Int32} (hne : c ≠ c2) (hx : x = g s) (hx2 : x2 = g2 s) : tp_u (tp_u (tp_fill (tp_fill I c lo g s) c2 lo g2 s) c (lo + s) x) c2 (lo + s) x2 = tp_fill (tp_fill I c lo g (s + 1)) c2 lo g2 (s + 1) := by
  have e : tp_u (tp_fill (tp_fill I c lo g s) c2 lo g2 s) c (lo + s) x = tp_fill (tp_fill I c lo g (s + 1)) c2 lo g2 s := by
    rw [← tp_fill_s hx]
    funext a
    by_cases h : a = c
    · subst h
      rw [tp_u_at, tp_fill_oth hne, tp_fill_oth hne, tp_u_at]
    · rw [tp_u_oth h]
      by_cases h2 : a = c2
      · subst h2
        rw [tp_fill_at, tp_fill_at, tp_u_oth h]
      · rw [tp_fill_oth h2, tp_fill_oth h2, tp_u_oth h]
  rw [e]
  exact tp_fill_s hx2
theorem tp_sum_cong {g g2 : Nat → Int32} (a : Nat) : ∀ k : Nat, (∀ m, a ≤ m → m < a + k → g m = g2 m) → tp_sum g a k = tp_sum g2 a k
  | 0, _ => rfl
  | k + 1, h => by
    show tp_sum g a k + g (a + k) = tp_sum g2 a k + g2 (a + k)
    rw [tp_sum_cong a k (fun m h1 h2 => h m h1 (by omega)), h (a + k) (by omega) (by omega)]
/-- a household's facts alone count for what is due -/
theorem tp_due_cong {I J : Nat → Nat → Int32} {b m : Nat} (h : ∀ f, f < 5 → I (b + 2 + f) = J (b + 2 + f)) : tp_due I b m = tp_due J b m := by
  unfold tp_due tp_need tp_taper tp_tariff
  rw [h 0 (by omega), h 1 (by omega), h 2 (by omega), h 3 (by omega), h 4 (by omega)]
theorem tp_due_u {I : Nat → Nat → Int32} {b m k j : Nat} {x : Int32} (h : ∀ f, f < 5 → b + 2 + f ≠ k) : tp_due (tp_u I k j x) b m = tp_due I b m := tp_due_cong (fun f hf => tp_u_oth (h f hf))
theorem tp_due_fill {I : Nat → Nat → Int32} {b m c lo s : Nat} {g : Nat → Int32} (h : ∀ f, f < 5 → b + 2 + f ≠ c) : tp_due (tp_fill I c lo g s) b m = tp_due I b m := tp_due_cong (fun f hf => tp_fill_oth (h f hf))
/-! CLOSING -/
/-- a household settled: b its first cell, a its first month, m the current one -/
def tp_settle (I : Nat → Nat → Int32) (b a m : Nat) : Nat → Nat → Int32 :=
  tp_u (tp_fill (tp_u (tp_u (tp_u I b 6 (tp_owed I b (tp_open I b a m))) b 6 (tp_owed I b (tp_open I b a m) - tp_rec I b m (tp_owed I b (tp_open I b a m)))) b 7 (I b 7 + tp_rec I b m (tp_owed I b (tp_open I b a m)))) (b + 13) a (fun s => tp_due I b (a + s)) (m + 1 - a)) (b + 14) m (tp_paym I b a m)
/-- a change entered, up to the month lo + s -/
def tp_chg (I : Nat → Nat → Int32) (b f lo : Nat) (v : Int32) (s : Nat) : Nat → Nat → Int32 :=
  tp_fill (tp_fill (tp_u I b 2 (I b 2 + 1)) (b + 2 + f) lo (fun _ => v) s) (b + 8 + f) lo (fun _ => nI lo) s
theorem tp_rec_u {I : Nat → Nat → Int32} {b m : Nat} {x y : Int32} : tp_rec (tp_u I b 6 x) b m y = tp_rec I b m y := by
  unfold tp_rec
  rw [tp_due_u (fun f hf => by omega), tp_u_n (by decide), tp_u_oth (a := b + 2 + 3) (k := b) (by omega)]
theorem tp_eqV {l : Launch} {y : MethodName} {ws : List Cond} {rm : Room} {D : va_G} {cy : Nat → ClassId} {n : Nat} {ad : Nat → Nat} {o : Int64} {as : List Value} {I I1 I2 : Nat → Nat → Int32} (h : tp_V l y ws rm D cy n ad o as I I1) (hI : I1 = I2) : tp_V l y ws rm D cy n ad o as I I2 := by
  subst hI
  exact h
/-- what stands behind the filled stretch -/
theorem tp_fill_up {I : Nat → Nat → Int32} {c lo s j : Nat} {g : Nat → Int32} (h : lo + s ≤ j) : tp_fill I c lo g s c j = I c j := by
  rw [tp_fill_at]
  exact if_neg (by omega)

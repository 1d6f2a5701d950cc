/-! STRETCHES OF AN ARRAY FILLED, and what doesn't depend on them -/
def tp_fill (I : Nat → Nat → Int32) (c lo : Nat) (g : Nat → Int32) (s : Nat) : Nat → Nat → Int32 := va_up I c (fun j => if lo ≤ j ∧ j < lo + s then g (j - lo) else I c j)
theorem tp_fill_oth {I : Nat → Nat → Int32} {c lo a : Nat} {g : Nat → Int32} {s : Nat} (h : a ≠ c) : tp_fill I c lo g s a = I a := va_up_ne I _ h
theorem tp_fill_at {I : Nat → Nat → Int32} {c lo : Nat} {g : Nat → Int32} {s : Nat} : tp_fill I c lo g s c = fun j => if lo ≤ j ∧ j < lo + s then g (j - lo) else I c j := va_up_self I c _
theorem tp_fill_0 {I : Nat → Nat → Int32} {c lo : Nat} {g : Nat → Int32} : tp_fill I c lo g 0 = I := by
  funext a
  by_cases h : a = c
  · subst h
    rw [tp_fill_at]
    funext j
    rw [if_neg (by omega)]
  · rw [tp_fill_oth h]
theorem tp_fill_s {I : Nat → Nat → Int32} {c lo : Nat} {g : Nat → Int32} {s : Nat} {x : Int32} (hx : x = g s) : tp_u (tp_fill I c lo g s) c (lo + s) x = tp_fill I c lo g (s + 1) := by
  subst hx
  funext a
  by_cases h : a = c
  · subst h
    rw [tp_u_at, tp_fill_at, tp_fill_at]
    funext j
    unfold upd
    dsimp only
    by_cases hj : j = lo + s
    · subst hj
      rw [if_pos rfl, if_pos (by omega), Nat.add_sub_cancel_left]
    · rw [if_neg hj]
      by_cases h2 : lo ≤ j ∧ j < lo + s
      · rw [if_pos h2, if_pos (by omega)]
      · rw [if_neg h2, if_neg (by omega)]
  · rw [tp_u_oth h, tp_fill_oth h, tp_fill_oth h]
/-- two arrays side by side -/
theorem tp_fill_s2 {I : Nat → Nat → Int32} {c c2 lo : Nat} {g g2 : Nat → Int32} {s : Nat} {x x2 : Int32} (hne : c ≠ c2) (hx : x = g s) (hx2 : x2 = g2 s) : tp_u (tp_u (tp_fill (tp_fill I c lo g s) c2 lo g2 s) c (lo + s) x) c2 (lo + s) x2 = tp_fill (tp_fill I c lo g (s + 1)) c2 lo g2 (s + 1) := by
  have e : tp_u (tp_fill (tp_fill I c lo g s) c2 lo g2 s) c (lo + s) x = tp_fill (tp_fill I c lo g (s + 1)) c2 lo g2 s := by
    rw [← tp_fill_s hx]
    funext a
    by_cases h : a = c
    · subst h
      rw [tp_u_at, tp_fill_oth hne, tp_fill_oth hne, tp_u_at]
    · rw [tp_u_oth h]
      by_cases h2 : a = c2
      · subst h2
        rw [tp_fill_at, tp_fill_at, tp_u_oth h]
      · rw [tp_fill_oth h2, tp_fill_oth h2, tp_u_oth h]
  rw [e]
  exact tp_fill_s hx2
theorem tp_sum_cong {g g2 : Nat → Int32} (a : Nat) : ∀ k : Nat, (∀ m, a ≤ m → m < a + k → g m = g2 m) → tp_sum g a k = tp_sum g2 a k
  | 0, _ => rfl
  | k + 1, h => by
    show tp_sum g a k + g (a + k) = tp_sum g2 a k + g2 (a + k)
    rw [tp_sum_cong a k (fun m h1 h2 => h m h1 (by omega)), h (a + k) (by omega) (by omega)]
/-- a household's facts alone count for what is due -/
theorem tp_due_cong {I J : Nat → Nat → Int32} {b m : Nat} (h : ∀ f, f < 5 → I (b + 2 + f) = J (b + 2 + f)) : tp_due I b m = tp_due J b m := by
  unfold tp_due tp_need tp_taper tp_tariff
  rw [h 0 (by omega), h 1 (by omega), h 2 (by omega), h 3 (by omega), h 4 (by omega)]
theorem tp_due_u {I : Nat → Nat → Int32} {b m k j : Nat} {x : Int32} (h : ∀ f, f < 5 → b + 2 + f ≠ k) : tp_due (tp_u I k j x) b m = tp_due I b m := tp_due_cong (fun f hf => tp_u_oth (h f hf))
theorem tp_due_fill {I : Nat → Nat → Int32} {b m c lo s : Nat} {g : Nat → Int32} (h : ∀ f, f < 5 → b + 2 + f ≠ c) : tp_due (tp_fill I c lo g s) b m = tp_due I b m := tp_due_cong (fun f hf => tp_fill_oth (h f hf))
/-- the model's rows of changes alone count for a fact -/
theorem tp_scan_cong {I J : Nat → Nat → Int32} {f m : Int32} {b : Nat} : ∀ t : Nat, (∀ j, b ≤ j → j < b + t → I 5 j = J 5 j ∧ I 6 j = J 6 j ∧ I 7 j = J 7 j) → tp_scan I f m b t = tp_scan J f m b t
  | 0, _ => rfl
  | t + 1, h => by
    obtain ⟨h5, h6, h7⟩ := h (b + t) (by omega) (by omega)
    have ih := tp_scan_cong (I := I) (J := J) (f := f) (m := m) (b := b) t (fun j a1 a2 => h j a1 (by omega))
    unfold tp_scan
    rw [ih]
    unfold tp_cnt
    rw [h5, h6, h7]
theorem tp_mfact_cong {I J : Nat → Nat → Int32} {h : Nat} {f m : Int32} (h4 : I 4 = J 4) (h5 : I 5 = J 5) (h6 : I 6 = J 6) (h7 : I 7 = J 7) : tp_mfact I h f m = tp_mfact J h f m := by
  unfold tp_mfact
  rw [h4, tp_scan_cong (I := I) (J := J) _ (fun j _ _ => ⟨by rw [h5], by rw [h6], by rw [h7]⟩)]
theorem tp_mdue_cong {I J : Nat → Nat → Int32} {h : Nat} {m : Int32} (h4 : I 4 = J 4) (h5 : I 5 = J 5) (h6 : I 6 = J 6) (h7 : I 7 = J 7) : tp_mdue I h m = tp_mdue J h m := by
  unfold tp_mdue tp_mneed tp_mtaper tp_mtariff
  simp only [tp_mfact_cong (I := I) (J := J) h4 h5 h6 h7]
theorem tp_mopen_cong {I J : Nat → Nat → Int32} {h a e : Nat} (h4 : I 4 = J 4) (h5 : I 5 = J 5) (h6 : I 6 = J 6) (h7 : I 7 = J 7) (h8 : ∀ m, m < 48 → I 8 (48 * h + m) = J 8 (48 * h + m)) (he : e ≤ 48) : tp_mopen I h a e = tp_mopen J h a e := by
  unfold tp_mopen
  refine tp_sum_cong a _ (fun m h1 h2 => ?_)
  rw [tp_mdue_cong (I := I) (J := J) h4 h5 h6 h7, h8 m (by omega)]
/-! CLOSING -/
/-- a household settled: b its first cell, a its first month, m the current one -/
def tp_settle (I : Nat → Nat → Int32) (b a m : Nat) : Nat → Nat → Int32 :=
  tp_u (tp_fill (tp_u (tp_u (tp_u I b 6 (tp_owed I b (tp_open I b a m))) b 6 (tp_owed I b (tp_open I b a m) - tp_rec I b m (tp_owed I b (tp_open I b a m)))) b 7 (I b 7 + tp_rec I b m (tp_owed I b (tp_open I b a m)))) (b + 13) a (fun s => tp_due I b (a + s)) (m + 1 - a)) (b + 14) m (tp_paym I b a m)
/-- a change entered, up to the month lo + s -/
def tp_chg (I : Nat → Nat → Int32) (b f lo : Nat) (v : Int32) (s : Nat) : Nat → Nat → Int32 :=
  tp_fill (tp_fill (tp_u I b 2 (I b 2 + 1)) (b + 2 + f) lo (fun _ => v) s) (b + 8 + f) lo (fun _ => nI lo) s
/-- one household of the model closed -/
def tp_mcl (I : Nat → Nat → Int32) (a e k : Nat) : Nat → Nat → Int32 :=
  tp_fill (tp_u (tp_u (tp_u (tp_reck I k (nI e) (tp_mopen I k a e)) 10 k (tp_rthen I k (tp_mopen I k a e) - tp_rtaken I k (nI e) (tp_mopen I k a e))) 11 k (I 11 k + tp_rtaken I k (nI e) (tp_mopen I k a e))) 9 (48 * k + e) (tp_rpay I k (nI e) (tp_mopen I k a e))) 8 (48 * k + a) (fun s => tp_mdue I k (nI (a + s))) (e + 1 - a)
def tp_cls (I : Nat → Nat → Int32) (a : Nat → Nat) (e : Nat) : Nat → Nat → Nat → Int32
  | 0 => tp_u I 2 0 0
  | k + 1 => tp_mcl (tp_cls I a e k) (a k) e k
def tp_clsum (I : Nat → Nat → Int32) (a : Nat → Nat) (e : Nat) : Nat → Int32
  | 0 => 0
  | k + 1 => tp_clsum I a e k + tp_rpay (tp_cls I a e k) k (nI e) (tp_mopen (tp_cls I a e k) k (a k) e)
theorem tp_mcl_keep {I : Nat → Nat → Int32} {a e k c : Nat} (h2 : c ≠ 2) (h8 : c ≠ 8) (h9 : c ≠ 9) (h10 : c ≠ 10) (h11 : c ≠ 11) : tp_mcl I a e k c = I c := by
  unfold tp_mcl tp_reck
  rw [tp_fill_oth h8, tp_u_oth h9, tp_u_oth h11, tp_u_oth h10, tp_u_oth h2, tp_u_oth h2, tp_u_oth h2]
theorem tp_mcl_keep2 {I : Nat → Nat → Int32} {a e k j : Nat} (h : j < 13) : tp_mcl I a e k 2 j = I 2 j := by
  unfold tp_mcl tp_reck
  rw [tp_fill_oth (by decide), tp_u_oth (a := 2) (k := 9) (by decide), tp_u_oth (a := 2) (k := 11) (by decide), tp_u_oth (a := 2) (k := 10) (by decide), tp_u_n (by omega), tp_u_n (by omega), tp_u_n (by omega)]
theorem tp_cls_keep {I : Nat → Nat → Int32} {a : Nat → Nat} {e c : Nat} (h2 : c ≠ 2) (h8 : c ≠ 8) (h9 : c ≠ 9) (h10 : c ≠ 10) (h11 : c ≠ 11) : ∀ k : Nat, tp_cls I a e k c = I c
  | 0 => tp_u_oth h2
  | k + 1 => (tp_mcl_keep h2 h8 h9 h10 h11).trans (tp_cls_keep h2 h8 h9 h10 h11 k)
theorem tp_cls_keep2 {I : Nat → Nat → Int32} {a : Nat → Nat} {e j : Nat} (h0 : j ≠ 0) (h : j < 13) : ∀ k : Nat, tp_cls I a e k 2 j = I 2 j
  | 0 => tp_u_n h0
  | k + 1 => (tp_mcl_keep2 h).trans (tp_cls_keep2 h0 h k)
theorem tp_rec_u {I : Nat → Nat → Int32} {b m : Nat} {x y : Int32} : tp_rec (tp_u I b 6 x) b m y = tp_rec I b m y := by
  unfold tp_rec
  rw [tp_due_u (fun f hf => by omega), tp_u_n (by decide), tp_u_oth (a := b + 2 + 3) (k := b) (by omega)]
theorem tp_eqV {l : Launch} {y : MethodName} {ws : List Cond} {rm : Room} {D : va_G} {cy : Nat → ClassId} {n : Nat} {ad : Nat → Nat} {o : Int64} {as : List Value} {I I1 I2 : Nat → Nat → Int32} (h : tp_V l y ws rm D cy n ad o as I I1) (hI : I1 = I2) : tp_V l y ws rm D cy n ad o as I I2 := by
  subst hI
  exact h
/-- what stands behind the filled stretch -/
theorem tp_fill_up {I : Nat → Nat → Int32} {c lo s j : Nat} {g : Nat → Int32} (h : lo + s ≤ j) : tp_fill I c lo g s c j = I c j := by
  rw [tp_fill_at]
  exact if_neg (by omega)

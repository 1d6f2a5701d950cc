/-! WHAT A HOUSEHOLD'S METHODS ANSWER: b is its first cell, m a month -/
def tp_need (I : Nat → Nat → Int32) (b m : Nat) : Int32 := (if I (b + 2 + 0) m ≤ 1 then 30000 + I (b + 2 + 1) m * 8000 else 30000 + I (b + 2 + 1) m * 8000 + 12000) + (if 60000 < I (b + 2 + 2) m then 60000 else I (b + 2 + 2) m)
def tp_pos (x : Int32) : Int32 := if 0 < x then x else 0
def tp_min (x y : Int32) : Int32 := if y < x then y else x
def tp_taper (I : Nat → Nat → Int32) (b m : Nat) : Int32 := tp_pos (I (b + 2 + 3) m - 20000) * 60 / 100
def tp_tariff (I : Nat → Nat → Int32) (b m : Nat) : Int32 := (tp_pos (I (b + 2 + 4) m - 600000) + 25000 - 1) / 25000 * 500
def tp_due (I : Nat → Nat → Int32) (b m : Nat) : Int32 := if I (b + 2 + 4) m ≤ 1600000 then (if 500 ≤ tp_need I b m - tp_taper I b m - tp_tariff I b m then tp_need I b m - tp_taper I b m - tp_tariff I b m else 0) else 0
def tp_sum (g : Nat → Int32) (a : Nat) : Nat → Int32
  | 0 => 0
  | k + 1 => tp_sum g a k + g (a + k)
/-- what is due for the months from a to e - 1, less what was assessed -/
def tp_open (I : Nat → Nat → Int32) (b a e : Nat) : Int32 := tp_sum (fun m => tp_due I b m - I (b + 13) m) a (e - a)
def tp_owed (I : Nat → Nat → Int32) (b : Nat) (x : Int32) : Int32 := tp_pos (I b 6 - x)
def tp_arr (I : Nat → Nat → Int32) (b : Nat) (x : Int32) : Int32 := tp_pos (x - I b 6)
def tp_rec (I : Nat → Nat → Int32) (b m : Nat) (x : Int32) : Int32 := if I b 8 = 0 then tp_min x (tp_min (tp_due I b m * 15 / 100) (tp_pos (tp_due I b m + I (b + 2 + 3) m - 25000))) else 0
def tp_paym (I : Nat → Nat → Int32) (b a m : Nat) : Int32 := tp_due I b m - tp_rec I b m (tp_owed I b (tp_open I b a m)) + tp_arr I b (tp_open I b a m)

/-! what each call answers and does, over the reference's memory: u 0 k its numbers (0 skew, 2 keys, 8 seals, 19 nonces, 27 latest, 28 cached), u r its arrays by the place of their field -/
abbrev zn (x : Int32) : Nat := x.toNatClampNeg
def zs_clr (u : zm_T) (p : Nat) : zm_T := fun r i => if r = 7 ∧ 3 * p ≤ i ∧ i < 3 * p + 3 then 0 else u r i
def zs_cp (u : zm_T) (f t : Nat) : zm_T := fun r i => if r = 5 ∧ t ≤ i ∧ i < t + 6 then u 5 (f + (i - t)) else if r = 6 ∧ t ≤ i ∧ i < t + 6 then u 6 (f + (i - t)) else if r = 7 ∧ 3 * t ≤ i ∧ i < 3 * t + 18 then u 7 (3 * f + (i - 3 * t)) else u r i
def zs_cnt (u : zm_T) (f : Nat) : Nat → Int32
  | 0 => 0
  | k + 1 => if 0 ≤ (u 5 (f + k)).toInt then zs_cnt u f k + 1 else zs_cnt u f k
def zs_v (a b c d e f g h i j : Int32) : Nat → Int32 := fun r => match r with
  | 9 => a
  | 10 => b
  | 11 => c
  | 12 => d
  | 13 => e
  | 14 => f
  | 15 => g
  | 16 => h
  | 17 => i
  | 18 => j
  | _ => 0
/-- a seal is made: its number is u 0 8 -/
def zs_mk (u : zm_T) (v : Nat → Int32) : zm_T := fun r i => if r = 0 ∧ i = 8 then u 0 8 + 1 else if i = zn (u 0 8) ∧ 9 ≤ r ∧ r ≤ 18 then v r else u r i
def zs_rq (u : zm_T) (a : Nat) (t key : Int32) : zm_T := zm_w (zm_w (zm_w (zm_w u 0 19 (u 0 19 + 1)) 20 a (u 0 19 + 1)) 21 a t) 22 a key
abbrev zs_us (a : Int32) : Prop := zi_in a 2 5
abbrev zs_bk (u : zm_T) (a : Int32) : Prop := zi_in a 0 5 ∧ 0 ≤ (u 5 (zn a)).toInt
abbrev zs_sl (u : zm_T) (s : Int32) : Prop := 0 ≤ s.toInt ∧ s.toInt < (u 0 8).toInt
abbrev zs_op (u : zm_T) (key s : Int32) (k : Int) : Prop := zs_sl u s ∧ (u 9 (zn s)).toInt = k ∧ 0 ≤ key.toInt ∧ (u 10 (zn s)).toInt = key.toInt
abbrev zs_nr (u : zm_T) (x y : Int32) : Prop := x.toInt - y.toInt ≤ (u 0 0).toInt ∧ -(u 0 0).toInt ≤ x.toInt - y.toInt
abbrev zs_st (u : zm_T) (k : Int32) : Prop := 0 ≤ k.toInt ∧ k.toInt < (u 0 2).toInt ∧ (u 4 (zn k)).toInt = 1
def zs_mn (x y : Int32) : Int32 := if x.toInt < y.toInt then x else y
def sp_enrol (a : Int32) (u : zm_T) : Int32 × zm_T := if ¬ zi_in a 0 5 then (-1, u) else if (u 0 2).toInt = 200 then (-7, u) else
  (u 0 2, zm_w (zm_w (zm_w (if (u 5 (zn a)).toInt < 0 then zs_clr (zm_w u 6 (zn a) 20) (zn a) else u) 5 (zn a) (u 0 2)) 3 (zn a) (u 0 2)) 0 2 (u 0 2 + 1))
def sp_remove (a : Int32) (u : zm_T) : Int32 × zm_T := if zs_bk u a then (1, zm_w u 5 (zn a) (-1)) else (0, u)
def sp_limit (a n : Int32) (u : zm_T) : Int32 × zm_T := if zs_bk u a ∧ zi_in n 1 1000 then (1, zm_w u 6 (zn a) n) else (0, u)
def sp_allow (a f r : Int32) (u : zm_T) : Int32 × zm_T := if zs_bk u a ∧ zi_in f 0 2 ∧ zi_in r 0 3 then (1, zm_w u 7 (3 * zn a + zn f) r) else (0, u)
def sp_save (u : zm_T) : Int32 × zm_T := (zs_cnt u 0 6, zs_cp u 0 6)
def sp_crash (u : zm_T) : Int32 × zm_T := (zs_cnt u 6 6, zs_cp u 6 0)
def sp_tick (a n : Int32) (u : zm_T) : Int32 × zm_T := if zi_in a 0 5 ∧ zi_in n 1 1000 then (u 1 (zn a) + n, zm_w u 1 (zn a) (u 1 (zn a) + n)) else (-1, u)
def sp_login (a t : Int32) (u : zm_T) : Int32 × zm_T := if ¬ (zs_us a ∧ 0 ≤ (u 3 (zn a)).toInt ∧ zi_in t 0 1) then (-1, u) else if 150 ≤ (u 0 8).toInt then (-7, u) else
  (u 0 8, zs_mk (zs_rq u (zn a) t (u 3 (zn a))) (zs_v 1 (u 3 (zn a)) a (-1) (u 1 (zn a)) 0 0 0 0 0))
def sp_ask (a t : Int32) (u : zm_T) : Int32 × zm_T := if ¬ (zs_us a ∧ 0 ≤ (u 23 (2 * zn a)).toInt ∧ zi_in t 0 1) then (-1, u) else if 150 ≤ (u 0 8).toInt then (-7, u) else
  (u 0 8, zs_mk (zm_w (zs_rq u (zn a) t (u 24 (2 * zn a))) 25 (zn a) (u 25 (zn a) + 1)) (zs_v 4 (u 24 (2 * zn a)) a (-1) (u 1 (zn a)) (u 25 (zn a) + 1) 0 0 0 0))
def sp_receive (a q t : Int32) (u : zm_T) : Int32 × zm_T := if zs_us a ∧ ¬ (u 20 (zn a)).toInt = 0 ∧ zs_sl u t ∧ zs_op u (u 22 (zn a)) q 3 ∧ (u 13 (zn q)).toInt = (u 20 (zn a)).toInt ∧ (u 14 (zn q)).toInt = (u 21 (zn a)).toInt then
  (1, zm_w (zm_w (zm_w u 23 (2 * zn a + zn (u 21 (zn a))) t) 24 (2 * zn a + zn (u 21 (zn a))) (u 12 (zn q))) 20 (zn a) 0) else (0, u)
def sp_order (a o f x : Int32) (u : zm_T) : Int32 × zm_T := if ¬ (zs_us a ∧ 0 ≤ (u 23 (2 * zn a + 1)).toInt ∧ zi_in o 1 3 ∧ zi_in f 0 2) then (-1, u) else if 150 ≤ (u 0 8).toInt then (-7, u) else
  (u 0 8, zs_mk (zm_w u 25 (zn a) (u 25 (zn a) + 1)) (zs_v 4 (u 24 (2 * zn a + 1)) a (-1) (u 1 (zn a)) (u 25 (zn a) + 1) 0 o f x))
/-- a TICKET, and a PART behind it -/
def zs_two (u : zm_T) (c t nc en la ak : Int32) : zm_T := zm_w (zs_mk (zs_mk u (zs_v 2 (u 5 (zn t)) c (u 0 2) (u 1 0) en la 0 0 0)) (zs_v 3 ak (-1) (u 0 2) nc t en 0 0 0)) 0 2 (u 0 2 + 1)
def zs_most (u : zm_T) (c t life : Int32) : Int32 := zs_mn (zs_mn life (u 6 (zn c))) (u 6 (zn t))
def sp_issue (c t nc q life : Int32) (u : zm_T) : Int32 × zm_T := if ¬ (zs_us c ∧ zs_bk u c ∧ zi_in t 0 1 ∧ zs_bk u t ∧ 1 ≤ life.toInt) then (-1, u) else if ¬ zs_op u (u 5 (zn c)) q 1 then (-2, u) else if ¬ (u 11 (zn q)).toInt = c.toInt then (-3, u) else if ¬ zs_nr u (u 13 (zn q)) (u 1 0) then (-4, u) else if 200 ≤ (u 0 2).toInt ∨ 148 < (u 0 8).toInt then (-7, u) else
  (u 0 8, zs_two u c t nc (u 1 0 + zs_most u c t life) (if t.toInt = 0 then u 1 0 + 5 * u 6 (zn c) else u 1 0 + zs_most u c t life) (u 5 (zn c)))
def zs_gend (u : zm_T) (k t life : Int32) : Int32 := zs_mn (u 1 0 + zs_most u (u 11 (zn k)) t life) (if t.toInt = 1 then u 14 (zn k) else u 15 (zn k))
def sp_grant (k cl t nc life : Int32) (u : zm_T) : Int32 × zm_T := if ¬ (zi_in t 0 1 ∧ zs_bk u t ∧ zs_bk u 0 ∧ 1 ≤ life.toInt) then (-1, u) else if ¬ zs_op u (u 5 0) k 2 then (-2, u) else if ¬ zs_op u (u 12 (zn k)) cl 4 then (-2, u) else
  if ¬ ((u 11 (zn cl)).toInt = (u 11 (zn k)).toInt ∧ (u 16 (zn cl)).toInt = 0 ∧ zs_us (u 11 (zn k)) ∧ zs_bk u (u 11 (zn k))) then (-3, u) else if ¬ (zs_nr u (u 13 (zn cl)) (u 1 0) ∧ (u 1 0).toInt ≤ (u 14 (zn k)).toInt) then (-4, u) else if 200 ≤ (u 0 2).toInt ∨ 148 < (u 0 8).toInt then (-7, u) else
  (u 0 8, zs_two u (u 11 (zn k)) t nc (zs_gend u k t life) (if t.toInt = 1 then zs_gend u k t life else u 15 (zn k)) (u 12 (zn k)))
/-- the cache without what is too old: how many of the first k stay, and what then stands in its first places -/
def zs_kp (u : zm_T) : Nat → Nat × (Nat → Int32)
  | 0 => (0, u 29)
  | k + 1 => if (u 1 1 - u 0 0).toInt ≤ (u 13 (zn (u 29 k))).toInt then ((zs_kp u k).1 + 1, upd (zs_kp u k).2 (zs_kp u k).1 (u 29 k)) else zs_kp u k
def zs_fo (u : zm_T) : zm_T := zm_w (va_up u 29 (zs_kp u (zn (u 0 28))).2) 0 28 (nI (zs_kp u (zn (u 0 28))).1)
abbrev zs_same (u : zm_T) (a b : Nat) : Prop := (u 10 a).toInt = (u 10 b).toInt ∧ (u 11 a).toInt = (u 11 b).toInt ∧ (u 13 a).toInt = (u 13 b).toInt ∧ (u 14 a).toInt = (u 14 b).toInt ∧ (u 16 a).toInt = (u 16 b).toInt ∧ (u 17 a).toInt = (u 17 b).toInt ∧ (u 18 a).toInt = (u 18 b).toInt
def zs_rep (u : zm_T) (cl : Nat) : Nat → Bool
  | 0 => false
  | k + 1 => zs_rep u cl k || decide (zs_same u (zn (u 29 k)) cl)
def zs_may (u : zm_T) (c : Int32) (f : Nat) : Int32 := if zs_bk u c then u 7 (3 * zn c + f) else 0
def zs_new (u : zm_T) (cl : Nat) : Int32 := if (u 16 cl).toInt = 2 then u 18 cl else if (u 16 cl).toInt = 3 then u 26 (zn (u 17 cl)) + u 18 cl else u 26 (zn (u 17 cl))
def sp_serve1 (k cl : Int32) (u : zm_T) : Int32 × zm_T := if ¬ zs_op u (u 3 1) k 2 then (-2, u) else if ¬ zs_op u (u 12 (zn k)) cl 4 then (-2, u) else if ¬ ((u 11 (zn cl)).toInt = (u 11 (zn k)).toInt ∧ ¬ (u 16 (zn cl)).toInt = 0) then (-3, u) else
  if ¬ (zs_nr u (u 13 (zn cl)) (u 1 1) ∧ (u 1 1).toInt ≤ (u 14 (zn k)).toInt ∧ (u 13 (zn k)).toInt ≤ (u 1 1 + u 0 0).toInt) then (-4, u) else if zs_rep u (zn cl) (zn (u 0 28)) = true then (-5, u) else
  if ¬ (zs_may u (u 11 (zn k)) (zn (u 17 (zn cl))) &&& u 16 (zn cl)).toInt = (u 16 (zn cl)).toInt then (-6, u) else if (u 0 28).toInt = 12 then (-7, u) else
  (0, zm_w (zm_w (zm_w (zm_w u 29 (zn (u 0 28)) cl) 0 28 (u 0 28 + 1)) 26 (zn (u 17 (zn cl))) (zs_new u (zn cl))) 0 27 (zs_new u (zn cl)))
def sp_serve (k cl : Int32) (u : zm_T) : Int32 × zm_T := sp_serve1 k cl (zs_fo u)
def sp_answer (u : zm_T) : Int32 × zm_T := (u 0 27, u)
def sp_steal (a : Int32) (u : zm_T) : Int32 × zm_T := if zi_in a 0 5 ∧ 0 ≤ (u 3 (zn a)).toInt then (u 3 (zn a), zm_w u 4 (zn (u 3 (zn a))) 1) else (-1, u)
def sp_learn (s : Int32) (u : zm_T) : Int32 × zm_T := if ¬ zs_sl u s then (-1, u) else if (u 4 (zn (u 10 (zn s)))).toInt = 0 then (-2, u) else if ¬ ((u 9 (zn s)).toInt = 2 ∨ (u 9 (zn s)).toInt = 3) then (0, u) else (u 12 (zn s), zm_w u 4 (zn (u 12 (zn s))) 1)
def sp_forge (key k c a b : Int32) (u : zm_T) : Int32 × zm_T := if ¬ (zi_in k 1 4 ∧ (k.toInt = 3 ∨ zi_in c 0 5)) then (-1, u) else if ¬ (zs_st u key ∧ ((k.toInt = 2 ∨ k.toInt = 3) → zs_st u a)) then (-2, u) else if 150 ≤ (u 0 8).toInt then (-7, u) else
  (u 0 8, zs_mk u (if k.toInt = 1 then zs_v 1 key c (-1) b 0 0 0 0 0 else if k.toInt = 2 then zs_v 2 key c a 0 b b 0 0 0 else if k.toInt = 3 then zs_v 3 key (-1) a b 1 1000000 0 0 0 else zs_v 4 key c (-1) b 0 0 (a &&& 3) ((a >>> ((2 : Int32) &&& 31) &&& 3) - (a >>> ((2 : Int32) &&& 31) &&& 3) / 3 * 3) (a >>> ((4 : Int32) &&& 31))))
def sp_seal (s w : Int32) (u : zm_T) : Int32 × zm_T := if ¬ (zs_sl u s ∧ zi_in w 0 2) then (-1, u) else if w.toInt = 0 then (u 9 (zn s), u) else if w.toInt = 1 then (if (u 9 (zn s)).toInt = 2 then u 14 (zn s) else if (u 9 (zn s)).toInt = 3 then u 15 (zn s) else 0, u) else (if (u 9 (zn s)).toInt = 1 ∨ (u 9 (zn s)).toInt = 4 then u 13 (zn s) else 0, u)
def sp_look (w i : Int32) (u : zm_T) : Int32 × zm_T := (if w.toInt = 0 then (if zi_in i 0 2 then u 26 (zn i) else -1) else if w.toInt = 1 then (if zi_in i 0 5 then u 1 (zn i) else -1) else if w.toInt = 2 then u 0 28 else if w.toInt = 3 then (if zs_us i then u 20 (zn i) else -1) else if w.toInt = 4 then (if zs_us i then u 23 (2 * zn i) else -1) else if w.toInt = 5 then (if zs_us i then u 23 (2 * zn i + 1) else -1) else if w.toInt = 6 then u 0 8 else if w.toInt = 7 then u 0 2 else -1, u)
/-- what holds of the reference's memory between calls -/
def zm_I (u : zm_T) : Prop := (0 ≤ (u 0 0).toInt ∧ (u 0 0).toInt ≤ 100) ∧ (0 ≤ (u 0 2).toInt ∧ (u 0 2).toInt ≤ 200) ∧ (0 ≤ (u 0 8).toInt ∧ (u 0 8).toInt ≤ 150) ∧ (0 ≤ (u 0 28).toInt ∧ (u 0 28).toInt ≤ 12) ∧
  (∀ i : Nat, i < 12 → -1 ≤ (u 5 i).toInt ∧ (u 5 i).toInt < (u 0 2).toInt) ∧ (∀ i : Nat, i < 6 → -1 ≤ (u 3 i).toInt ∧ (u 3 i).toInt < (u 0 2).toInt) ∧ (∀ i : Nat, i < 12 → -1 ≤ (u 23 i).toInt ∧ (u 23 i).toInt < (u 0 8).toInt ∧ (0 ≤ (u 23 i).toInt → 0 ≤ (u 24 i).toInt ∧ (u 24 i).toInt < (u 0 2).toInt)) ∧ (∀ i : Nat, i < 6 → 0 ≤ (u 21 i).toInt ∧ (u 21 i).toInt ≤ 1) ∧
  (∀ i : Nat, (i : Int) < (u 0 8).toInt → (1 ≤ (u 9 i).toInt ∧ (u 9 i).toInt ≤ 4) ∧ (0 ≤ (u 10 i).toInt ∧ (u 10 i).toInt < (u 0 2).toInt) ∧ ((u 9 i).toInt = 2 ∨ (u 9 i).toInt = 3 → 0 ≤ (u 12 i).toInt ∧ (u 12 i).toInt < (u 0 2).toInt) ∧ (¬ (u 9 i).toInt = 3 → 0 ≤ (u 11 i).toInt ∧ (u 11 i).toInt ≤ 5) ∧ ((u 9 i).toInt = 4 → (0 ≤ (u 16 i).toInt ∧ (u 16 i).toInt ≤ 3) ∧ (0 ≤ (u 17 i).toInt ∧ (u 17 i).toInt ≤ 2))) ∧
  (∀ i : Nat, (i : Int) < (u 0 28).toInt → (0 ≤ (u 29 i).toInt ∧ (u 29 i).toInt < (u 0 8).toInt) ∧ (u 9 (zn (u 29 i))).toInt = 4) ∧ (∀ i : Nat, i < 200 → (u 4 i).toInt = 0 ∨ (u 4 i).toInt = 1)

theorem zv_shn {sh : Nat → Option zw_Sh} {r rb q : Nat} (h1 : q ≠ r) (h2 : q < rb ∨ rb + 6 ≤ q) : zv_sh sh r rb q = sh q := by
  unfold zv_sh
  rw [va_up_ne _ _ h1, va_up_ne _ _ (by omega), va_up_ne _ _ (by omega), va_up_ne _ _ (by omega), va_up_ne _ _ (by omega), va_up_ne _ _ (by omega), va_up_ne _ _ (by omega)]
theorem zv_gn {g : zm_T} {r rb q : Nat} (h1 : q ≠ r) (h2 : q < rb ∨ rb + 6 ≤ q) : zv_g g r rb q = g q := by
  unfold zv_g
  rw [va_up_ne _ _ h1, va_up_ne _ _ (by omega), va_up_ne _ _ (by omega), va_up_ne _ _ (by omega), va_up_ne _ _ (by omega), va_up_ne _ _ (by omega), va_up_ne _ _ (by omega)]
/-- the skew of an object -/
def zs_sk (x : Int32) : Int32 := if x.toInt < 0 then 0 else if 100 < x.toInt then 100 else x
theorem zs_skc (x : Int32) : zs_mx 0 (zs_mi 100 x) = zs_sk x := by
  unfold zs_mx zs_mi zs_sk
  rw [show (100 : Int32).toInt = 100 from rfl, show (0 : Int32).toInt = 0 from rfl]
  by_cases h1 : x.toInt < 100
  · rw [if_pos h1]
    by_cases h2 : x.toInt < 0
    · rw [if_neg (by omega), if_pos h2]
    · rw [if_neg h2, if_neg (show ¬ 100 < x.toInt by omega)]
      by_cases h3 : 0 < x.toInt
      · rw [if_pos h3]
      · rw [if_neg h3]; exact zi_ext (by rw [show (0 : Int32).toInt = 0 from rfl]; omega)
  · rw [if_neg h1, if_pos (by decide), if_neg (by omega)]
    by_cases h2 : 100 < x.toInt
    · rw [if_pos h2]
    · rw [if_neg h2]; exact zi_ext (by rw [show (100 : Int32).toInt = 100 from rfl]; omega)
/-- the memory of a new object -/
def zs_u0 (sk : Int32) : zm_T := fun r i => if r = 0 ∧ i = 0 then sk else if (r = 5 ∧ i < 12) ∨ (r = 23 ∧ i < 12) ∨ (r = 3 ∧ i < 6) then -1 else 0
theorem zs_u0i (x : Int32) : zm_I (zs_u0 (zs_sk x)) := by
  have hs : 0 ≤ (zs_sk x).toInt ∧ (zs_sk x).toInt ≤ 100 := by
    unfold zs_sk
    by_cases h1 : x.toInt < 0
    · rw [if_pos h1]; decide
    · rw [if_neg h1]
      by_cases h2 : 100 < x.toInt
      · rw [if_pos h2]; decide
      · rw [if_neg h2]; omega
  have e0 : ∀ r i : Nat, ¬ (r = 0 ∧ i = 0) → ¬ ((r = 5 ∧ i < 12) ∨ (r = 23 ∧ i < 12) ∨ (r = 3 ∧ i < 6)) → (zs_u0 (zs_sk x) r i).toInt = 0 := fun r i h1 h2 => by unfold zs_u0; rw [if_neg h1, if_neg h2]; rfl
  have e1 : ∀ r i : Nat, (r = 5 ∧ i < 12) ∨ (r = 23 ∧ i < 12) ∨ (r = 3 ∧ i < 6) → (zs_u0 (zs_sk x) r i).toInt = -1 := fun r i h => by unfold zs_u0; rw [if_neg (by omega), if_pos h]; rfl
  have z2 := e0 0 2 (by omega) (by omega)
  have z8 := e0 0 8 (by omega) (by omega)
  have z28 := e0 0 28 (by omega) (by omega)
  refine ⟨hs, by omega, by omega, by omega, fun i hi => ?_, fun i hi => ?_, fun i hi => ?_, fun i hi => ?_, fun i hi => by omega, fun i hi => by omega, fun i hi => Or.inl (e0 4 i (by omega) (by omega))⟩
  · have := e1 5 i (by omega); omega
  · have := e1 3 i (by omega); omega
  · have := e1 23 i (by omega); omega
  · have := e0 21 i (by omega) (by omega); omega
theorem zc_us4 : va_up (va_up (va_up (va_up (fun _ => none) 0 (some 115)) 1 (some 116)) 2 (some 117)) 3 (some 118) = (fun i => if i < 4 then some (115 + i) else none : Nat → Option Nat) := by
  funext i
  by_cases h : i < 4
  · obtain rfl | rfl | rfl | rfl : i = 0 ∨ i = 1 ∨ i = 2 ∨ i = 3 := by omega
    all_goals rfl
  · rw [if_neg h, va_up_ne _ _ (by omega), va_up_ne _ _ (by omega), va_up_ne _ _ (by omega), va_up_ne _ _ (by omega)]

def zc_sh0 (sh : Nat → Option zw_Sh) : Nat → Option zw_Sh := va_up (va_up (va_up (va_up (va_up (va_up (va_up (va_up (va_up (va_up (va_up (va_up (va_up (va_up (va_up (va_up (va_up (va_up (va_up (va_up (va_up (va_up (va_up (va_up (va_up (va_up (va_up (va_up (va_up (va_up (va_up (va_up (va_up (va_up (va_up (va_up (va_up (va_up (zv_sh (va_up (va_up (va_up (va_up (va_up (va_up (va_up (zv_sh (va_up (va_up (va_up (va_up (va_up (va_up (va_up (va_up (va_up (sh) 101 (some (.inr (0, 6, none)))) 100 (some (.inl (8, [none, some (some 101), some none, some none, some none, some none, some none, some none, none, some none, none, none])))) 102 (some (.inr (0, 6, none)))) 100 (some (.inl (8, [none, some (some 101), some (some 102), some none, some none, some none, some none, some none, none, some none, none, none])))) 103 (some (.inl (0, [some none, some none, some none])))) 109 (some (.inr (0, 6, none)))) 103 (some (.inl (0, [some (some 109), some none, some none])))) 110 (some (.inr (0, 6, none)))) 103 (some (.inl (0, [some (some 109), some (some 110), some none])))) 111 121) 103 (some (.inl (0, [some (some 109), some (some 110), some (some 111)])))) 100 (some (.inl (8, [none, some (some 101), some (some 102), some (some 103), some none, some none, some none, some none, none, some none, none, none])))) 104 (some (.inl (0, [some none, some none, some none])))) 112 (some (.inr (0, 6, none)))) 104 (some (.inl (0, [some (some 112), some none, some none])))) 113 (some (.inr (0, 6, none)))) 104 (some (.inl (0, [some (some 112), some (some 113), some none])))) 114 127) 104 (some (.inl (0, [some (some 112), some (some 113), some (some 114)])))) 100 (some (.inl (8, [none, some (some 101), some (some 102), some (some 103), some (some 104), some none, some none, some none, none, some none, none, none])))) 105 (some (.inr (4, 4, some (fun _ => none))))) 100 (some (.inl (8, [none, some (some 101), some (some 102), some (some 103), some (some 104), some (some 105), some none, some none, none, some none, none, none])))) 106 (some (.inl (2, [some none, some none, none, none])))) 119 (some (.inr (0, 3, none)))) 106 (some (.inl (2, [some (some 119), some none, none, none])))) 120 (some (.inr (2, 12, some (fun _ => none))))) 106 (some (.inl (2, [some (some 119), some (some 120), none, none])))) 100 (some (.inl (8, [none, some (some 101), some (some 102), some (some 103), some (some 104), some (some 105), some (some 106), some none, none, some none, none, none])))) 107 (some (.inr (3, 150, some (fun _ => none))))) 100 (some (.inl (8, [none, some (some 101), some (some 102), some (some 103), some (some 104), some (some 105), some (some 106), some (some 107), none, some none, none, none])))) 108 (some (.inr (1, 200, none)))) 100 (some (.inl (8, [none, some (some 101), some (some 102), some (some 103), some (some 104), some (some 105), some (some 106), some (some 107), none, some (some 108), none, none])))) 115 (some (.inl (7, [none, none, none, none, some none, some none])))) 133 (some (.inr (0, 2, none)))) 115 (some (.inl (7, [none, none, none, none, some (some 133), some none])))) 134 (some (.inr (0, 2, none)))) 115 (some (.inl (7, [none, none, none, none, some (some 133), some (some 134)])))) 105 (some (.inr (4, 4, some (va_up (fun _ => none) 0 (some 115)))))) 116 (some (.inl (7, [none, none, none, none, some none, some none])))) 135 (some (.inr (0, 2, none)))) 116 (some (.inl (7, [none, none, none, none, some (some 135), some none])))) 136 (some (.inr (0, 2, none)))) 116 (some (.inl (7, [none, none, none, none, some (some 135), some (some 136)])))) 105 (some (.inr (4, 4, some (va_up (va_up (fun _ => none) 0 (some 115)) 1 (some 116)))))) 117 (some (.inl (7, [none, none, none, none, some none, some none])))) 137 (some (.inr (0, 2, none)))) 117 (some (.inl (7, [none, none, none, none, some (some 137), some none])))) 138 (some (.inr (0, 2, none)))) 117 (some (.inl (7, [none, none, none, none, some (some 137), some (some 138)])))) 105 (some (.inr (4, 4, some (va_up (va_up (va_up (fun _ => none) 0 (some 115)) 1 (some 116)) 2 (some 117)))))) 118 (some (.inl (7, [none, none, none, none, some none, some none])))) 139 (some (.inr (0, 2, none)))) 118 (some (.inl (7, [none, none, none, none, some (some 139), some none])))) 140 (some (.inr (0, 2, none)))) 118 (some (.inl (7, [none, none, none, none, some (some 139), some (some 140)])))) 105 (some (.inr (4, 4, some (va_up (va_up (va_up (va_up (fun _ => none) 0 (some 115)) 1 (some 116)) 2 (some 117)) 3 (some 118)))))
def zc_g0 (g : zm_T) (sk : Int32) : zm_T := zm_w (zm_w (zm_w (zm_w (va_up (va_up (zm_w (zm_w (zm_w (zm_w (va_up (zm_w (zm_w (zm_w (zm_w (va_up (va_up (zm_w (zm_w (zm_w (zm_w (va_up (zm_w (zm_w (zm_w (zm_w (va_up (va_up (zm_w (zm_w (zm_w (zm_w (va_up (zm_w (zm_w (zm_w (zm_w (va_up (va_up (zm_w (zm_w (zm_w (zm_w (va_up (zm_w (zm_w (zm_w (zm_w (zm_w (zm_w (zm_w (zm_w (zm_w (va_up (zm_w (va_up (zm_w (zm_w (va_up (va_up (va_up (va_up (zm_w (zm_w (zm_w (zm_w (zm_w (zm_w (zv_g (va_up (va_up (va_up (zm_w (zm_w (zm_w (zm_w (zm_w (zm_w (zv_g (va_up (va_up (va_up (va_up (va_up (g) 101 (fun _ => 0)) 102 (fun _ => 0)) 103 (fun _ => 0)) 109 (fun _ => 0)) 110 (fun _ => 0)) 111 121) 109 0 ((-1))) 109 1 ((-1))) 109 2 ((-1))) 109 3 ((-1))) 109 4 ((-1))) 109 5 ((-1))) 104 (fun _ => 0)) 112 (fun _ => 0)) 113 (fun _ => 0)) 114 127) 112 0 ((-1))) 112 1 ((-1))) 112 2 ((-1))) 112 3 ((-1))) 112 4 ((-1))) 112 5 ((-1))) 105 (fun _ => 0)) 106 (fun _ => 0)) 119 (fun _ => 0)) 120 (fun _ => 0)) 106 2 0) 106 3 0) 107 (fun _ => 0)) 100 8 0) 108 (fun _ => 0)) 100 10 0) 100 11 0) 100 0 (zs_sk sk)) 102 0 ((-1))) 102 1 ((-1))) 102 2 ((-1))) 102 3 ((-1))) 102 4 ((-1))) 102 5 ((-1))) 115 (fun _ => 0)) 115 0 0) 115 1 0) 115 2 ((-1))) 115 3 0) 133 (fun _ => 0)) 134 (fun _ => 0)) 133 0 ((-1))) 134 0 ((-1))) 133 1 ((-1))) 134 1 ((-1))) 116 (fun _ => 0)) 116 0 0) 116 1 0) 116 2 ((-1))) 116 3 0) 135 (fun _ => 0)) 136 (fun _ => 0)) 135 0 ((-1))) 136 0 ((-1))) 135 1 ((-1))) 136 1 ((-1))) 117 (fun _ => 0)) 117 0 0) 117 1 0) 117 2 ((-1))) 117 3 0) 137 (fun _ => 0)) 138 (fun _ => 0)) 137 0 ((-1))) 138 0 ((-1))) 137 1 ((-1))) 138 1 ((-1))) 118 (fun _ => 0)) 118 0 0) 118 1 0) 118 2 ((-1))) 118 3 0) 139 (fun _ => 0)) 140 (fun _ => 0)) 139 0 ((-1))) 140 0 ((-1))) 139 1 ((-1))) 140 1 ((-1))
theorem zc_sh0r {sh : Nat → Option zw_Sh} {r : Nat} (h : r < 100) : zc_sh0 sh r = sh r := by
  unfold zc_sh0
  rw [va_up_ne _ _ (by omega), va_up_ne _ _ (by omega), va_up_ne _ _ (by omega), va_up_ne _ _ (by omega), va_up_ne _ _ (by omega), va_up_ne _ _ (by omega), va_up_ne _ _ (by omega), va_up_ne _ _ (by omega), va_up_ne _ _ (by omega), va_up_ne _ _ (by omega), va_up_ne _ _ (by omega), va_up_ne _ _ (by omega), va_up_ne _ _ (by omega), va_up_ne _ _ (by omega), va_up_ne _ _ (by omega), va_up_ne _ _ (by omega), va_up_ne _ _ (by omega), va_up_ne _ _ (by omega), va_up_ne _ _ (by omega), va_up_ne _ _ (by omega), va_up_ne _ _ (by omega), va_up_ne _ _ (by omega), va_up_ne _ _ (by omega), va_up_ne _ _ (by omega), va_up_ne _ _ (by omega), va_up_ne _ _ (by omega), va_up_ne _ _ (by omega), va_up_ne _ _ (by omega), va_up_ne _ _ (by omega), va_up_ne _ _ (by omega), va_up_ne _ _ (by omega), va_up_ne _ _ (by omega), va_up_ne _ _ (by omega), va_up_ne _ _ (by omega), va_up_ne _ _ (by omega), va_up_ne _ _ (by omega), va_up_ne _ _ (by omega), va_up_ne _ _ (by omega), zv_shn (by omega) (by omega), va_up_ne _ _ (by omega), va_up_ne _ _ (by omega), va_up_ne _ _ (by omega), va_up_ne _ _ (by omega), va_up_ne _ _ (by omega), va_up_ne _ _ (by omega), va_up_ne _ _ (by omega), zv_shn (by omega) (by omega), va_up_ne _ _ (by omega), va_up_ne _ _ (by omega), va_up_ne _ _ (by omega), va_up_ne _ _ (by omega), va_up_ne _ _ (by omega), va_up_ne _ _ (by omega), va_up_ne _ _ (by omega), va_up_ne _ _ (by omega), va_up_ne _ _ (by omega)]
theorem zc_sh0f {sh : Nat → Option zw_Sh} {r : Nat} (h : 200 ≤ r) : zc_sh0 sh r = sh r := by
  unfold zc_sh0
  rw [va_up_ne _ _ (by omega), va_up_ne _ _ (by omega), va_up_ne _ _ (by omega), va_up_ne _ _ (by omega), va_up_ne _ _ (by omega), va_up_ne _ _ (by omega), va_up_ne _ _ (by omega), va_up_ne _ _ (by omega), va_up_ne _ _ (by omega), va_up_ne _ _ (by omega), va_up_ne _ _ (by omega), va_up_ne _ _ (by omega), va_up_ne _ _ (by omega), va_up_ne _ _ (by omega), va_up_ne _ _ (by omega), va_up_ne _ _ (by omega), va_up_ne _ _ (by omega), va_up_ne _ _ (by omega), va_up_ne _ _ (by omega), va_up_ne _ _ (by omega), va_up_ne _ _ (by omega), va_up_ne _ _ (by omega), va_up_ne _ _ (by omega), va_up_ne _ _ (by omega), va_up_ne _ _ (by omega), va_up_ne _ _ (by omega), va_up_ne _ _ (by omega), va_up_ne _ _ (by omega), va_up_ne _ _ (by omega), va_up_ne _ _ (by omega), va_up_ne _ _ (by omega), va_up_ne _ _ (by omega), va_up_ne _ _ (by omega), va_up_ne _ _ (by omega), va_up_ne _ _ (by omega), va_up_ne _ _ (by omega), va_up_ne _ _ (by omega), va_up_ne _ _ (by omega), zv_shn (by omega) (by omega), va_up_ne _ _ (by omega), va_up_ne _ _ (by omega), va_up_ne _ _ (by omega), va_up_ne _ _ (by omega), va_up_ne _ _ (by omega), va_up_ne _ _ (by omega), va_up_ne _ _ (by omega), zv_shn (by omega) (by omega), va_up_ne _ _ (by omega), va_up_ne _ _ (by omega), va_up_ne _ _ (by omega), va_up_ne _ _ (by omega), va_up_ne _ _ (by omega), va_up_ne _ _ (by omega), va_up_ne _ _ (by omega), va_up_ne _ _ (by omega), va_up_ne _ _ (by omega)]
theorem zc_g0r {g : zm_T} {sk : Int32} {r : Nat} (h : r < 100) : zc_g0 g sk r = g r := by
  unfold zc_g0
  rw [zm_wr (by omega), zm_wr (by omega), zm_wr (by omega), zm_wr (by omega), va_up_ne _ _ (by omega), va_up_ne _ _ (by omega), zm_wr (by omega), zm_wr (by omega), zm_wr (by omega), zm_wr (by omega), va_up_ne _ _ (by omega), zm_wr (by omega), zm_wr (by omega), zm_wr (by omega), zm_wr (by omega), va_up_ne _ _ (by omega), va_up_ne _ _ (by omega), zm_wr (by omega), zm_wr (by omega), zm_wr (by omega), zm_wr (by omega), va_up_ne _ _ (by omega), zm_wr (by omega), zm_wr (by omega), zm_wr (by omega), zm_wr (by omega), va_up_ne _ _ (by omega), va_up_ne _ _ (by omega), zm_wr (by omega), zm_wr (by omega), zm_wr (by omega), zm_wr (by omega), va_up_ne _ _ (by omega), zm_wr (by omega), zm_wr (by omega), zm_wr (by omega), zm_wr (by omega), va_up_ne _ _ (by omega), va_up_ne _ _ (by omega), zm_wr (by omega), zm_wr (by omega), zm_wr (by omega), zm_wr (by omega), va_up_ne _ _ (by omega), zm_wr (by omega), zm_wr (by omega), zm_wr (by omega), zm_wr (by omega), zm_wr (by omega), zm_wr (by omega), zm_wr (by omega), zm_wr (by omega), zm_wr (by omega), va_up_ne _ _ (by omega), zm_wr (by omega), va_up_ne _ _ (by omega), zm_wr (by omega), zm_wr (by omega), va_up_ne _ _ (by omega), va_up_ne _ _ (by omega), va_up_ne _ _ (by omega), va_up_ne _ _ (by omega), zm_wr (by omega), zm_wr (by omega), zm_wr (by omega), zm_wr (by omega), zm_wr (by omega), zm_wr (by omega), zv_gn (by omega) (by omega), va_up_ne _ _ (by omega), va_up_ne _ _ (by omega), va_up_ne _ _ (by omega), zm_wr (by omega), zm_wr (by omega), zm_wr (by omega), zm_wr (by omega), zm_wr (by omega), zm_wr (by omega), zv_gn (by omega) (by omega), va_up_ne _ _ (by omega), va_up_ne _ _ (by omega), va_up_ne _ _ (by omega), va_up_ne _ _ (by omega), va_up_ne _ _ (by omega)]
set_option maxRecDepth 100000 in
theorem zc_S0 (sh : Nat → Option zw_Sh) : zc_S (zc_sh0 sh) := by
  show ∀ q ∈ zc_shl, _
  unfold zc_shl
  exact List.forall_mem_cons.mpr ⟨rfl, List.forall_mem_cons.mpr ⟨rfl, List.forall_mem_cons.mpr ⟨rfl, List.forall_mem_cons.mpr ⟨rfl, List.forall_mem_cons.mpr ⟨rfl, List.forall_mem_cons.mpr ⟨congrArg (fun z => (some (Sum.inr (4, 4, some z)) : Option zw_Sh)) zc_us4, List.forall_mem_cons.mpr ⟨rfl, List.forall_mem_cons.mpr ⟨rfl, List.forall_mem_cons.mpr ⟨rfl, List.forall_mem_cons.mpr ⟨rfl, List.forall_mem_cons.mpr ⟨rfl, List.forall_mem_cons.mpr ⟨rfl, List.forall_mem_cons.mpr ⟨rfl, List.forall_mem_cons.mpr ⟨rfl, List.forall_mem_cons.mpr ⟨rfl, List.forall_mem_cons.mpr ⟨rfl, List.forall_mem_cons.mpr ⟨rfl, List.forall_mem_cons.mpr ⟨rfl, List.forall_mem_cons.mpr ⟨rfl, List.forall_mem_cons.mpr ⟨rfl, List.forall_mem_cons.mpr ⟨rfl, List.forall_mem_cons.mpr ⟨rfl, List.forall_mem_cons.mpr ⟨rfl, List.forall_mem_cons.mpr ⟨rfl, List.forall_mem_cons.mpr ⟨rfl, List.forall_mem_cons.mpr ⟨rfl, List.forall_mem_cons.mpr ⟨rfl, List.forall_mem_cons.mpr ⟨rfl, List.forall_mem_cons.mpr ⟨rfl, List.forall_mem_cons.mpr ⟨rfl, List.forall_mem_cons.mpr ⟨rfl, List.forall_mem_cons.mpr ⟨rfl, List.forall_mem_cons.mpr ⟨rfl, List.forall_mem_cons.mpr ⟨rfl, List.forall_mem_cons.mpr ⟨rfl, List.forall_mem_cons.mpr ⟨rfl, List.forall_mem_cons.mpr ⟨rfl, List.forall_mem_cons.mpr ⟨rfl, List.forall_mem_cons.mpr ⟨rfl, fun _ h => absurd h List.not_mem_nil⟩⟩⟩⟩⟩⟩⟩⟩⟩⟩⟩⟩⟩⟩⟩⟩⟩⟩⟩⟩⟩⟩⟩⟩⟩⟩⟩⟩⟩⟩⟩⟩⟩⟩⟩⟩⟩⟩⟩
set_option maxHeartbeats 4000000 in
set_option maxRecDepth 100000 in
theorem zc_N0 (g : zm_T) (sk : Int32) : zc_N (zc_g0 g sk) (zs_u0 (zs_sk sk)) := by
  intro r i m k hl
  unfold zc_lm at hl
  by_cases c0 : r = 100 ∧ i = 0
  · rw [if_pos c0] at hl; cases hl
    obtain ⟨rfl, rfl⟩ := c0; rfl
  rw [if_neg c0] at hl
  by_cases c1 : r = 100 ∧ i = 8
  · rw [if_pos c1] at hl; cases hl
    obtain ⟨rfl, rfl⟩ := c1; rfl
  rw [if_neg c1] at hl
  by_cases c2 : r = 100 ∧ i = 10
  · rw [if_pos c2] at hl; cases hl
    obtain ⟨rfl, rfl⟩ := c2; rfl
  rw [if_neg c2] at hl
  by_cases c3 : r = 100 ∧ i = 11
  · rw [if_pos c3] at hl; cases hl
    obtain ⟨rfl, rfl⟩ := c3; rfl
  rw [if_neg c3] at hl
  by_cases c4 : r = 101 ∧ i < 6
  · rw [if_pos c4] at hl; cases hl
    obtain ⟨rfl, hi⟩ := c4; rfl
  rw [if_neg c4] at hl
  by_cases c5 : r = 102 ∧ i < 6
  · rw [if_pos c5] at hl; cases hl
    obtain ⟨rfl, hi⟩ := c5
    obtain rfl | rfl | rfl | rfl | rfl | rfl : i = 0 ∨ i = 1 ∨ i = 2 ∨ i = 3 ∨ i = 4 ∨ i = 5 := by omega
    all_goals rfl
  rw [if_neg c5] at hl
  by_cases c6 : r = 108 ∧ i < 200
  · rw [if_pos c6] at hl; cases hl
    obtain ⟨rfl, hi⟩ := c6; rfl
  rw [if_neg c6] at hl
  by_cases c7 : r = 109 ∧ i < 6
  · rw [if_pos c7] at hl; cases hl
    obtain ⟨rfl, hi⟩ := c7
    obtain rfl | rfl | rfl | rfl | rfl | rfl : i = 0 ∨ i = 1 ∨ i = 2 ∨ i = 3 ∨ i = 4 ∨ i = 5 := by omega
    all_goals rfl
  rw [if_neg c7] at hl
  by_cases c8 : r = 110 ∧ i < 6
  · rw [if_pos c8] at hl; cases hl
    obtain ⟨rfl, hi⟩ := c8; rfl
  rw [if_neg c8] at hl
  by_cases c9 : r = 112 ∧ i < 6
  · rw [if_pos c9] at hl; cases hl
    obtain ⟨rfl, hi⟩ := c9
    obtain rfl | rfl | rfl | rfl | rfl | rfl : i = 0 ∨ i = 1 ∨ i = 2 ∨ i = 3 ∨ i = 4 ∨ i = 5 := by omega
    all_goals rfl
  rw [if_neg c9] at hl
  by_cases c10 : r = 113 ∧ i < 6
  · rw [if_pos c10] at hl; cases hl
    obtain ⟨rfl, hi⟩ := c10; rfl
  rw [if_neg c10] at hl
  by_cases c11 : 121 ≤ r ∧ r < 127 ∧ i < 3
  · rw [if_pos c11] at hl; cases hl
    obtain ⟨h1, h2, hi⟩ := c11
    obtain rfl | rfl | rfl | rfl | rfl | rfl : r = 121 ∨ r = 122 ∨ r = 123 ∨ r = 124 ∨ r = 125 ∨ r = 126 := by omega
    all_goals (rfl)
  rw [if_neg c11] at hl
  by_cases c12 : 127 ≤ r ∧ r < 133 ∧ i < 3
  · rw [if_pos c12] at hl; cases hl
    obtain ⟨h1, h2, hi⟩ := c12
    obtain rfl | rfl | rfl | rfl | rfl | rfl : r = 127 ∨ r = 128 ∨ r = 129 ∨ r = 130 ∨ r = 131 ∨ r = 132 := by omega
    all_goals (rfl)
  rw [if_neg c12] at hl
  by_cases c13 : r = 106 ∧ i = 2
  · rw [if_pos c13] at hl; cases hl
    obtain ⟨rfl, rfl⟩ := c13; rfl
  rw [if_neg c13] at hl
  by_cases c14 : r = 106 ∧ i = 3
  · rw [if_pos c14] at hl; cases hl
    obtain ⟨rfl, rfl⟩ := c14; rfl
  rw [if_neg c14] at hl
  by_cases c15 : r = 119 ∧ i < 3
  · rw [if_pos c15] at hl; cases hl
    obtain ⟨rfl, hi⟩ := c15; rfl
  rw [if_neg c15] at hl
  by_cases c16 : 115 ≤ r ∧ r < 119 ∧ i = 0
  · rw [if_pos c16] at hl; cases hl
    obtain ⟨h1, h2, hi⟩ := c16
    obtain rfl | rfl | rfl | rfl : r = 115 ∨ r = 116 ∨ r = 117 ∨ r = 118 := by omega
    all_goals (subst hi; rfl)
  rw [if_neg c16] at hl
  by_cases c17 : 115 ≤ r ∧ r < 119 ∧ i = 1
  · rw [if_pos c17] at hl; cases hl
    obtain ⟨h1, h2, hi⟩ := c17
    obtain rfl | rfl | rfl | rfl : r = 115 ∨ r = 116 ∨ r = 117 ∨ r = 118 := by omega
    all_goals (subst hi; rfl)
  rw [if_neg c17] at hl
  by_cases c18 : 115 ≤ r ∧ r < 119 ∧ i = 3
  · rw [if_pos c18] at hl; cases hl
    obtain ⟨h1, h2, hi⟩ := c18
    obtain rfl | rfl | rfl | rfl : r = 115 ∨ r = 116 ∨ r = 117 ∨ r = 118 := by omega
    all_goals (subst hi; rfl)
  rw [if_neg c18] at hl
  by_cases c19 : (r = 133 ∨ r = 135 ∨ r = 137 ∨ r = 139) ∧ i < 2
  · rw [if_pos c19] at hl; cases hl
    obtain ⟨h1, hi⟩ := c19
    obtain rfl | rfl : i = 0 ∨ i = 1 := by omega
    all_goals (rcases h1 with rfl | rfl | rfl | rfl <;> rfl)
  rw [if_neg c19] at hl
  cases hl
theorem zc_R0 (sh : Nat → Option zw_Sh) (g : zm_T) (hf : ∀ r : Nat, 100 < r → sh r = none) (sk : Int32) : zc_R (zc_sh0 sh) (zc_g0 g sk) (zs_u0 (zs_sk sk)) := by
  have hz : zn (zs_u0 (zs_sk sk) 0 8) = 0 := rfl
  have hz2 : zn (zs_u0 (zs_sk sk) 0 28) = 0 := rfl
  refine ⟨zc_S0 sh, zc_N0 g sk, fun j hj h => absurd ?_ h, fun j t hj ht h => absurd ?_ h, ?_, fun i hi => ?_, fun r hr => ?_, fun _ => none, rfl, fun j hj => ?_⟩
  · unfold zs_u0; rw [if_neg (by omega), if_neg (by omega)]; rfl
  · unfold zs_u0; rw [if_neg (by omega), if_pos (by omega)]; rfl
  · rw [hz]
    refine Eq.trans (b := some (.inr (3, 150, some (fun _ => none)))) rfl (congrArg (fun z => (some (Sum.inr (3, 150, some z)) : Option zw_Sh)) (funext fun i => ?_))
    unfold zc_sf
    rw [if_neg (Nat.not_lt_zero _)]
  · rw [hz] at hi; exact absurd hi (Nat.not_lt_zero _)
  · rw [hz] at hr
    rw [zc_sh0f (by omega)]
    exact hf r (by omega)
  · rw [hz2] at hj; exact absurd hj (Nat.not_lt_zero _)

set_option maxHeartbeats 16000000 in
set_option maxRecDepth 100000 in
theorem c_X9_init (l : Launch) (Y : zw_Y) (N0 : Nat) (ad : Nat → Nat) (sh : Nat → Option zw_Sh) (g : zm_T) (hr : sh 100 = some (.inl (8, [none, some none, some none, some none, some none, some none, some none, some none, none, some none, none, none]))) (hfree : ∀ r : Nat, 100 < r → sh r = none) (sk : Int32) : zw_Met l Y N0 yX9_init cX9_init 3 none 2 42 40 503 ad sh g [.ref (ad 100), .int sk] (fun v ad' sh' g' => v = none ∧ zc_R sh' g' (zs_u0 (zs_sk sk)) ∧ zc_fr ad sh g ad' sh' g') := by
  refine zw_meth (by decide) (Nat.le_of_ble_eq_true rfl) ?_
  intro p e s m below meth c ls X hnm hl hW
  have hl : lv_has ls 3 [(0, .ref (ad 100)), (1, .int sk)] := hl
  refine lv_aload_n X.1 X.2.1 dX9_init_0 rfl (lv_at hl 0 rfl) ?_
  refine zr_objI X hl.1 ms_X9_1 dX9_init_1 (Nat.le_of_ble_eq_true rfl) (Nat.le_of_ble_eq_true rfl) (Nat.le_of_ble_eq_true rfl) ?_
  refine lv_aload_n X.1 X.2.1 dX9_init_4 rfl (lv_at hl 0 rfl) ?_
  refine lv_bipush (v := 6) X.1 X.2.1 dX9_init_5 (by decide) ?_
  refine zr_newa (ti := 0) (N' := 6) (ty := .int) X hW (zt_in (zt_t1 42 rfl) rfl) rfl rfl rfl dX9_init_7 101 (hfree 101 (by omega)) (by decide) rfl (by decide) (Nat.le_of_ble_eq_true rfl) (Nat.le_of_ble_eq_true rfl) (fun ad_1 H had_1 hW => ?_)
  obtain ⟨g_2, hg_2⟩ : ∃ z : zm_T, z = va_up g 101 (fun _ => 0) := ⟨_, rfl⟩
  rw [← hg_2] at hW
  have ha_3 : ad_1 100 = ad 100 := had_1 100 (by omega)
  refine zr_putr (r := 100) (r2 := 101) (ss := [none, some none, some none, some none, some none, some none, some none, some none, none, some none, none, none]) X hW fs_X9_9_8 dX9_init_9 (Or.inr ⟨rfl, hnm⟩) hr ha_3 (by decide) (fun h9 => by cases h9) rfl (fun a => ⟨rfl, rfl⟩) (fun H locs hW => ?_)
  refine lv_aload_n X.1 X.2.1 dX9_init_12 rfl (lv_at hl 0 rfl) ?_
  refine lv_bipush (v := 6) X.1 X.2.1 dX9_init_13 (by decide) ?_
  refine zr_newa (ti := 0) (N' := 6) (ty := .int) X hW (zt_in (zt_t1 42 rfl) rfl) rfl rfl rfl dX9_init_15 102 (hfree 102 (by omega)) (by decide) rfl (by decide) (Nat.le_of_ble_eq_true rfl) (Nat.le_of_ble_eq_true rfl) (fun ad_4 H had_4 hW => ?_)
  obtain ⟨g_5, hg_5⟩ : ∃ z : zm_T, z = va_up g_2 102 (fun _ => 0) := ⟨_, rfl⟩
  rw [← hg_5] at hW
  have ha_6 : ad_4 100 = ad 100 := (had_4 100 (by omega)).trans ha_3
  refine zr_putr (r := 100) (r2 := 102) (ss := [none, some (some 101), some none, some none, some none, some none, some none, some none, none, some none, none, none]) X hW fs_X9_13_8 dX9_init_17 (Or.inr ⟨rfl, hnm⟩) rfl ha_6 (by decide) (fun h9 => by cases h9) rfl (fun a => ⟨rfl, rfl⟩) (fun H locs hW => ?_)
  refine lv_aload_n X.1 X.2.1 dX9_init_20 rfl (lv_at hl 0 rfl) ?_
  refine zr_new (ss := [some none, some none, some none]) X hW cs_X0 ns_X9_16 dX9_init_21 ds_X0 (by intro r h; simp at h) 103 (hfree 103 (by omega)) (Nat.le_of_ble_eq_true rfl) (Nat.le_of_ble_eq_true rfl) (fun ad_7 H had_7 hW => ?_)
  obtain ⟨g_8, hg_8⟩ : ∃ z : zm_T, z = va_up g_5 103 (fun _ => 0) := ⟨_, rfl⟩
  rw [← hg_8] at hW
  have ha_9 : ad_7 100 = ad 100 := (had_7 100 (by omega)).trans ha_6
  refine lv_dup X.1 X.2.1 dX9_init_24 rfl ?_
  refine zr_callI (As := []) (rest := [.ref (ad_7 103), .ref (ad 100)]) (b := ad_7 103) X hW hl.1 md_X0_init ms_X9_18 rfl dX9_init_25 rfl rfl (Nat.le_of_ble_eq_true rfl) ⟨Nat.le_of_ble_eq_true rfl, Nat.le_of_ble_eq_true rfl⟩ ⟨Nat.le_of_ble_eq_true rfl, Nat.le_of_ble_eq_true rfl⟩ (c_X0_init_b l Y N0 ad_7 _ g_8 rfl (fun r h => by rw [va_up_ne _ _ (by omega), va_up_ne _ _ (by omega), va_up_ne _ _ (by omega), va_up_ne _ _ (by omega), va_up_ne _ _ (by omega)]; exact hfree r (by omega))) (fun v9 ad9 sh9 g9 H locs hp hW => ?_)
  obtain ⟨rfl, had9, rfl, hg9⟩ := hp
  obtain ⟨ad_10, rfl⟩ : ∃ z : Nat → Nat, z = ad9 := ⟨_, rfl⟩
  obtain ⟨g_11, rfl⟩ : ∃ z : zm_T, z = g9 := ⟨_, rfl⟩
  have had_10 := had9
  have hg_11 := hg9
  have ha_12 : ad_10 100 = ad 100 := (had_10 100 (by omega)).trans ha_9
  refine zr_putr (r := 100) (r2 := 103) (ss := [none, some (some 101), some (some 102), some none, some none, some none, some none, some none, none, some none, none, none]) X hW fs_X9_19_8 dX9_init_28 (Or.inr ⟨rfl, hnm⟩) rfl ha_12 (by decide) (fun h9 => by cases h9) (had_10 103 (by omega)) (fun a => ⟨rfl, rfl⟩) (fun H locs hW => ?_)
  refine lv_aload_n X.1 X.2.1 dX9_init_31 rfl (lv_at hl 0 rfl) ?_
  refine zr_new (ss := [some none, some none, some none]) X hW cs_X0 ns_X9_16 dX9_init_32 ds_X0 (by intro r h; simp at h) 104 (hfree 104 (by omega)) (Nat.le_of_ble_eq_true rfl) (Nat.le_of_ble_eq_true rfl) (fun ad_13 H had_13 hW => ?_)
  obtain ⟨g_14, hg_14⟩ : ∃ z : zm_T, z = va_up g_11 104 (fun _ => 0) := ⟨_, rfl⟩
  rw [← hg_14] at hW
  have ha_15 : ad_13 100 = ad 100 := (had_13 100 (by omega)).trans ha_12
  refine lv_dup X.1 X.2.1 dX9_init_35 rfl ?_
  refine zr_callI (As := []) (rest := [.ref (ad_13 104), .ref (ad 100)]) (b := ad_13 104) X hW hl.1 md_X0_init ms_X9_18 rfl dX9_init_36 rfl rfl (Nat.le_of_ble_eq_true rfl) ⟨Nat.le_of_ble_eq_true rfl, Nat.le_of_ble_eq_true rfl⟩ ⟨Nat.le_of_ble_eq_true rfl, Nat.le_of_ble_eq_true rfl⟩ (c_X0_init_s l Y N0 ad_13 _ g_14 rfl (fun r h => by rw [va_up_ne _ _ (by omega), va_up_ne _ _ (by omega), va_up_ne _ _ (by omega), zv_shn (by omega) (by omega), va_up_ne _ _ (by omega), va_up_ne _ _ (by omega), va_up_ne _ _ (by omega), va_up_ne _ _ (by omega), va_up_ne _ _ (by omega), va_up_ne _ _ (by omega), va_up_ne _ _ (by omega), va_up_ne _ _ (by omega), va_up_ne _ _ (by omega)]; exact hfree r (by omega))) (fun v9 ad9 sh9 g9 H locs hp hW => ?_)
  obtain ⟨rfl, had9, rfl, hg9⟩ := hp
  obtain ⟨ad_16, rfl⟩ : ∃ z : Nat → Nat, z = ad9 := ⟨_, rfl⟩
  obtain ⟨g_17, rfl⟩ : ∃ z : zm_T, z = g9 := ⟨_, rfl⟩
  have had_16 := had9
  have hg_17 := hg9
  have ha_18 : ad_16 100 = ad 100 := (had_16 100 (by omega)).trans ha_15
  refine zr_putr (r := 100) (r2 := 104) (ss := [none, some (some 101), some (some 102), some (some 103), some none, some none, some none, some none, none, some none, none, none]) X hW fs_X9_23_8 dX9_init_39 (Or.inr ⟨rfl, hnm⟩) rfl ha_18 (by decide) (fun h9 => by cases h9) (had_16 104 (by omega)) (fun a => ⟨rfl, rfl⟩) (fun H locs hW => ?_)
  refine lv_aload_n X.1 X.2.1 dX9_init_42 rfl (lv_at hl 0 rfl) ?_
  refine lv_iconst (v := 4) X.1 X.2.1 dX9_init_43 (by decide) ?_
  refine zr_newq (ti := 4) (N' := 4) X hW kl_X9_26 (by decide) rfl dX9_init_44 105 (hfree 105 (by omega)) (by decide) rfl (by decide) (Nat.le_of_ble_eq_true rfl) (Nat.le_of_ble_eq_true rfl) (fun ad_19 H had_19 hW => ?_)
  obtain ⟨g_20, hg_20⟩ : ∃ z : zm_T, z = va_up g_17 105 (fun _ => 0) := ⟨_, rfl⟩
  rw [← hg_20] at hW
  have ha_21 : ad_19 100 = ad 100 := (had_19 100 (by omega)).trans ha_18
  refine zr_putr (r := 100) (r2 := 105) (ss := [none, some (some 101), some (some 102), some (some 103), some (some 104), some none, some none, some none, none, some none, none, none]) X hW fs_X9_28_8 dX9_init_47 (Or.inr ⟨rfl, hnm⟩) rfl ha_21 (by decide) (fun h9 => by cases h9) rfl (fun a => ⟨rfl, rfl⟩) (fun H locs hW => ?_)
  refine lv_aload_n X.1 X.2.1 dX9_init_50 rfl (lv_at hl 0 rfl) ?_
  refine zr_new (ss := [some none, some none, none, none]) X hW cs_X2 ns_X9_32 dX9_init_51 ds_X2 (by intro r h; simp at h) 106 (hfree 106 (by omega)) (Nat.le_of_ble_eq_true rfl) (Nat.le_of_ble_eq_true rfl) (fun ad_22 H had_22 hW => ?_)
  obtain ⟨g_23, hg_23⟩ : ∃ z : zm_T, z = va_up g_20 106 (fun _ => 0) := ⟨_, rfl⟩
  rw [← hg_23] at hW
  have ha_24 : ad_22 100 = ad 100 := (had_22 100 (by omega)).trans ha_21
  refine lv_dup X.1 X.2.1 dX9_init_54 rfl ?_
  refine zr_callIN (As := []) (rest := [.ref (ad_22 106), .ref (ad 100)]) (b := ad_22 106) X hW hl.1 md_X2_init ms_X9_34 rfl dX9_init_55 rfl rfl (Nat.le_of_ble_eq_true rfl) ⟨Nat.le_of_ble_eq_true rfl, Nat.le_of_ble_eq_true rfl⟩ ⟨Nat.le_of_ble_eq_true rfl, Nat.le_of_ble_eq_true rfl⟩ (c_X2_init_0 l Y N0 ad_22 _ g_23 rfl (fun r h => by rw [va_up_ne _ _ (by omega), va_up_ne _ _ (by omega), va_up_ne _ _ (by omega), va_up_ne _ _ (by omega), va_up_ne _ _ (by omega), zv_shn (by omega) (by omega), va_up_ne _ _ (by omega), va_up_ne _ _ (by omega), va_up_ne _ _ (by omega), va_up_ne _ _ (by omega), va_up_ne _ _ (by omega), va_up_ne _ _ (by omega), va_up_ne _ _ (by omega), zv_shn (by omega) (by omega), va_up_ne _ _ (by omega), va_up_ne _ _ (by omega), va_up_ne _ _ (by omega), va_up_ne _ _ (by omega), va_up_ne _ _ (by omega), va_up_ne _ _ (by omega), va_up_ne _ _ (by omega), va_up_ne _ _ (by omega), va_up_ne _ _ (by omega)]; exact hfree r (by omega))) (fun v9 ad9 sh9 g9 H locs hp hW => ?_)
  obtain ⟨rfl, had9, rfl, hg9⟩ := hp
  obtain ⟨ad_25, rfl⟩ : ∃ z : Nat → Nat, z = ad9 := ⟨_, rfl⟩
  obtain ⟨g_26, rfl⟩ : ∃ z : zm_T, z = g9 := ⟨_, rfl⟩
  have had_25 := had9
  have hg_26 := hg9
  have ha_27 : ad_25 100 = ad 100 := (had_25 100 (by omega)).trans ha_24
  refine zr_putr (r := 100) (r2 := 106) (ss := [none, some (some 101), some (some 102), some (some 103), some (some 104), some (some 105), some none, some none, none, some none, none, none]) X hW fs_X9_35_8 dX9_init_58 (Or.inr ⟨rfl, hnm⟩) rfl ha_27 (by decide) (fun h9 => by cases h9) (had_25 106 (by omega)) (fun a => ⟨rfl, rfl⟩) (fun H locs hW => ?_)
  refine lv_aload_n X.1 X.2.1 dX9_init_61 rfl (lv_at hl 0 rfl) ?_
  refine lv_sipush (v := 150) X.1 X.2.1 dX9_init_62 (by decide) ?_
  refine zr_newq (ti := 3) (N' := 150) X hW kl_X9_39 (by decide) rfl dX9_init_65 107 (hfree 107 (by omega)) (by decide) rfl (by decide) (Nat.le_of_ble_eq_true rfl) (Nat.le_of_ble_eq_true rfl) (fun ad_28 H had_28 hW => ?_)
  obtain ⟨g_29, hg_29⟩ : ∃ z : zm_T, z = va_up g_26 107 (fun _ => 0) := ⟨_, rfl⟩
  rw [← hg_29] at hW
  have ha_30 : ad_28 100 = ad 100 := (had_28 100 (by omega)).trans ha_27
  refine zr_putr (r := 100) (r2 := 107) (ss := [none, some (some 101), some (some 102), some (some 103), some (some 104), some (some 105), some (some 106), some none, none, some none, none, none]) X hW fs_X9_41_8 dX9_init_68 (Or.inr ⟨rfl, hnm⟩) rfl ha_30 (by decide) (fun h9 => by cases h9) rfl (fun a => ⟨rfl, rfl⟩) (fun H locs hW => ?_)
  refine lv_aload_n X.1 X.2.1 dX9_init_71 rfl (lv_at hl 0 rfl) ?_
  refine lv_iconst (v := 0) X.1 X.2.1 dX9_init_72 (by decide) ?_
  refine zr_puti (r := 100) (ss := [none, some (some 101), some (some 102), some (some 103), some (some 104), some (some 105), some (some 106), some (some 107), none, some none, none, none]) X hW fs_X9_45_8 dX9_init_73 rfl ha_30 rfl rfl rfl (fun H locs hW => ?_)
  obtain ⟨g_31, hg_31⟩ : ∃ z : zm_T, z = zm_w g_29 100 8 0 := ⟨_, rfl⟩
  change zw_St Y N0 _ _ (zm_w g_29 100 8 0) s H locs at hW
  rw [← hg_31] at hW
  refine lv_aload_n X.1 X.2.1 dX9_init_76 rfl (lv_at hl 0 rfl) ?_
  refine lv_sipush (v := 200) X.1 X.2.1 dX9_init_77 (by decide) ?_
  refine zr_newa (ti := 1) (N' := 200) (ty := .boolean) X hW (zt_in (zt_t1 106 rfl) rfl) rfl rfl rfl dX9_init_80 108 (hfree 108 (by omega)) (by decide) rfl (by decide) (Nat.le_of_ble_eq_true rfl) (Nat.le_of_ble_eq_true rfl) (fun ad_32 H had_32 hW => ?_)
  obtain ⟨g_33, hg_33⟩ : ∃ z : zm_T, z = va_up g_31 108 (fun _ => 0) := ⟨_, rfl⟩
  rw [← hg_33] at hW
  have ha_34 : ad_32 100 = ad 100 := (had_32 100 (by omega)).trans ha_30
  refine zr_putr (r := 100) (r2 := 108) (ss := [none, some (some 101), some (some 102), some (some 103), some (some 104), some (some 105), some (some 106), some (some 107), none, some none, none, none]) X hW fs_X9_49_8 dX9_init_82 (Or.inr ⟨rfl, hnm⟩) rfl ha_34 (by decide) (fun h9 => by cases h9) rfl (fun a => ⟨rfl, rfl⟩) (fun H locs hW => ?_)
  refine lv_aload_n X.1 X.2.1 dX9_init_85 rfl (lv_at hl 0 rfl) ?_
  refine lv_iconst (v := 0) X.1 X.2.1 dX9_init_86 (by decide) ?_
  refine zr_puti (r := 100) (ss := [none, some (some 101), some (some 102), some (some 103), some (some 104), some (some 105), some (some 106), some (some 107), none, some (some 108), none, none]) X hW fs_X9_53_8 dX9_init_87 rfl ha_34 rfl rfl rfl (fun H locs hW => ?_)
  obtain ⟨g_35, hg_35⟩ : ∃ z : zm_T, z = zm_w g_33 100 10 0 := ⟨_, rfl⟩
  change zw_St Y N0 _ _ (zm_w g_33 100 10 0) s H locs at hW
  rw [← hg_35] at hW
  refine lv_aload_n X.1 X.2.1 dX9_init_90 rfl (lv_at hl 0 rfl) ?_
  refine lv_iconst (v := 0) X.1 X.2.1 dX9_init_91 (by decide) ?_
  refine zr_puti (r := 100) (ss := [none, some (some 101), some (some 102), some (some 103), some (some 104), some (some 105), some (some 106), some (some 107), none, some (some 108), none, none]) X hW fs_X9_56_8 dX9_init_92 rfl ha_34 rfl rfl rfl (fun H locs hW => ?_)
  obtain ⟨g_36, hg_36⟩ : ∃ z : zm_T, z = zm_w g_35 100 11 0 := ⟨_, rfl⟩
  change zw_St Y N0 _ _ (zm_w g_35 100 11 0) s H locs at hW
  rw [← hg_36] at hW
  refine lv_aload_n X.1 X.2.1 dX9_init_95 rfl (lv_at hl 0 rfl) ?_
  refine lv_iconst (v := 0) X.1 X.2.1 dX9_init_96 (by decide) ?_
  refine lv_bipush (v := 100) X.1 X.2.1 dX9_init_97 (by decide) ?_
  refine lv_iload_n X.1 X.2.1 dX9_init_99 rfl (lv_at hl 1 rfl) ?_
  refine zr_min X hl.1 (zt_in (zt_t1 71 rfl) rfl) dX9_init_100 (Nat.le_of_ble_eq_true rfl) (Nat.le_of_ble_eq_true rfl) (Nat.le_of_ble_eq_true rfl) (Nat.le_of_ble_eq_true rfl) (Nat.le_of_ble_eq_true rfl) ?_
  refine zr_max X hl.1 (zt_in (zt_t1 74 rfl) rfl) dX9_init_103 (Nat.le_of_ble_eq_true rfl) (Nat.le_of_ble_eq_true rfl) (Nat.le_of_ble_eq_true rfl) (Nat.le_of_ble_eq_true rfl) (Nat.le_of_ble_eq_true rfl) ?_
  refine zr_putF (r := 100) (ss := [none, some (some 101), some (some 102), some (some 103), some (some 104), some (some 105), some (some 106), some (some 107), none, some (some 108), none, none]) X hW fs_X9_68_8 dX9_init_106 hnm rfl ha_34 rfl rfl rfl (fun H locs hW => ?_)
  obtain ⟨g_37, hg_37⟩ : ∃ z : zm_T, z = zm_w g_36 100 0 (zs_mx 0 (zs_mi 100 sk)) := ⟨_, rfl⟩
  change zw_St Y N0 _ _ (zm_w g_36 100 0 (zs_mx 0 (zs_mi 100 sk))) s H locs at hW
  rw [← hg_37] at hW
  refine lv_iconst (v := 0) X.1 X.2.1 dX9_init_109 (by decide) ?_
  refine lv_istore_n (lv' := [(2, .int 0), (0, .ref (ad 100)), (1, .int sk)]) X.1 X.2.1 dX9_init_110 rfl hl (by decide) rfl (fun ls hl => ?_)
  refine lv_iload_n X.1 X.2.1 dX9_init_111 rfl (lv_at hl 0 rfl) ?_
  refine lv_bipush (v := 6) X.1 X.2.1 dX9_init_112 (by decide) ?_
  refine zr_icmp_ge (a := 0) (b := 6) (tgt := 130) X dX9_init_114 (by decide) (by decide) (by decide) (fun c9 => absurd c9 (by decide)) (fun _ => ?_)
  refine lv_aload_n X.1 X.2.1 dX9_init_117 rfl (lv_at hl 1 rfl) ?_
  refine zr_get (r := 100) (ss := [none, some (some 101), some (some 102), some (some 103), some (some 104), some (some 105), some (some 106), some (some 107), none, some (some 108), none, none]) (v := .ref (ad_32 102)) X hW fs_X9_13_8 dX9_init_118 rfl ha_34 rfl rfl ?_
  refine lv_iload_n X.1 X.2.1 dX9_init_121 rfl (lv_at hl 0 rfl) ?_
  refine lv_iconst (v := (-1)) X.1 X.2.1 dX9_init_122 (by decide) ?_
  refine zr_iast (r := 102) X hW dX9_init_123 rfl rfl rfl (zi_vp (by decide)) (fun H locs hW => ?_)
  obtain ⟨g_38, hg_38⟩ : ∃ z : zm_T, z = zm_w g_37 102 0 ((-1)) := ⟨_, rfl⟩
  change zw_St Y N0 _ _ (zm_w g_37 102 0 ((-1))) s H locs at hW
  rw [← hg_38] at hW
  refine lv_iinc (v := 1) (lv' := [(2, .int 1), (0, .ref (ad 100)), (1, .int sk)]) X.1 X.2.1 dX9_init_124 hl (k := 0) rfl (by decide) (by decide) rfl (fun ls hl => ?_)
  refine lv_goto (tgt := 111) X.1 X.2.1 dX9_init_127 (by decide) ?_
  refine lv_iload_n X.1 X.2.1 dX9_init_111 rfl (lv_at hl 0 rfl) ?_
  refine lv_bipush (v := 6) X.1 X.2.1 dX9_init_112 (by decide) ?_
  refine zr_icmp_ge (a := 1) (b := 6) (tgt := 130) X dX9_init_114 (by decide) (by decide) (by decide) (fun c9 => absurd c9 (by decide)) (fun _ => ?_)
  refine lv_aload_n X.1 X.2.1 dX9_init_117 rfl (lv_at hl 1 rfl) ?_
  refine zr_get (r := 100) (ss := [none, some (some 101), some (some 102), some (some 103), some (some 104), some (some 105), some (some 106), some (some 107), none, some (some 108), none, none]) (v := .ref (ad_32 102)) X hW fs_X9_13_8 dX9_init_118 rfl ha_34 rfl rfl ?_
  refine lv_iload_n X.1 X.2.1 dX9_init_121 rfl (lv_at hl 0 rfl) ?_
  refine lv_iconst (v := (-1)) X.1 X.2.1 dX9_init_122 (by decide) ?_
  refine zr_iast (r := 102) X hW dX9_init_123 rfl rfl rfl (zi_vp (by decide)) (fun H locs hW => ?_)
  obtain ⟨g_39, hg_39⟩ : ∃ z : zm_T, z = zm_w g_38 102 1 ((-1)) := ⟨_, rfl⟩
  change zw_St Y N0 _ _ (zm_w g_38 102 1 ((-1))) s H locs at hW
  rw [← hg_39] at hW
  refine lv_iinc (v := 2) (lv' := [(2, .int 2), (0, .ref (ad 100)), (1, .int sk)]) X.1 X.2.1 dX9_init_124 hl (k := 0) rfl (by decide) (by decide) rfl (fun ls hl => ?_)
  refine lv_goto (tgt := 111) X.1 X.2.1 dX9_init_127 (by decide) ?_
  refine lv_iload_n X.1 X.2.1 dX9_init_111 rfl (lv_at hl 0 rfl) ?_
  refine lv_bipush (v := 6) X.1 X.2.1 dX9_init_112 (by decide) ?_
  refine zr_icmp_ge (a := 2) (b := 6) (tgt := 130) X dX9_init_114 (by decide) (by decide) (by decide) (fun c9 => absurd c9 (by decide)) (fun _ => ?_)
  refine lv_aload_n X.1 X.2.1 dX9_init_117 rfl (lv_at hl 1 rfl) ?_
  refine zr_get (r := 100) (ss := [none, some (some 101), some (some 102), some (some 103), some (some 104), some (some 105), some (some 106), some (some 107), none, some (some 108), none, none]) (v := .ref (ad_32 102)) X hW fs_X9_13_8 dX9_init_118 rfl ha_34 rfl rfl ?_
  refine lv_iload_n X.1 X.2.1 dX9_init_121 rfl (lv_at hl 0 rfl) ?_
  refine lv_iconst (v := (-1)) X.1 X.2.1 dX9_init_122 (by decide) ?_
  refine zr_iast (r := 102) X hW dX9_init_123 rfl rfl rfl (zi_vp (by decide)) (fun H locs hW => ?_)
  obtain ⟨g_40, hg_40⟩ : ∃ z : zm_T, z = zm_w g_39 102 2 ((-1)) := ⟨_, rfl⟩
  change zw_St Y N0 _ _ (zm_w g_39 102 2 ((-1))) s H locs at hW
  rw [← hg_40] at hW
  refine lv_iinc (v := 3) (lv' := [(2, .int 3), (0, .ref (ad 100)), (1, .int sk)]) X.1 X.2.1 dX9_init_124 hl (k := 0) rfl (by decide) (by decide) rfl (fun ls hl => ?_)
  refine lv_goto (tgt := 111) X.1 X.2.1 dX9_init_127 (by decide) ?_
  refine lv_iload_n X.1 X.2.1 dX9_init_111 rfl (lv_at hl 0 rfl) ?_
  refine lv_bipush (v := 6) X.1 X.2.1 dX9_init_112 (by decide) ?_
  refine zr_icmp_ge (a := 3) (b := 6) (tgt := 130) X dX9_init_114 (by decide) (by decide) (by decide) (fun c9 => absurd c9 (by decide)) (fun _ => ?_)
  refine lv_aload_n X.1 X.2.1 dX9_init_117 rfl (lv_at hl 1 rfl) ?_
  refine zr_get (r := 100) (ss := [none, some (some 101), some (some 102), some (some 103), some (some 104), some (some 105), some (some 106), some (some 107), none, some (some 108), none, none]) (v := .ref (ad_32 102)) X hW fs_X9_13_8 dX9_init_118 rfl ha_34 rfl rfl ?_
  refine lv_iload_n X.1 X.2.1 dX9_init_121 rfl (lv_at hl 0 rfl) ?_
  refine lv_iconst (v := (-1)) X.1 X.2.1 dX9_init_122 (by decide) ?_
  refine zr_iast (r := 102) X hW dX9_init_123 rfl rfl rfl (zi_vp (by decide)) (fun H locs hW => ?_)
  obtain ⟨g_41, hg_41⟩ : ∃ z : zm_T, z = zm_w g_40 102 3 ((-1)) := ⟨_, rfl⟩
  change zw_St Y N0 _ _ (zm_w g_40 102 3 ((-1))) s H locs at hW
  rw [← hg_41] at hW
  refine lv_iinc (v := 4) (lv' := [(2, .int 4), (0, .ref (ad 100)), (1, .int sk)]) X.1 X.2.1 dX9_init_124 hl (k := 0) rfl (by decide) (by decide) rfl (fun ls hl => ?_)
  refine lv_goto (tgt := 111) X.1 X.2.1 dX9_init_127 (by decide) ?_
  refine lv_iload_n X.1 X.2.1 dX9_init_111 rfl (lv_at hl 0 rfl) ?_
  refine lv_bipush (v := 6) X.1 X.2.1 dX9_init_112 (by decide) ?_
  refine zr_icmp_ge (a := 4) (b := 6) (tgt := 130) X dX9_init_114 (by decide) (by decide) (by decide) (fun c9 => absurd c9 (by decide)) (fun _ => ?_)
  refine lv_aload_n X.1 X.2.1 dX9_init_117 rfl (lv_at hl 1 rfl) ?_
  refine zr_get (r := 100) (ss := [none, some (some 101), some (some 102), some (some 103), some (some 104), some (some 105), some (some 106), some (some 107), none, some (some 108), none, none]) (v := .ref (ad_32 102)) X hW fs_X9_13_8 dX9_init_118 rfl ha_34 rfl rfl ?_
  refine lv_iload_n X.1 X.2.1 dX9_init_121 rfl (lv_at hl 0 rfl) ?_
  refine lv_iconst (v := (-1)) X.1 X.2.1 dX9_init_122 (by decide) ?_
  refine zr_iast (r := 102) X hW dX9_init_123 rfl rfl rfl (zi_vp (by decide)) (fun H locs hW => ?_)
  obtain ⟨g_42, hg_42⟩ : ∃ z : zm_T, z = zm_w g_41 102 4 ((-1)) := ⟨_, rfl⟩
  change zw_St Y N0 _ _ (zm_w g_41 102 4 ((-1))) s H locs at hW
  rw [← hg_42] at hW
  refine lv_iinc (v := 5) (lv' := [(2, .int 5), (0, .ref (ad 100)), (1, .int sk)]) X.1 X.2.1 dX9_init_124 hl (k := 0) rfl (by decide) (by decide) rfl (fun ls hl => ?_)
  refine lv_goto (tgt := 111) X.1 X.2.1 dX9_init_127 (by decide) ?_
  refine lv_iload_n X.1 X.2.1 dX9_init_111 rfl (lv_at hl 0 rfl) ?_
  refine lv_bipush (v := 6) X.1 X.2.1 dX9_init_112 (by decide) ?_
  refine zr_icmp_ge (a := 5) (b := 6) (tgt := 130) X dX9_init_114 (by decide) (by decide) (by decide) (fun c9 => absurd c9 (by decide)) (fun _ => ?_)
  refine lv_aload_n X.1 X.2.1 dX9_init_117 rfl (lv_at hl 1 rfl) ?_
  refine zr_get (r := 100) (ss := [none, some (some 101), some (some 102), some (some 103), some (some 104), some (some 105), some (some 106), some (some 107), none, some (some 108), none, none]) (v := .ref (ad_32 102)) X hW fs_X9_13_8 dX9_init_118 rfl ha_34 rfl rfl ?_
  refine lv_iload_n X.1 X.2.1 dX9_init_121 rfl (lv_at hl 0 rfl) ?_
  refine lv_iconst (v := (-1)) X.1 X.2.1 dX9_init_122 (by decide) ?_
  refine zr_iast (r := 102) X hW dX9_init_123 rfl rfl rfl (zi_vp (by decide)) (fun H locs hW => ?_)
  obtain ⟨g_43, hg_43⟩ : ∃ z : zm_T, z = zm_w g_42 102 5 ((-1)) := ⟨_, rfl⟩
  change zw_St Y N0 _ _ (zm_w g_42 102 5 ((-1))) s H locs at hW
  rw [← hg_43] at hW
  refine lv_iinc (v := 6) (lv' := [(2, .int 6), (0, .ref (ad 100)), (1, .int sk)]) X.1 X.2.1 dX9_init_124 hl (k := 0) rfl (by decide) (by decide) rfl (fun ls hl => ?_)
  refine lv_goto (tgt := 111) X.1 X.2.1 dX9_init_127 (by decide) ?_
  refine lv_iload_n X.1 X.2.1 dX9_init_111 rfl (lv_at hl 0 rfl) ?_
  refine lv_bipush (v := 6) X.1 X.2.1 dX9_init_112 (by decide) ?_
  refine zr_icmp_ge (a := 6) (b := 6) (tgt := 130) X dX9_init_114 (by decide) (by decide) (by decide) (fun _ => ?_) (fun c9 => absurd c9 (by decide))
  refine lv_iconst (v := 0) X.1 X.2.1 dX9_init_130 (by decide) ?_
  refine lv_istore_n (lv' := [(2, .int 0), (0, .ref (ad 100)), (1, .int sk)]) X.1 X.2.1 dX9_init_131 rfl hl (by decide) rfl (fun ls hl => ?_)
  refine lv_iload_n X.1 X.2.1 dX9_init_132 rfl (lv_at hl 0 rfl) ?_
  refine lv_aload_n X.1 X.2.1 dX9_init_133 rfl (lv_at hl 1 rfl) ?_
  refine zr_get (r := 100) (ss := [none, some (some 101), some (some 102), some (some 103), some (some 104), some (some 105), some (some 106), some (some 107), none, some (some 108), none, none]) (v := .ref (ad_32 105)) X hW fs_X9_28_8 dX9_init_134 rfl ha_34 rfl rfl ?_
  refine zr_alen (r := 105) (v := 4) X hW dX9_init_137 rfl rfl rfl rfl ?_
  refine zr_icmp_ge (a := 0) (b := 4) (tgt := 160) X dX9_init_138 (by decide) (by decide) (by decide) (fun c9 => absurd c9 (by decide)) (fun _ => ?_)
  refine lv_aload_n X.1 X.2.1 dX9_init_141 rfl (lv_at hl 1 rfl) ?_
  refine zr_get (r := 100) (ss := [none, some (some 101), some (some 102), some (some 103), some (some 104), some (some 105), some (some 106), some (some 107), none, some (some 108), none, none]) (v := .ref (ad_32 105)) X hW fs_X9_28_8 dX9_init_142 rfl ha_34 rfl rfl ?_
  refine lv_iload_n X.1 X.2.1 dX9_init_145 rfl (lv_at hl 0 rfl) ?_
  refine zr_new (ss := [none, none, none, none, some none, some none]) X hW cs_X8 ns_X9_26 dX9_init_146 ds_X8 (by intro r h; simp at h) 115 (hfree 115 (by omega)) (Nat.le_of_ble_eq_true rfl) (Nat.le_of_ble_eq_true rfl) (fun ad_44 H had_44 hW => ?_)
  obtain ⟨g_45, hg_45⟩ : ∃ z : zm_T, z = va_up g_43 115 (fun _ => 0) := ⟨_, rfl⟩
  rw [← hg_45] at hW
  have ha_46 : ad_44 100 = ad 100 := (had_44 100 (by omega)).trans ha_34
  refine lv_dup X.1 X.2.1 dX9_init_149 rfl ?_
  refine zr_callI (As := []) (rest := [.ref (ad_44 115), .int 0, .ref (ad_32 105)]) (b := ad_44 115) X hW hl.1 md_X8_init ms_X9_71 rfl dX9_init_150 rfl rfl (Nat.le_of_ble_eq_true rfl) ⟨Nat.le_of_ble_eq_true rfl, Nat.le_of_ble_eq_true rfl⟩ ⟨Nat.le_of_ble_eq_true rfl, Nat.le_of_ble_eq_true rfl⟩ (c_X8_init_0 l Y N0 ad_44 _ g_45 rfl (fun r h => by rw [va_up_ne _ _ (by omega), va_up_ne _ _ (by omega), va_up_ne _ _ (by omega), va_up_ne _ _ (by omega), va_up_ne _ _ (by omega), va_up_ne _ _ (by omega), va_up_ne _ _ (by omega), va_up_ne _ _ (by omega), va_up_ne _ _ (by omega), va_up_ne _ _ (by omega), va_up_ne _ _ (by omega), va_up_ne _ _ (by omega), va_up_ne _ _ (by omega), va_up_ne _ _ (by omega), va_up_ne _ _ (by omega), zv_shn (by omega) (by omega), va_up_ne _ _ (by omega), va_up_ne _ _ (by omega), va_up_ne _ _ (by omega), va_up_ne _ _ (by omega), va_up_ne _ _ (by omega), va_up_ne _ _ (by omega), va_up_ne _ _ (by omega), zv_shn (by omega) (by omega), va_up_ne _ _ (by omega), va_up_ne _ _ (by omega), va_up_ne _ _ (by omega), va_up_ne _ _ (by omega), va_up_ne _ _ (by omega), va_up_ne _ _ (by omega), va_up_ne _ _ (by omega), va_up_ne _ _ (by omega), va_up_ne _ _ (by omega)]; exact hfree r (by omega))) (fun v9 ad9 sh9 g9 H locs hp hW => ?_)
  obtain ⟨rfl, had9, rfl, hg9⟩ := hp
  obtain ⟨ad_47, rfl⟩ : ∃ z : Nat → Nat, z = ad9 := ⟨_, rfl⟩
  obtain ⟨g_48, rfl⟩ : ∃ z : zm_T, z = g9 := ⟨_, rfl⟩
  have had_47 := had9
  have hg_48 := hg9
  have ha_49 : ad_47 100 = ad 100 := (had_47 100 (by omega)).trans ha_46
  refine zr_aast (r := 105) (r2 := 115) X hW dX9_init_153 rfl ((had_47 105 (by omega)).trans (had_44 105 (by omega))) rfl rfl (had_47 115 (by omega)) rfl (Or.inl rfl) (zi_vp (by decide)) (fun H locs hW => ?_)
  refine lv_iinc (v := 1) (lv' := [(2, .int 1), (0, .ref (ad 100)), (1, .int sk)]) X.1 X.2.1 dX9_init_154 hl (k := 0) rfl (by decide) (by decide) rfl (fun ls hl => ?_)
  refine lv_goto (tgt := 132) X.1 X.2.1 dX9_init_157 (by decide) ?_
  refine lv_iload_n X.1 X.2.1 dX9_init_132 rfl (lv_at hl 0 rfl) ?_
  refine lv_aload_n X.1 X.2.1 dX9_init_133 rfl (lv_at hl 1 rfl) ?_
  refine zr_get (r := 100) (ss := [none, some (some 101), some (some 102), some (some 103), some (some 104), some (some 105), some (some 106), some (some 107), none, some (some 108), none, none]) (v := .ref (ad_47 105)) X hW fs_X9_28_8 dX9_init_134 rfl ha_49 rfl rfl ?_
  refine zr_alen (r := 105) (v := 4) X hW dX9_init_137 rfl rfl rfl rfl ?_
  refine zr_icmp_ge (a := 1) (b := 4) (tgt := 160) X dX9_init_138 (by decide) (by decide) (by decide) (fun c9 => absurd c9 (by decide)) (fun _ => ?_)
  refine lv_aload_n X.1 X.2.1 dX9_init_141 rfl (lv_at hl 1 rfl) ?_
  refine zr_get (r := 100) (ss := [none, some (some 101), some (some 102), some (some 103), some (some 104), some (some 105), some (some 106), some (some 107), none, some (some 108), none, none]) (v := .ref (ad_47 105)) X hW fs_X9_28_8 dX9_init_142 rfl ha_49 rfl rfl ?_
  refine lv_iload_n X.1 X.2.1 dX9_init_145 rfl (lv_at hl 0 rfl) ?_
  refine zr_new (ss := [none, none, none, none, some none, some none]) X hW cs_X8 ns_X9_26 dX9_init_146 ds_X8 (by intro r h; simp at h) 116 (hfree 116 (by omega)) (Nat.le_of_ble_eq_true rfl) (Nat.le_of_ble_eq_true rfl) (fun ad_50 H had_50 hW => ?_)
  obtain ⟨g_51, hg_51⟩ : ∃ z : zm_T, z = va_up g_48 116 (fun _ => 0) := ⟨_, rfl⟩
  rw [← hg_51] at hW
  have ha_52 : ad_50 100 = ad 100 := (had_50 100 (by omega)).trans ha_49
  refine lv_dup X.1 X.2.1 dX9_init_149 rfl ?_
  refine zr_callI (As := []) (rest := [.ref (ad_50 116), .int 1, .ref (ad_47 105)]) (b := ad_50 116) X hW hl.1 md_X8_init ms_X9_71 rfl dX9_init_150 rfl rfl (Nat.le_of_ble_eq_true rfl) ⟨Nat.le_of_ble_eq_true rfl, Nat.le_of_ble_eq_true rfl⟩ ⟨Nat.le_of_ble_eq_true rfl, Nat.le_of_ble_eq_true rfl⟩ (c_X8_init_1 l Y N0 ad_50 _ g_51 rfl (fun r h => by rw [va_up_ne _ _ (by omega), va_up_ne _ _ (by omega), va_up_ne _ _ (by omega), va_up_ne _ _ (by omega), va_up_ne _ _ (by omega), va_up_ne _ _ (by omega), va_up_ne _ _ (by omega), va_up_ne _ _ (by omega), va_up_ne _ _ (by omega), va_up_ne _ _ (by omega), va_up_ne _ _ (by omega), va_up_ne _ _ (by omega), va_up_ne _ _ (by omega), va_up_ne _ _ (by omega), va_up_ne _ _ (by omega), va_up_ne _ _ (by omega), va_up_ne _ _ (by omega), va_up_ne _ _ (by omega), va_up_ne _ _ (by omega), va_up_ne _ _ (by omega), va_up_ne _ _ (by omega), zv_shn (by omega) (by omega), va_up_ne _ _ (by omega), va_up_ne _ _ (by omega), va_up_ne _ _ (by omega), va_up_ne _ _ (by omega), va_up_ne _ _ (by omega), va_up_ne _ _ (by omega), va_up_ne _ _ (by omega), zv_shn (by omega) (by omega), va_up_ne _ _ (by omega), va_up_ne _ _ (by omega), va_up_ne _ _ (by omega), va_up_ne _ _ (by omega), va_up_ne _ _ (by omega), va_up_ne _ _ (by omega), va_up_ne _ _ (by omega), va_up_ne _ _ (by omega), va_up_ne _ _ (by omega)]; exact hfree r (by omega))) (fun v9 ad9 sh9 g9 H locs hp hW => ?_)
  obtain ⟨rfl, had9, rfl, hg9⟩ := hp
  obtain ⟨ad_53, rfl⟩ : ∃ z : Nat → Nat, z = ad9 := ⟨_, rfl⟩
  obtain ⟨g_54, rfl⟩ : ∃ z : zm_T, z = g9 := ⟨_, rfl⟩
  have had_53 := had9
  have hg_54 := hg9
  have ha_55 : ad_53 100 = ad 100 := (had_53 100 (by omega)).trans ha_52
  refine zr_aast (r := 105) (r2 := 116) X hW dX9_init_153 rfl ((had_53 105 (by omega)).trans (had_50 105 (by omega))) rfl rfl (had_53 116 (by omega)) rfl (Or.inl rfl) (zi_vp (by decide)) (fun H locs hW => ?_)
  refine lv_iinc (v := 2) (lv' := [(2, .int 2), (0, .ref (ad 100)), (1, .int sk)]) X.1 X.2.1 dX9_init_154 hl (k := 0) rfl (by decide) (by decide) rfl (fun ls hl => ?_)
  refine lv_goto (tgt := 132) X.1 X.2.1 dX9_init_157 (by decide) ?_
  refine lv_iload_n X.1 X.2.1 dX9_init_132 rfl (lv_at hl 0 rfl) ?_
  refine lv_aload_n X.1 X.2.1 dX9_init_133 rfl (lv_at hl 1 rfl) ?_
  refine zr_get (r := 100) (ss := [none, some (some 101), some (some 102), some (some 103), some (some 104), some (some 105), some (some 106), some (some 107), none, some (some 108), none, none]) (v := .ref (ad_53 105)) X hW fs_X9_28_8 dX9_init_134 rfl ha_55 rfl rfl ?_
  refine zr_alen (r := 105) (v := 4) X hW dX9_init_137 rfl rfl rfl rfl ?_
  refine zr_icmp_ge (a := 2) (b := 4) (tgt := 160) X dX9_init_138 (by decide) (by decide) (by decide) (fun c9 => absurd c9 (by decide)) (fun _ => ?_)
  refine lv_aload_n X.1 X.2.1 dX9_init_141 rfl (lv_at hl 1 rfl) ?_
  refine zr_get (r := 100) (ss := [none, some (some 101), some (some 102), some (some 103), some (some 104), some (some 105), some (some 106), some (some 107), none, some (some 108), none, none]) (v := .ref (ad_53 105)) X hW fs_X9_28_8 dX9_init_142 rfl ha_55 rfl rfl ?_
  refine lv_iload_n X.1 X.2.1 dX9_init_145 rfl (lv_at hl 0 rfl) ?_
  refine zr_new (ss := [none, none, none, none, some none, some none]) X hW cs_X8 ns_X9_26 dX9_init_146 ds_X8 (by intro r h; simp at h) 117 (hfree 117 (by omega)) (Nat.le_of_ble_eq_true rfl) (Nat.le_of_ble_eq_true rfl) (fun ad_56 H had_56 hW => ?_)
  obtain ⟨g_57, hg_57⟩ : ∃ z : zm_T, z = va_up g_54 117 (fun _ => 0) := ⟨_, rfl⟩
  rw [← hg_57] at hW
  have ha_58 : ad_56 100 = ad 100 := (had_56 100 (by omega)).trans ha_55
  refine lv_dup X.1 X.2.1 dX9_init_149 rfl ?_
  refine zr_callI (As := []) (rest := [.ref (ad_56 117), .int 2, .ref (ad_53 105)]) (b := ad_56 117) X hW hl.1 md_X8_init ms_X9_71 rfl dX9_init_150 rfl rfl (Nat.le_of_ble_eq_true rfl) ⟨Nat.le_of_ble_eq_true rfl, Nat.le_of_ble_eq_true rfl⟩ ⟨Nat.le_of_ble_eq_true rfl, Nat.le_of_ble_eq_true rfl⟩ (c_X8_init_2 l Y N0 ad_56 _ g_57 rfl (fun r h => by rw [va_up_ne _ _ (by omega), va_up_ne _ _ (by omega), va_up_ne _ _ (by omega), va_up_ne _ _ (by omega), va_up_ne _ _ (by omega), va_up_ne _ _ (by omega), va_up_ne _ _ (by omega), va_up_ne _ _ (by omega), va_up_ne _ _ (by omega), va_up_ne _ _ (by omega), va_up_ne _ _ (by omega), va_up_ne _ _ (by omega), va_up_ne _ _ (by omega), va_up_ne _ _ (by omega), va_up_ne _ _ (by omega), va_up_ne _ _ (by omega), va_up_ne _ _ (by omega), va_up_ne _ _ (by omega), va_up_ne _ _ (by omega), va_up_ne _ _ (by omega), va_up_ne _ _ (by omega), va_up_ne _ _ (by omega), va_up_ne _ _ (by omega), va_up_ne _ _ (by omega), va_up_ne _ _ (by omega), va_up_ne _ _ (by omega), va_up_ne _ _ (by omega), zv_shn (by omega) (by omega), va_up_ne _ _ (by omega), va_up_ne _ _ (by omega), va_up_ne _ _ (by omega), va_up_ne _ _ (by omega), va_up_ne _ _ (by omega), va_up_ne _ _ (by omega), va_up_ne _ _ (by omega), zv_shn (by omega) (by omega), va_up_ne _ _ (by omega), va_up_ne _ _ (by omega), va_up_ne _ _ (by omega), va_up_ne _ _ (by omega), va_up_ne _ _ (by omega), va_up_ne _ _ (by omega), va_up_ne _ _ (by omega), va_up_ne _ _ (by omega), va_up_ne _ _ (by omega)]; exact hfree r (by omega))) (fun v9 ad9 sh9 g9 H locs hp hW => ?_)
  obtain ⟨rfl, had9, rfl, hg9⟩ := hp
  obtain ⟨ad_59, rfl⟩ : ∃ z : Nat → Nat, z = ad9 := ⟨_, rfl⟩
  obtain ⟨g_60, rfl⟩ : ∃ z : zm_T, z = g9 := ⟨_, rfl⟩
  have had_59 := had9
  have hg_60 := hg9
  have ha_61 : ad_59 100 = ad 100 := (had_59 100 (by omega)).trans ha_58
  refine zr_aast (r := 105) (r2 := 117) X hW dX9_init_153 rfl ((had_59 105 (by omega)).trans (had_56 105 (by omega))) rfl rfl (had_59 117 (by omega)) rfl (Or.inl rfl) (zi_vp (by decide)) (fun H locs hW => ?_)
  refine lv_iinc (v := 3) (lv' := [(2, .int 3), (0, .ref (ad 100)), (1, .int sk)]) X.1 X.2.1 dX9_init_154 hl (k := 0) rfl (by decide) (by decide) rfl (fun ls hl => ?_)
  refine lv_goto (tgt := 132) X.1 X.2.1 dX9_init_157 (by decide) ?_
  refine lv_iload_n X.1 X.2.1 dX9_init_132 rfl (lv_at hl 0 rfl) ?_
  refine lv_aload_n X.1 X.2.1 dX9_init_133 rfl (lv_at hl 1 rfl) ?_
  refine zr_get (r := 100) (ss := [none, some (some 101), some (some 102), some (some 103), some (some 104), some (some 105), some (some 106), some (some 107), none, some (some 108), none, none]) (v := .ref (ad_59 105)) X hW fs_X9_28_8 dX9_init_134 rfl ha_61 rfl rfl ?_
  refine zr_alen (r := 105) (v := 4) X hW dX9_init_137 rfl rfl rfl rfl ?_
  refine zr_icmp_ge (a := 3) (b := 4) (tgt := 160) X dX9_init_138 (by decide) (by decide) (by decide) (fun c9 => absurd c9 (by decide)) (fun _ => ?_)
  refine lv_aload_n X.1 X.2.1 dX9_init_141 rfl (lv_at hl 1 rfl) ?_
  refine zr_get (r := 100) (ss := [none, some (some 101), some (some 102), some (some 103), some (some 104), some (some 105), some (some 106), some (some 107), none, some (some 108), none, none]) (v := .ref (ad_59 105)) X hW fs_X9_28_8 dX9_init_142 rfl ha_61 rfl rfl ?_
  refine lv_iload_n X.1 X.2.1 dX9_init_145 rfl (lv_at hl 0 rfl) ?_
  refine zr_new (ss := [none, none, none, none, some none, some none]) X hW cs_X8 ns_X9_26 dX9_init_146 ds_X8 (by intro r h; simp at h) 118 (hfree 118 (by omega)) (Nat.le_of_ble_eq_true rfl) (Nat.le_of_ble_eq_true rfl) (fun ad_62 H had_62 hW => ?_)
  obtain ⟨g_63, hg_63⟩ : ∃ z : zm_T, z = va_up g_60 118 (fun _ => 0) := ⟨_, rfl⟩
  rw [← hg_63] at hW
  have ha_64 : ad_62 100 = ad 100 := (had_62 100 (by omega)).trans ha_61
  refine lv_dup X.1 X.2.1 dX9_init_149 rfl ?_
  refine zr_callI (As := []) (rest := [.ref (ad_62 118), .int 3, .ref (ad_59 105)]) (b := ad_62 118) X hW hl.1 md_X8_init ms_X9_71 rfl dX9_init_150 rfl rfl (Nat.le_of_ble_eq_true rfl) ⟨Nat.le_of_ble_eq_true rfl, Nat.le_of_ble_eq_true rfl⟩ ⟨Nat.le_of_ble_eq_true rfl, Nat.le_of_ble_eq_true rfl⟩ (c_X8_init_3 l Y N0 ad_62 _ g_63 rfl (fun r h => by rw [va_up_ne _ _ (by omega), va_up_ne _ _ (by omega), va_up_ne _ _ (by omega), va_up_ne _ _ (by omega), va_up_ne _ _ (by omega), va_up_ne _ _ (by omega), va_up_ne _ _ (by omega), va_up_ne _ _ (by omega), va_up_ne _ _ (by omega), va_up_ne _ _ (by omega), va_up_ne _ _ (by omega), va_up_ne _ _ (by omega), va_up_ne _ _ (by omega), va_up_ne _ _ (by omega), va_up_ne _ _ (by omega), va_up_ne _ _ (by omega), va_up_ne _ _ (by omega), va_up_ne _ _ (by omega), va_up_ne _ _ (by omega), va_up_ne _ _ (by omega), va_up_ne _ _ (by omega), va_up_ne _ _ (by omega), va_up_ne _ _ (by omega), va_up_ne _ _ (by omega), va_up_ne _ _ (by omega), va_up_ne _ _ (by omega), va_up_ne _ _ (by omega), va_up_ne _ _ (by omega), va_up_ne _ _ (by omega), va_up_ne _ _ (by omega), va_up_ne _ _ (by omega), va_up_ne _ _ (by omega), va_up_ne _ _ (by omega), zv_shn (by omega) (by omega), va_up_ne _ _ (by omega), va_up_ne _ _ (by omega), va_up_ne _ _ (by omega), va_up_ne _ _ (by omega), va_up_ne _ _ (by omega), va_up_ne _ _ (by omega), va_up_ne _ _ (by omega), zv_shn (by omega) (by omega), va_up_ne _ _ (by omega), va_up_ne _ _ (by omega), va_up_ne _ _ (by omega), va_up_ne _ _ (by omega), va_up_ne _ _ (by omega), va_up_ne _ _ (by omega), va_up_ne _ _ (by omega), va_up_ne _ _ (by omega), va_up_ne _ _ (by omega)]; exact hfree r (by omega))) (fun v9 ad9 sh9 g9 H locs hp hW => ?_)
  obtain ⟨rfl, had9, rfl, hg9⟩ := hp
  obtain ⟨ad_65, rfl⟩ : ∃ z : Nat → Nat, z = ad9 := ⟨_, rfl⟩
  obtain ⟨g_66, rfl⟩ : ∃ z : zm_T, z = g9 := ⟨_, rfl⟩
  have had_65 := had9
  have hg_66 := hg9
  have ha_67 : ad_65 100 = ad 100 := (had_65 100 (by omega)).trans ha_64
  refine zr_aast (r := 105) (r2 := 118) X hW dX9_init_153 rfl ((had_65 105 (by omega)).trans (had_62 105 (by omega))) rfl rfl (had_65 118 (by omega)) rfl (Or.inl rfl) (zi_vp (by decide)) (fun H locs hW => ?_)
  refine lv_iinc (v := 4) (lv' := [(2, .int 4), (0, .ref (ad 100)), (1, .int sk)]) X.1 X.2.1 dX9_init_154 hl (k := 0) rfl (by decide) (by decide) rfl (fun ls hl => ?_)
  refine lv_goto (tgt := 132) X.1 X.2.1 dX9_init_157 (by decide) ?_
  refine lv_iload_n X.1 X.2.1 dX9_init_132 rfl (lv_at hl 0 rfl) ?_
  refine lv_aload_n X.1 X.2.1 dX9_init_133 rfl (lv_at hl 1 rfl) ?_
  refine zr_get (r := 100) (ss := [none, some (some 101), some (some 102), some (some 103), some (some 104), some (some 105), some (some 106), some (some 107), none, some (some 108), none, none]) (v := .ref (ad_65 105)) X hW fs_X9_28_8 dX9_init_134 rfl ha_67 rfl rfl ?_
  refine zr_alen (r := 105) (v := 4) X hW dX9_init_137 rfl rfl rfl rfl ?_
  refine zr_icmp_ge (a := 4) (b := 4) (tgt := 160) X dX9_init_138 (by decide) (by decide) (by decide) (fun _ => ?_) (fun c9 => absurd c9 (by decide))
  have eg : g_66 = zc_g0 g sk := by rw [hg_66, hg_63, hg_60, hg_57, hg_54, hg_51, hg_48, hg_45, hg_43, hg_42, hg_41, hg_40, hg_39, hg_38, hg_37, hg_36, hg_35, hg_33, hg_31, hg_29, hg_26, hg_23, hg_20, hg_17, hg_14, hg_11, hg_8, hg_5, hg_2, zs_skc]; rfl
  rw [eg] at hW
  exact zr_vret X hW dX9_init_160 (Nat.le_of_ble_eq_true rfl) (Nat.le_of_ble_eq_true rfl) ⟨rfl, zc_R0 sh g hfree sk, fun r h => ((had_65 r (by omega)).trans ((had_62 r (by omega)).trans ((had_59 r (by omega)).trans ((had_56 r (by omega)).trans ((had_53 r (by omega)).trans ((had_50 r (by omega)).trans ((had_47 r (by omega)).trans ((had_44 r (by omega)).trans ((had_32 r (by omega)).trans ((had_28 r (by omega)).trans ((had_25 r (by omega)).trans ((had_22 r (by omega)).trans ((had_19 r (by omega)).trans ((had_16 r (by omega)).trans ((had_13 r (by omega)).trans ((had_10 r (by omega)).trans ((had_7 r (by omega)).trans ((had_4 r (by omega)).trans (had_1 r (by omega)))))))))))))))))))), fun r hr => ⟨zc_sh0r hr, zc_g0r hr⟩⟩

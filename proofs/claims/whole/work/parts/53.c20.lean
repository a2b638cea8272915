def zm_sh0 (sh : Nat → Option zw_Sh) : Nat → Option zw_Sh := va_up (va_up (va_up (va_up (va_up (va_up (va_up (va_up (va_up (va_up (va_up (va_up (va_up (va_up (va_up (va_up (va_up (va_up (va_up (va_up (va_up (va_up (va_up (va_up (va_up (va_up (va_up (va_up (va_up (va_up (va_up (va_up (va_up (va_up (va_up (va_up (va_up (va_up (va_up (va_up (va_up (va_up (va_up (va_up (va_up (va_up (va_up (va_up (sh) 1 (some (.inr (0, 6, none)))) 0 (some (.inl (9, [none, some (some 1), none, some none, some none, some none, some none, some none, none, some none, some none, some none, some none, some none, some none, some none, some none, some none, some none, none, some none, some none, some none, some none, some none, some none, some none, none, none, some none])))) 3 (some (.inr (0, 6, none)))) 0 (some (.inl (9, [none, some (some 1), none, some (some 3), some none, some none, some none, some none, none, some none, some none, some none, some none, some none, some none, some none, some none, some none, some none, none, some none, some none, some none, some none, some none, some none, some none, none, none, some none])))) 4 (some (.inr (1, 200, none)))) 0 (some (.inl (9, [none, some (some 1), none, some (some 3), some (some 4), some none, some none, some none, none, some none, some none, some none, some none, some none, some none, some none, some none, some none, some none, none, some none, some none, some none, some none, some none, some none, some none, none, none, some none])))) 5 (some (.inr (0, 12, none)))) 0 (some (.inl (9, [none, some (some 1), none, some (some 3), some (some 4), some (some 5), some none, some none, none, some none, some none, some none, some none, some none, some none, some none, some none, some none, some none, none, some none, some none, some none, some none, some none, some none, some none, none, none, some none])))) 6 (some (.inr (0, 12, none)))) 0 (some (.inl (9, [none, some (some 1), none, some (some 3), some (some 4), some (some 5), some (some 6), some none, none, some none, some none, some none, some none, some none, some none, some none, some none, some none, some none, none, some none, some none, some none, some none, some none, some none, some none, none, none, some none])))) 7 (some (.inr (0, 36, none)))) 0 (some (.inl (9, [none, some (some 1), none, some (some 3), some (some 4), some (some 5), some (some 6), some (some 7), none, some none, some none, some none, some none, some none, some none, some none, some none, some none, some none, none, some none, some none, some none, some none, some none, some none, some none, none, none, some none])))) 9 (some (.inr (0, 150, none)))) 0 (some (.inl (9, [none, some (some 1), none, some (some 3), some (some 4), some (some 5), some (some 6), some (some 7), none, some (some 9), some none, some none, some none, some none, some none, some none, some none, some none, some none, none, some none, some none, some none, some none, some none, some none, some none, none, none, some none])))) 10 (some (.inr (0, 150, none)))) 0 (some (.inl (9, [none, some (some 1), none, some (some 3), some (some 4), some (some 5), some (some 6), some (some 7), none, some (some 9), some (some 10), some none, some none, some none, some none, some none, some none, some none, some none, none, some none, some none, some none, some none, some none, some none, some none, none, none, some none])))) 11 (some (.inr (0, 150, none)))) 0 (some (.inl (9, [none, some (some 1), none, some (some 3), some (some 4), some (some 5), some (some 6), some (some 7), none, some (some 9), some (some 10), some (some 11), some none, some none, some none, some none, some none, some none, some none, none, some none, some none, some none, some none, some none, some none, some none, none, none, some none])))) 12 (some (.inr (0, 150, none)))) 0 (some (.inl (9, [none, some (some 1), none, some (some 3), some (some 4), some (some 5), some (some 6), some (some 7), none, some (some 9), some (some 10), some (some 11), some (some 12), some none, some none, some none, some none, some none, some none, none, some none, some none, some none, some none, some none, some none, some none, none, none, some none])))) 13 (some (.inr (0, 150, none)))) 0 (some (.inl (9, [none, some (some 1), none, some (some 3), some (some 4), some (some 5), some (some 6), some (some 7), none, some (some 9), some (some 10), some (some 11), some (some 12), some (some 13), some none, some none, some none, some none, some none, none, some none, some none, some none, some none, some none, some none, some none, none, none, some none])))) 14 (some (.inr (0, 150, none)))) 0 (some (.inl (9, [none, some (some 1), none, some (some 3), some (some 4), some (some 5), some (some 6), some (some 7), none, some (some 9), some (some 10), some (some 11), some (some 12), some (some 13), some (some 14), some none, some none, some none, some none, none, some none, some none, some none, some none, some none, some none, some none, none, none, some none])))) 15 (some (.inr (0, 150, none)))) 0 (some (.inl (9, [none, some (some 1), none, some (some 3), some (some 4), some (some 5), some (some 6), some (some 7), none, some (some 9), some (some 10), some (some 11), some (some 12), some (some 13), some (some 14), some (some 15), some none, some none, some none, none, some none, some none, some none, some none, some none, some none, some none, none, none, some none])))) 16 (some (.inr (0, 150, none)))) 0 (some (.inl (9, [none, some (some 1), none, some (some 3), some (some 4), some (some 5), some (some 6), some (some 7), none, some (some 9), some (some 10), some (some 11), some (some 12), some (some 13), some (some 14), some (some 15), some (some 16), some none, some none, none, some none, some none, some none, some none, some none, some none, some none, none, none, some none])))) 17 (some (.inr (0, 150, none)))) 0 (some (.inl (9, [none, some (some 1), none, some (some 3), some (some 4), some (some 5), some (some 6), some (some 7), none, some (some 9), some (some 10), some (some 11), some (some 12), some (some 13), some (some 14), some (some 15), some (some 16), some (some 17), some none, none, some none, some none, some none, some none, some none, some none, some none, none, none, some none])))) 18 (some (.inr (0, 150, none)))) 0 (some (.inl (9, [none, some (some 1), none, some (some 3), some (some 4), some (some 5), some (some 6), some (some 7), none, some (some 9), some (some 10), some (some 11), some (some 12), some (some 13), some (some 14), some (some 15), some (some 16), some (some 17), some (some 18), none, some none, some none, some none, some none, some none, some none, some none, none, none, some none])))) 20 (some (.inr (0, 6, none)))) 0 (some (.inl (9, [none, some (some 1), none, some (some 3), some (some 4), some (some 5), some (some 6), some (some 7), none, some (some 9), some (some 10), some (some 11), some (some 12), some (some 13), some (some 14), some (some 15), some (some 16), some (some 17), some (some 18), none, some (some 20), some none, some none, some none, some none, some none, some none, none, none, some none])))) 21 (some (.inr (0, 6, none)))) 0 (some (.inl (9, [none, some (some 1), none, some (some 3), some (some 4), some (some 5), some (some 6), some (some 7), none, some (some 9), some (some 10), some (some 11), some (some 12), some (some 13), some (some 14), some (some 15), some (some 16), some (some 17), some (some 18), none, some (some 20), some (some 21), some none, some none, some none, some none, some none, none, none, some none])))) 22 (some (.inr (0, 6, none)))) 0 (some (.inl (9, [none, some (some 1), none, some (some 3), some (some 4), some (some 5), some (some 6), some (some 7), none, some (some 9), some (some 10), some (some 11), some (some 12), some (some 13), some (some 14), some (some 15), some (some 16), some (some 17), some (some 18), none, some (some 20), some (some 21), some (some 22), some none, some none, some none, some none, none, none, some none])))) 23 (some (.inr (0, 12, none)))) 0 (some (.inl (9, [none, some (some 1), none, some (some 3), some (some 4), some (some 5), some (some 6), some (some 7), none, some (some 9), some (some 10), some (some 11), some (some 12), some (some 13), some (some 14), some (some 15), some (some 16), some (some 17), some (some 18), none, some (some 20), some (some 21), some (some 22), some (some 23), some none, some none, some none, none, none, some none])))) 24 (some (.inr (0, 12, none)))) 0 (some (.inl (9, [none, some (some 1), none, some (some 3), some (some 4), some (some 5), some (some 6), some (some 7), none, some (some 9), some (some 10), some (some 11), some (some 12), some (some 13), some (some 14), some (some 15), some (some 16), some (some 17), some (some 18), none, some (some 20), some (some 21), some (some 22), some (some 23), some (some 24), some none, some none, none, none, some none])))) 25 (some (.inr (0, 6, none)))) 0 (some (.inl (9, [none, some (some 1), none, some (some 3), some (some 4), some (some 5), some (some 6), some (some 7), none, some (some 9), some (some 10), some (some 11), some (some 12), some (some 13), some (some 14), some (some 15), some (some 16), some (some 17), some (some 18), none, some (some 20), some (some 21), some (some 22), some (some 23), some (some 24), some (some 25), some none, none, none, some none])))) 26 (some (.inr (0, 3, none)))) 0 (some (.inl (9, [none, some (some 1), none, some (some 3), some (some 4), some (some 5), some (some 6), some (some 7), none, some (some 9), some (some 10), some (some 11), some (some 12), some (some 13), some (some 14), some (some 15), some (some 16), some (some 17), some (some 18), none, some (some 20), some (some 21), some (some 22), some (some 23), some (some 24), some (some 25), some (some 26), none, none, some none])))) 29 (some (.inr (0, 12, none)))) 0 (some (.inl (9, [none, some (some 1), none, some (some 3), some (some 4), some (some 5), some (some 6), some (some 7), none, some (some 9), some (some 10), some (some 11), some (some 12), some (some 13), some (some 14), some (some 15), some (some 16), some (some 17), some (some 18), none, some (some 20), some (some 21), some (some 22), some (some 23), some (some 24), some (some 25), some (some 26), none, none, some (some 29)])))
theorem zm_sh0r {sh : Nat → Option zw_Sh} {r : Nat} (h : 100 ≤ r) : zm_sh0 sh r = sh r := by
  unfold zm_sh0
  rw [va_up_ne _ _ (by omega), va_up_ne _ _ (by omega), va_up_ne _ _ (by omega), va_up_ne _ _ (by omega), va_up_ne _ _ (by omega), va_up_ne _ _ (by omega), va_up_ne _ _ (by omega), va_up_ne _ _ (by omega), va_up_ne _ _ (by omega), va_up_ne _ _ (by omega), va_up_ne _ _ (by omega), va_up_ne _ _ (by omega), va_up_ne _ _ (by omega), va_up_ne _ _ (by omega), va_up_ne _ _ (by omega), va_up_ne _ _ (by omega), va_up_ne _ _ (by omega), va_up_ne _ _ (by omega), va_up_ne _ _ (by omega), va_up_ne _ _ (by omega), va_up_ne _ _ (by omega), va_up_ne _ _ (by omega), va_up_ne _ _ (by omega), va_up_ne _ _ (by omega), va_up_ne _ _ (by omega), va_up_ne _ _ (by omega), va_up_ne _ _ (by omega), va_up_ne _ _ (by omega), va_up_ne _ _ (by omega), va_up_ne _ _ (by omega), va_up_ne _ _ (by omega), va_up_ne _ _ (by omega), va_up_ne _ _ (by omega), va_up_ne _ _ (by omega), va_up_ne _ _ (by omega), va_up_ne _ _ (by omega), va_up_ne _ _ (by omega), va_up_ne _ _ (by omega), va_up_ne _ _ (by omega), va_up_ne _ _ (by omega), va_up_ne _ _ (by omega), va_up_ne _ _ (by omega), va_up_ne _ _ (by omega), va_up_ne _ _ (by omega), va_up_ne _ _ (by omega), va_up_ne _ _ (by omega), va_up_ne _ _ (by omega), va_up_ne _ _ (by omega)]
set_option maxRecDepth 100000 in
theorem zm_S0 (sh : Nat → Option zw_Sh) : zm_S (zm_sh0 sh) := by
  show ∀ q ∈ zm_shl, _
  unfold zm_shl
  exact List.forall_mem_cons.mpr ⟨rfl, List.forall_mem_cons.mpr ⟨rfl, List.forall_mem_cons.mpr ⟨rfl, List.forall_mem_cons.mpr ⟨rfl, List.forall_mem_cons.mpr ⟨rfl, List.forall_mem_cons.mpr ⟨rfl, List.forall_mem_cons.mpr ⟨rfl, List.forall_mem_cons.mpr ⟨rfl, List.forall_mem_cons.mpr ⟨rfl, List.forall_mem_cons.mpr ⟨rfl, List.forall_mem_cons.mpr ⟨rfl, List.forall_mem_cons.mpr ⟨rfl, List.forall_mem_cons.mpr ⟨rfl, List.forall_mem_cons.mpr ⟨rfl, List.forall_mem_cons.mpr ⟨rfl, List.forall_mem_cons.mpr ⟨rfl, List.forall_mem_cons.mpr ⟨rfl, List.forall_mem_cons.mpr ⟨rfl, List.forall_mem_cons.mpr ⟨rfl, List.forall_mem_cons.mpr ⟨rfl, List.forall_mem_cons.mpr ⟨rfl, List.forall_mem_cons.mpr ⟨rfl, List.forall_mem_cons.mpr ⟨rfl, List.forall_mem_cons.mpr ⟨rfl, List.forall_mem_cons.mpr ⟨rfl, fun _ h => absurd h List.not_mem_nil⟩⟩⟩⟩⟩⟩⟩⟩⟩⟩⟩⟩⟩⟩⟩⟩⟩⟩⟩⟩⟩⟩⟩⟩⟩
set_option maxHeartbeats 4000000 in
set_option maxRecDepth 100000 in
theorem zm_G0 (g : zm_T) (hg0 : ∀ r : Nat, r < 100 → g r = fun _ => 0) (x : Int32) : zm_w (zm_w (zm_w (zm_w (zm_w (zm_w (zm_w (zm_w (zm_w (zm_w (zm_w (zm_w (zm_w (zm_w (zm_w (zm_w (zm_w (zm_w (zm_w (zm_w (zm_w (zm_w (zm_w (zm_w (zm_w (zm_w (zm_w (zm_w (zm_w (zm_w (zm_w (va_up (va_up (va_up (va_up (va_up (va_up (va_up (va_up (va_up (va_up (va_up (va_up (va_up (va_up (va_up (va_up (va_up (va_up (va_up (va_up (va_up (va_up (va_up (va_up (g) 1 (fun _ => 0)) 3 (fun _ => 0)) 4 (fun _ => 0)) 5 (fun _ => 0)) 6 (fun _ => 0)) 7 (fun _ => 0)) 9 (fun _ => 0)) 10 (fun _ => 0)) 11 (fun _ => 0)) 12 (fun _ => 0)) 13 (fun _ => 0)) 14 (fun _ => 0)) 15 (fun _ => 0)) 16 (fun _ => 0)) 17 (fun _ => 0)) 18 (fun _ => 0)) 20 (fun _ => 0)) 21 (fun _ => 0)) 22 (fun _ => 0)) 23 (fun _ => 0)) 24 (fun _ => 0)) 25 (fun _ => 0)) 26 (fun _ => 0)) 29 (fun _ => 0)) 0 0 x) 5 0 ((-1))) 23 0 ((-1))) 5 1 ((-1))) 23 1 ((-1))) 5 2 ((-1))) 23 2 ((-1))) 5 3 ((-1))) 23 3 ((-1))) 5 4 ((-1))) 23 4 ((-1))) 5 5 ((-1))) 23 5 ((-1))) 5 6 ((-1))) 23 6 ((-1))) 5 7 ((-1))) 23 7 ((-1))) 5 8 ((-1))) 23 8 ((-1))) 5 9 ((-1))) 23 9 ((-1))) 5 10 ((-1))) 23 10 ((-1))) 5 11 ((-1))) 23 11 ((-1))) 3 0 ((-1))) 3 1 ((-1))) 3 2 ((-1))) 3 3 ((-1))) 3 4 ((-1))) 3 5 ((-1)) = zm_mix (zs_u0 x) g := by
  have zz : ∀ (f : zm_T) {r : Nat} (q : Nat), f r = (fun _ => 0) → va_up f q (fun _ => 0) r = (fun _ => 0) := fun f r q h => by
    by_cases e : r = q
    · subst e; exact va_up_self _ _ _
    · rw [va_up_ne _ _ e]; exact h
  have hz : ∀ r : Nat, r < 100 → (va_up (va_up (va_up (va_up (va_up (va_up (va_up (va_up (va_up (va_up (va_up (va_up (va_up (va_up (va_up (va_up (va_up (va_up (va_up (va_up (va_up (va_up (va_up (va_up (g) 1 (fun _ => 0)) 3 (fun _ => 0)) 4 (fun _ => 0)) 5 (fun _ => 0)) 6 (fun _ => 0)) 7 (fun _ => 0)) 9 (fun _ => 0)) 10 (fun _ => 0)) 11 (fun _ => 0)) 12 (fun _ => 0)) 13 (fun _ => 0)) 14 (fun _ => 0)) 15 (fun _ => 0)) 16 (fun _ => 0)) 17 (fun _ => 0)) 18 (fun _ => 0)) 20 (fun _ => 0)) 21 (fun _ => 0)) 22 (fun _ => 0)) 23 (fun _ => 0)) 24 (fun _ => 0)) 25 (fun _ => 0)) 26 (fun _ => 0)) 29 (fun _ => 0) : zm_T) r = fun _ => 0 := fun r h => zz _ 29 (zz _ 26 (zz _ 25 (zz _ 24 (zz _ 23 (zz _ 22 (zz _ 21 (zz _ 20 (zz _ 18 (zz _ 17 (zz _ 16 (zz _ 15 (zz _ 14 (zz _ 13 (zz _ 12 (zz _ 11 (zz _ 10 (zz _ 9 (zz _ 7 (zz _ 6 (zz _ 5 (zz _ 4 (zz _ 3 (zz _ 1 (hg0 r h))))))))))))))))))))))))
  have hz2 : ∀ r : Nat, 100 ≤ r → (va_up (va_up (va_up (va_up (va_up (va_up (va_up (va_up (va_up (va_up (va_up (va_up (va_up (va_up (va_up (va_up (va_up (va_up (va_up (va_up (va_up (va_up (va_up (va_up (g) 1 (fun _ => 0)) 3 (fun _ => 0)) 4 (fun _ => 0)) 5 (fun _ => 0)) 6 (fun _ => 0)) 7 (fun _ => 0)) 9 (fun _ => 0)) 10 (fun _ => 0)) 11 (fun _ => 0)) 12 (fun _ => 0)) 13 (fun _ => 0)) 14 (fun _ => 0)) 15 (fun _ => 0)) 16 (fun _ => 0)) 17 (fun _ => 0)) 18 (fun _ => 0)) 20 (fun _ => 0)) 21 (fun _ => 0)) 22 (fun _ => 0)) 23 (fun _ => 0)) 24 (fun _ => 0)) 25 (fun _ => 0)) 26 (fun _ => 0)) 29 (fun _ => 0) : zm_T) r = g r := fun r h => by rw [va_up_ne _ _ (by omega), va_up_ne _ _ (by omega), va_up_ne _ _ (by omega), va_up_ne _ _ (by omega), va_up_ne _ _ (by omega), va_up_ne _ _ (by omega), va_up_ne _ _ (by omega), va_up_ne _ _ (by omega), va_up_ne _ _ (by omega), va_up_ne _ _ (by omega), va_up_ne _ _ (by omega), va_up_ne _ _ (by omega), va_up_ne _ _ (by omega), va_up_ne _ _ (by omega), va_up_ne _ _ (by omega), va_up_ne _ _ (by omega), va_up_ne _ _ (by omega), va_up_ne _ _ (by omega), va_up_ne _ _ (by omega), va_up_ne _ _ (by omega), va_up_ne _ _ (by omega), va_up_ne _ _ (by omega), va_up_ne _ _ (by omega), va_up_ne _ _ (by omega)]
  generalize (va_up (va_up (va_up (va_up (va_up (va_up (va_up (va_up (va_up (va_up (va_up (va_up (va_up (va_up (va_up (va_up (va_up (va_up (va_up (va_up (va_up (va_up (va_up (va_up (g) 1 (fun _ => 0)) 3 (fun _ => 0)) 4 (fun _ => 0)) 5 (fun _ => 0)) 6 (fun _ => 0)) 7 (fun _ => 0)) 9 (fun _ => 0)) 10 (fun _ => 0)) 11 (fun _ => 0)) 12 (fun _ => 0)) 13 (fun _ => 0)) 14 (fun _ => 0)) 15 (fun _ => 0)) 16 (fun _ => 0)) 17 (fun _ => 0)) 18 (fun _ => 0)) 20 (fun _ => 0)) 21 (fun _ => 0)) 22 (fun _ => 0)) 23 (fun _ => 0)) 24 (fun _ => 0)) 25 (fun _ => 0)) 26 (fun _ => 0)) 29 (fun _ => 0) : zm_T) = Z at hz hz2 ⊢
  funext r i
  unfold zm_mix
  by_cases h : r < 100
  · rw [if_pos h]
    by_cases h0 : r = 0 ∧ i = 0
    · obtain ⟨rfl, rfl⟩ := h0; rfl
    by_cases h5 : r = 5 ∧ i < 12
    · obtain ⟨rfl, hi⟩ := h5
      obtain rfl | rfl | rfl | rfl | rfl | rfl | rfl | rfl | rfl | rfl | rfl | rfl : i = 0 ∨ i = 1 ∨ i = 2 ∨ i = 3 ∨ i = 4 ∨ i = 5 ∨ i = 6 ∨ i = 7 ∨ i = 8 ∨ i = 9 ∨ i = 10 ∨ i = 11 := by omega
      all_goals rfl
    by_cases h23 : r = 23 ∧ i < 12
    · obtain ⟨rfl, hi⟩ := h23
      obtain rfl | rfl | rfl | rfl | rfl | rfl | rfl | rfl | rfl | rfl | rfl | rfl : i = 0 ∨ i = 1 ∨ i = 2 ∨ i = 3 ∨ i = 4 ∨ i = 5 ∨ i = 6 ∨ i = 7 ∨ i = 8 ∨ i = 9 ∨ i = 10 ∨ i = 11 := by omega
      all_goals rfl
    by_cases h3 : r = 3 ∧ i < 6
    · obtain ⟨rfl, hi⟩ := h3
      obtain rfl | rfl | rfl | rfl | rfl | rfl : i = 0 ∨ i = 1 ∨ i = 2 ∨ i = 3 ∨ i = 4 ∨ i = 5 := by omega
      all_goals rfl
    unfold zs_u0
    rw [if_neg h0, if_neg (by omega), zm_wn _ _ (by omega), zm_wn _ _ (by omega), zm_wn _ _ (by omega), zm_wn _ _ (by omega), zm_wn _ _ (by omega), zm_wn _ _ (by omega), zm_wn _ _ (by omega), zm_wn _ _ (by omega), zm_wn _ _ (by omega), zm_wn _ _ (by omega), zm_wn _ _ (by omega), zm_wn _ _ (by omega), zm_wn _ _ (by omega), zm_wn _ _ (by omega), zm_wn _ _ (by omega), zm_wn _ _ (by omega), zm_wn _ _ (by omega), zm_wn _ _ (by omega), zm_wn _ _ (by omega), zm_wn _ _ (by omega), zm_wn _ _ (by omega), zm_wn _ _ (by omega), zm_wn _ _ (by omega), zm_wn _ _ (by omega), zm_wn _ _ (by omega), zm_wn _ _ (by omega), zm_wn _ _ (by omega), zm_wn _ _ (by omega), zm_wn _ _ (by omega), zm_wn _ _ (by omega), zm_wn _ _ (by omega), hz r h]
  · rw [if_neg h, zm_wn _ _ (by omega), zm_wn _ _ (by omega), zm_wn _ _ (by omega), zm_wn _ _ (by omega), zm_wn _ _ (by omega), zm_wn _ _ (by omega), zm_wn _ _ (by omega), zm_wn _ _ (by omega), zm_wn _ _ (by omega), zm_wn _ _ (by omega), zm_wn _ _ (by omega), zm_wn _ _ (by omega), zm_wn _ _ (by omega), zm_wn _ _ (by omega), zm_wn _ _ (by omega), zm_wn _ _ (by omega), zm_wn _ _ (by omega), zm_wn _ _ (by omega), zm_wn _ _ (by omega), zm_wn _ _ (by omega), zm_wn _ _ (by omega), zm_wn _ _ (by omega), zm_wn _ _ (by omega), zm_wn _ _ (by omega), zm_wn _ _ (by omega), zm_wn _ _ (by omega), zm_wn _ _ (by omega), zm_wn _ _ (by omega), zm_wn _ _ (by omega), zm_wn _ _ (by omega), zm_wn _ _ (by omega), hz2 r (by omega)]

set_option maxHeartbeats 16000000 in
set_option maxRecDepth 100000 in
theorem c_X10_init (l : Launch) (Y : zw_Y) (N0 : Nat) (ad : Nat → Nat) (sh : Nat → Option zw_Sh) (g : zm_T) (hr : sh 0 = some (.inl (9, [none, some none, none, some none, some none, some none, some none, some none, none, some none, some none, some none, some none, some none, some none, some none, some none, some none, some none, none, some none, some none, some none, some none, some none, some none, some none, none, none, some none]))) (hfree : ∀ r : Nat, 0 < r → r < 100 → sh r = none) (hg0 : ∀ r : Nat, r < 100 → g r = fun _ => 0) (sk : Int32) : zw_Met l Y N0 yX10_init cX10_init 3 none 1 20 24 1835 ad sh g [.ref (ad 0), .int sk] (fun v ad' sh' g' => v = none ∧ zm_S sh' ∧ g' = zm_mix (zs_u0 (zs_sk sk)) g ∧ (∀ r : Nat, r = 0 ∨ 100 ≤ r → ad' r = ad r) ∧ ∀ r : Nat, 100 ≤ r → sh' r = sh r) := by
  refine zw_meth (by decide) (Nat.le_of_ble_eq_true rfl) ?_
  intro p e s m below meth c ls X hnm hl hW
  have hl : lv_has ls 3 [(0, .ref (ad 0)), (1, .int sk)] := hl
  refine lv_aload_n X.1 X.2.1 dX10_init_0 rfl (lv_at hl 0 rfl) ?_
  refine zr_objI X hl.1 ms_X10_1 dX10_init_1 (Nat.le_of_ble_eq_true rfl) (Nat.le_of_ble_eq_true rfl) (Nat.le_of_ble_eq_true rfl) ?_
  refine lv_aload_n X.1 X.2.1 dX10_init_4 rfl (lv_at hl 0 rfl) ?_
  refine lv_bipush (v := 6) X.1 X.2.1 dX10_init_5 (by decide) ?_
  refine zr_newa (ti := 0) (N' := 6) (ty := .int) X hW (zt_in (zt_t1 42 rfl) rfl) rfl rfl rfl dX10_init_7 1 (hfree 1 (by omega) (by omega)) (by decide) rfl (by decide) (Nat.le_of_ble_eq_true rfl) (Nat.le_of_ble_eq_true rfl) (fun ad_1 H had_1 hW => ?_)
  obtain ⟨g_2, hg_2⟩ : ∃ z : zm_T, z = va_up g 1 (fun _ => 0) := ⟨_, rfl⟩
  rw [← hg_2] at hW
  have ha_3 : ad_1 0 = ad 0 := had_1 0 (by omega)
  refine zr_putr (r := 0) (r2 := 1) (ss := [none, some none, none, some none, some none, some none, some none, some none, none, some none, some none, some none, some none, some none, some none, some none, some none, some none, some none, none, some none, some none, some none, some none, some none, some none, some none, none, none, some none]) X hW fs_X10_7_9 dX10_init_9 (Or.inr ⟨rfl, hnm⟩) hr ha_3 (by decide) (fun h9 => by cases h9) rfl (fun a => ⟨rfl, rfl⟩) (fun H locs hW => ?_)
  refine lv_aload_n X.1 X.2.1 dX10_init_12 rfl (lv_at hl 0 rfl) ?_
  refine lv_bipush (v := 6) X.1 X.2.1 dX10_init_13 (by decide) ?_
  refine zr_newa (ti := 0) (N' := 6) (ty := .int) X hW (zt_in (zt_t1 42 rfl) rfl) rfl rfl rfl dX10_init_15 3 (hfree 3 (by omega) (by omega)) (by decide) rfl (by decide) (Nat.le_of_ble_eq_true rfl) (Nat.le_of_ble_eq_true rfl) (fun ad_4 H had_4 hW => ?_)
  obtain ⟨g_5, hg_5⟩ : ∃ z : zm_T, z = va_up g_2 3 (fun _ => 0) := ⟨_, rfl⟩
  rw [← hg_5] at hW
  have ha_6 : ad_4 0 = ad 0 := (had_4 0 (by omega)).trans ha_3
  refine zr_putr (r := 0) (r2 := 3) (ss := [none, some (some 1), none, some none, some none, some none, some none, some none, none, some none, some none, some none, some none, some none, some none, some none, some none, some none, some none, none, some none, some none, some none, some none, some none, some none, some none, none, none, some none]) X hW fs_X10_13_9 dX10_init_17 (Or.inr ⟨rfl, hnm⟩) rfl ha_6 (by decide) (fun h9 => by cases h9) rfl (fun a => ⟨rfl, rfl⟩) (fun H locs hW => ?_)
  refine lv_aload_n X.1 X.2.1 dX10_init_20 rfl (lv_at hl 0 rfl) ?_
  refine lv_sipush (v := 200) X.1 X.2.1 dX10_init_21 (by decide) ?_
  refine zr_newa (ti := 1) (N' := 200) (ty := .boolean) X hW (zt_in (zt_t1 106 rfl) rfl) rfl rfl rfl dX10_init_24 4 (hfree 4 (by omega) (by omega)) (by decide) rfl (by decide) (Nat.le_of_ble_eq_true rfl) (Nat.le_of_ble_eq_true rfl) (fun ad_7 H had_7 hW => ?_)
  obtain ⟨g_8, hg_8⟩ : ∃ z : zm_T, z = va_up g_5 4 (fun _ => 0) := ⟨_, rfl⟩
  rw [← hg_8] at hW
  have ha_9 : ad_7 0 = ad 0 := (had_7 0 (by omega)).trans ha_6
  refine zr_putr (r := 0) (r2 := 4) (ss := [none, some (some 1), none, some (some 3), some none, some none, some none, some none, none, some none, some none, some none, some none, some none, some none, some none, some none, some none, some none, none, some none, some none, some none, some none, some none, some none, some none, none, none, some none]) X hW fs_X10_16_9 dX10_init_26 (Or.inr ⟨rfl, hnm⟩) rfl ha_9 (by decide) (fun h9 => by cases h9) rfl (fun a => ⟨rfl, rfl⟩) (fun H locs hW => ?_)
  refine lv_aload_n X.1 X.2.1 dX10_init_29 rfl (lv_at hl 0 rfl) ?_
  refine lv_bipush (v := 12) X.1 X.2.1 dX10_init_30 (by decide) ?_
  refine zr_newa (ti := 0) (N' := 12) (ty := .int) X hW (zt_in (zt_t1 42 rfl) rfl) rfl rfl rfl dX10_init_32 5 (hfree 5 (by omega) (by omega)) (by decide) rfl (by decide) (Nat.le_of_ble_eq_true rfl) (Nat.le_of_ble_eq_true rfl) (fun ad_10 H had_10 hW => ?_)
  obtain ⟨g_11, hg_11⟩ : ∃ z : zm_T, z = va_up g_8 5 (fun _ => 0) := ⟨_, rfl⟩
  rw [← hg_11] at hW
  have ha_12 : ad_10 0 = ad 0 := (had_10 0 (by omega)).trans ha_9
  refine zr_putr (r := 0) (r2 := 5) (ss := [none, some (some 1), none, some (some 3), some (some 4), some none, some none, some none, none, some none, some none, some none, some none, some none, some none, some none, some none, some none, some none, none, some none, some none, some none, some none, some none, some none, some none, none, none, some none]) X hW fs_X10_20_9 dX10_init_34 (Or.inr ⟨rfl, hnm⟩) rfl ha_12 (by decide) (fun h9 => by cases h9) rfl (fun a => ⟨rfl, rfl⟩) (fun H locs hW => ?_)
  refine lv_aload_n X.1 X.2.1 dX10_init_37 rfl (lv_at hl 0 rfl) ?_
  refine lv_bipush (v := 12) X.1 X.2.1 dX10_init_38 (by decide) ?_
  refine zr_newa (ti := 0) (N' := 12) (ty := .int) X hW (zt_in (zt_t1 42 rfl) rfl) rfl rfl rfl dX10_init_40 6 (hfree 6 (by omega) (by omega)) (by decide) rfl (by decide) (Nat.le_of_ble_eq_true rfl) (Nat.le_of_ble_eq_true rfl) (fun ad_13 H had_13 hW => ?_)
  obtain ⟨g_14, hg_14⟩ : ∃ z : zm_T, z = va_up g_11 6 (fun _ => 0) := ⟨_, rfl⟩
  rw [← hg_14] at hW
  have ha_15 : ad_13 0 = ad 0 := (had_13 0 (by omega)).trans ha_12
  refine zr_putr (r := 0) (r2 := 6) (ss := [none, some (some 1), none, some (some 3), some (some 4), some (some 5), some none, some none, none, some none, some none, some none, some none, some none, some none, some none, some none, some none, some none, none, some none, some none, some none, some none, some none, some none, some none, none, none, some none]) X hW fs_X10_23_9 dX10_init_42 (Or.inr ⟨rfl, hnm⟩) rfl ha_15 (by decide) (fun h9 => by cases h9) rfl (fun a => ⟨rfl, rfl⟩) (fun H locs hW => ?_)
  refine lv_aload_n X.1 X.2.1 dX10_init_45 rfl (lv_at hl 0 rfl) ?_
  refine lv_bipush (v := 36) X.1 X.2.1 dX10_init_46 (by decide) ?_
  refine zr_newa (ti := 0) (N' := 36) (ty := .int) X hW (zt_in (zt_t1 42 rfl) rfl) rfl rfl rfl dX10_init_48 7 (hfree 7 (by omega) (by omega)) (by decide) rfl (by decide) (Nat.le_of_ble_eq_true rfl) (Nat.le_of_ble_eq_true rfl) (fun ad_16 H had_16 hW => ?_)
  obtain ⟨g_17, hg_17⟩ : ∃ z : zm_T, z = va_up g_14 7 (fun _ => 0) := ⟨_, rfl⟩
  rw [← hg_17] at hW
  have ha_18 : ad_16 0 = ad 0 := (had_16 0 (by omega)).trans ha_15
  refine zr_putr (r := 0) (r2 := 7) (ss := [none, some (some 1), none, some (some 3), some (some 4), some (some 5), some (some 6), some none, none, some none, some none, some none, some none, some none, some none, some none, some none, some none, some none, none, some none, some none, some none, some none, some none, some none, some none, none, none, some none]) X hW fs_X10_26_9 dX10_init_50 (Or.inr ⟨rfl, hnm⟩) rfl ha_18 (by decide) (fun h9 => by cases h9) rfl (fun a => ⟨rfl, rfl⟩) (fun H locs hW => ?_)
  refine lv_aload_n X.1 X.2.1 dX10_init_53 rfl (lv_at hl 0 rfl) ?_
  refine lv_sipush (v := 150) X.1 X.2.1 dX10_init_54 (by decide) ?_
  refine zr_newa (ti := 0) (N' := 150) (ty := .int) X hW (zt_in (zt_t1 42 rfl) rfl) rfl rfl rfl dX10_init_57 9 (hfree 9 (by omega) (by omega)) (by decide) rfl (by decide) (Nat.le_of_ble_eq_true rfl) (Nat.le_of_ble_eq_true rfl) (fun ad_19 H had_19 hW => ?_)
  obtain ⟨g_20, hg_20⟩ : ∃ z : zm_T, z = va_up g_17 9 (fun _ => 0) := ⟨_, rfl⟩
  rw [← hg_20] at hW
  have ha_21 : ad_19 0 = ad 0 := (had_19 0 (by omega)).trans ha_18
  refine zr_putr (r := 0) (r2 := 9) (ss := [none, some (some 1), none, some (some 3), some (some 4), some (some 5), some (some 6), some (some 7), none, some none, some none, some none, some none, some none, some none, some none, some none, some none, some none, none, some none, some none, some none, some none, some none, some none, some none, none, none, some none]) X hW fs_X10_29_9 dX10_init_59 (Or.inr ⟨rfl, hnm⟩) rfl ha_21 (by decide) (fun h9 => by cases h9) rfl (fun a => ⟨rfl, rfl⟩) (fun H locs hW => ?_)
  refine lv_aload_n X.1 X.2.1 dX10_init_62 rfl (lv_at hl 0 rfl) ?_
  refine lv_sipush (v := 150) X.1 X.2.1 dX10_init_63 (by decide) ?_
  refine zr_newa (ti := 0) (N' := 150) (ty := .int) X hW (zt_in (zt_t1 42 rfl) rfl) rfl rfl rfl dX10_init_66 10 (hfree 10 (by omega) (by omega)) (by decide) rfl (by decide) (Nat.le_of_ble_eq_true rfl) (Nat.le_of_ble_eq_true rfl) (fun ad_22 H had_22 hW => ?_)
  obtain ⟨g_23, hg_23⟩ : ∃ z : zm_T, z = va_up g_20 10 (fun _ => 0) := ⟨_, rfl⟩
  rw [← hg_23] at hW
  have ha_24 : ad_22 0 = ad 0 := (had_22 0 (by omega)).trans ha_21
  refine zr_putr (r := 0) (r2 := 10) (ss := [none, some (some 1), none, some (some 3), some (some 4), some (some 5), some (some 6), some (some 7), none, some (some 9), some none, some none, some none, some none, some none, some none, some none, some none, some none, none, some none, some none, some none, some none, some none, some none, some none, none, none, some none]) X hW fs_X10_32_9 dX10_init_68 (Or.inr ⟨rfl, hnm⟩) rfl ha_24 (by decide) (fun h9 => by cases h9) rfl (fun a => ⟨rfl, rfl⟩) (fun H locs hW => ?_)
  refine lv_aload_n X.1 X.2.1 dX10_init_71 rfl (lv_at hl 0 rfl) ?_
  refine lv_sipush (v := 150) X.1 X.2.1 dX10_init_72 (by decide) ?_
  refine zr_newa (ti := 0) (N' := 150) (ty := .int) X hW (zt_in (zt_t1 42 rfl) rfl) rfl rfl rfl dX10_init_75 11 (hfree 11 (by omega) (by omega)) (by decide) rfl (by decide) (Nat.le_of_ble_eq_true rfl) (Nat.le_of_ble_eq_true rfl) (fun ad_25 H had_25 hW => ?_)
  obtain ⟨g_26, hg_26⟩ : ∃ z : zm_T, z = va_up g_23 11 (fun _ => 0) := ⟨_, rfl⟩
  rw [← hg_26] at hW
  have ha_27 : ad_25 0 = ad 0 := (had_25 0 (by omega)).trans ha_24
  refine zr_putr (r := 0) (r2 := 11) (ss := [none, some (some 1), none, some (some 3), some (some 4), some (some 5), some (some 6), some (some 7), none, some (some 9), some (some 10), some none, some none, some none, some none, some none, some none, some none, some none, none, some none, some none, some none, some none, some none, some none, some none, none, none, some none]) X hW fs_X10_35_9 dX10_init_77 (Or.inr ⟨rfl, hnm⟩) rfl ha_27 (by decide) (fun h9 => by cases h9) rfl (fun a => ⟨rfl, rfl⟩) (fun H locs hW => ?_)
  refine lv_aload_n X.1 X.2.1 dX10_init_80 rfl (lv_at hl 0 rfl) ?_
  refine lv_sipush (v := 150) X.1 X.2.1 dX10_init_81 (by decide) ?_
  refine zr_newa (ti := 0) (N' := 150) (ty := .int) X hW (zt_in (zt_t1 42 rfl) rfl) rfl rfl rfl dX10_init_84 12 (hfree 12 (by omega) (by omega)) (by decide) rfl (by decide) (Nat.le_of_ble_eq_true rfl) (Nat.le_of_ble_eq_true rfl) (fun ad_28 H had_28 hW => ?_)
  obtain ⟨g_29, hg_29⟩ : ∃ z : zm_T, z = va_up g_26 12 (fun _ => 0) := ⟨_, rfl⟩
  rw [← hg_29] at hW
  have ha_30 : ad_28 0 = ad 0 := (had_28 0 (by omega)).trans ha_27
  refine zr_putr (r := 0) (r2 := 12) (ss := [none, some (some 1), none, some (some 3), some (some 4), some (some 5), some (some 6), some (some 7), none, some (some 9), some (some 10), some (some 11), some none, some none, some none, some none, some none, some none, some none, none, some none, some none, some none, some none, some none, some none, some none, none, none, some none]) X hW fs_X10_38_9 dX10_init_86 (Or.inr ⟨rfl, hnm⟩) rfl ha_30 (by decide) (fun h9 => by cases h9) rfl (fun a => ⟨rfl, rfl⟩) (fun H locs hW => ?_)
  refine lv_aload_n X.1 X.2.1 dX10_init_89 rfl (lv_at hl 0 rfl) ?_
  refine lv_sipush (v := 150) X.1 X.2.1 dX10_init_90 (by decide) ?_
  refine zr_newa (ti := 0) (N' := 150) (ty := .int) X hW (zt_in (zt_t1 42 rfl) rfl) rfl rfl rfl dX10_init_93 13 (hfree 13 (by omega) (by omega)) (by decide) rfl (by decide) (Nat.le_of_ble_eq_true rfl) (Nat.le_of_ble_eq_true rfl) (fun ad_31 H had_31 hW => ?_)
  obtain ⟨g_32, hg_32⟩ : ∃ z : zm_T, z = va_up g_29 13 (fun _ => 0) := ⟨_, rfl⟩
  rw [← hg_32] at hW
  have ha_33 : ad_31 0 = ad 0 := (had_31 0 (by omega)).trans ha_30
  refine zr_putr (r := 0) (r2 := 13) (ss := [none, some (some 1), none, some (some 3), some (some 4), some (some 5), some (some 6), some (some 7), none, some (some 9), some (some 10), some (some 11), some (some 12), some none, some none, some none, some none, some none, some none, none, some none, some none, some none, some none, some none, some none, some none, none, none, some none]) X hW fs_X10_41_9 dX10_init_95 (Or.inr ⟨rfl, hnm⟩) rfl ha_33 (by decide) (fun h9 => by cases h9) rfl (fun a => ⟨rfl, rfl⟩) (fun H locs hW => ?_)
  refine lv_aload_n X.1 X.2.1 dX10_init_98 rfl (lv_at hl 0 rfl) ?_
  refine lv_sipush (v := 150) X.1 X.2.1 dX10_init_99 (by decide) ?_
  refine zr_newa (ti := 0) (N' := 150) (ty := .int) X hW (zt_in (zt_t1 42 rfl) rfl) rfl rfl rfl dX10_init_102 14 (hfree 14 (by omega) (by omega)) (by decide) rfl (by decide) (Nat.le_of_ble_eq_true rfl) (Nat.le_of_ble_eq_true rfl) (fun ad_34 H had_34 hW => ?_)
  obtain ⟨g_35, hg_35⟩ : ∃ z : zm_T, z = va_up g_32 14 (fun _ => 0) := ⟨_, rfl⟩
  rw [← hg_35] at hW
  have ha_36 : ad_34 0 = ad 0 := (had_34 0 (by omega)).trans ha_33
  refine zr_putr (r := 0) (r2 := 14) (ss := [none, some (some 1), none, some (some 3), some (some 4), some (some 5), some (some 6), some (some 7), none, some (some 9), some (some 10), some (some 11), some (some 12), some (some 13), some none, some none, some none, some none, some none, none, some none, some none, some none, some none, some none, some none, some none, none, none, some none]) X hW fs_X10_44_9 dX10_init_104 (Or.inr ⟨rfl, hnm⟩) rfl ha_36 (by decide) (fun h9 => by cases h9) rfl (fun a => ⟨rfl, rfl⟩) (fun H locs hW => ?_)
  refine lv_aload_n X.1 X.2.1 dX10_init_107 rfl (lv_at hl 0 rfl) ?_
  refine lv_sipush (v := 150) X.1 X.2.1 dX10_init_108 (by decide) ?_
  refine zr_newa (ti := 0) (N' := 150) (ty := .int) X hW (zt_in (zt_t1 42 rfl) rfl) rfl rfl rfl dX10_init_111 15 (hfree 15 (by omega) (by omega)) (by decide) rfl (by decide) (Nat.le_of_ble_eq_true rfl) (Nat.le_of_ble_eq_true rfl) (fun ad_37 H had_37 hW => ?_)
  obtain ⟨g_38, hg_38⟩ : ∃ z : zm_T, z = va_up g_35 15 (fun _ => 0) := ⟨_, rfl⟩
  rw [← hg_38] at hW
  have ha_39 : ad_37 0 = ad 0 := (had_37 0 (by omega)).trans ha_36
  refine zr_putr (r := 0) (r2 := 15) (ss := [none, some (some 1), none, some (some 3), some (some 4), some (some 5), some (some 6), some (some 7), none, some (some 9), some (some 10), some (some 11), some (some 12), some (some 13), some (some 14), some none, some none, some none, some none, none, some none, some none, some none, some none, some none, some none, some none, none, none, some none]) X hW fs_X10_47_9 dX10_init_113 (Or.inr ⟨rfl, hnm⟩) rfl ha_39 (by decide) (fun h9 => by cases h9) rfl (fun a => ⟨rfl, rfl⟩) (fun H locs hW => ?_)
  refine lv_aload_n X.1 X.2.1 dX10_init_116 rfl (lv_at hl 0 rfl) ?_
  refine lv_sipush (v := 150) X.1 X.2.1 dX10_init_117 (by decide) ?_
  refine zr_newa (ti := 0) (N' := 150) (ty := .int) X hW (zt_in (zt_t1 42 rfl) rfl) rfl rfl rfl dX10_init_120 16 (hfree 16 (by omega) (by omega)) (by decide) rfl (by decide) (Nat.le_of_ble_eq_true rfl) (Nat.le_of_ble_eq_true rfl) (fun ad_40 H had_40 hW => ?_)
  obtain ⟨g_41, hg_41⟩ : ∃ z : zm_T, z = va_up g_38 16 (fun _ => 0) := ⟨_, rfl⟩
  rw [← hg_41] at hW
  have ha_42 : ad_40 0 = ad 0 := (had_40 0 (by omega)).trans ha_39
  refine zr_putr (r := 0) (r2 := 16) (ss := [none, some (some 1), none, some (some 3), some (some 4), some (some 5), some (some 6), some (some 7), none, some (some 9), some (some 10), some (some 11), some (some 12), some (some 13), some (some 14), some (some 15), some none, some none, some none, none, some none, some none, some none, some none, some none, some none, some none, none, none, some none]) X hW fs_X10_50_9 dX10_init_122 (Or.inr ⟨rfl, hnm⟩) rfl ha_42 (by decide) (fun h9 => by cases h9) rfl (fun a => ⟨rfl, rfl⟩) (fun H locs hW => ?_)
  refine lv_aload_n X.1 X.2.1 dX10_init_125 rfl (lv_at hl 0 rfl) ?_
  refine lv_sipush (v := 150) X.1 X.2.1 dX10_init_126 (by decide) ?_
  refine zr_newa (ti := 0) (N' := 150) (ty := .int) X hW (zt_in (zt_t1 42 rfl) rfl) rfl rfl rfl dX10_init_129 17 (hfree 17 (by omega) (by omega)) (by decide) rfl (by decide) (Nat.le_of_ble_eq_true rfl) (Nat.le_of_ble_eq_true rfl) (fun ad_43 H had_43 hW => ?_)
  obtain ⟨g_44, hg_44⟩ : ∃ z : zm_T, z = va_up g_41 17 (fun _ => 0) := ⟨_, rfl⟩
  rw [← hg_44] at hW
  have ha_45 : ad_43 0 = ad 0 := (had_43 0 (by omega)).trans ha_42
  refine zr_putr (r := 0) (r2 := 17) (ss := [none, some (some 1), none, some (some 3), some (some 4), some (some 5), some (some 6), some (some 7), none, some (some 9), some (some 10), some (some 11), some (some 12), some (some 13), some (some 14), some (some 15), some (some 16), some none, some none, none, some none, some none, some none, some none, some none, some none, some none, none, none, some none]) X hW fs_X10_53_9 dX10_init_131 (Or.inr ⟨rfl, hnm⟩) rfl ha_45 (by decide) (fun h9 => by cases h9) rfl (fun a => ⟨rfl, rfl⟩) (fun H locs hW => ?_)
  refine lv_aload_n X.1 X.2.1 dX10_init_134 rfl (lv_at hl 0 rfl) ?_
  refine lv_sipush (v := 150) X.1 X.2.1 dX10_init_135 (by decide) ?_
  refine zr_newa (ti := 0) (N' := 150) (ty := .int) X hW (zt_in (zt_t1 42 rfl) rfl) rfl rfl rfl dX10_init_138 18 (hfree 18 (by omega) (by omega)) (by decide) rfl (by decide) (Nat.le_of_ble_eq_true rfl) (Nat.le_of_ble_eq_true rfl) (fun ad_46 H had_46 hW => ?_)
  obtain ⟨g_47, hg_47⟩ : ∃ z : zm_T, z = va_up g_44 18 (fun _ => 0) := ⟨_, rfl⟩
  rw [← hg_47] at hW
  have ha_48 : ad_46 0 = ad 0 := (had_46 0 (by omega)).trans ha_45
  refine zr_putr (r := 0) (r2 := 18) (ss := [none, some (some 1), none, some (some 3), some (some 4), some (some 5), some (some 6), some (some 7), none, some (some 9), some (some 10), some (some 11), some (some 12), some (some 13), some (some 14), some (some 15), some (some 16), some (some 17), some none, none, some none, some none, some none, some none, some none, some none, some none, none, none, some none]) X hW fs_X10_56_9 dX10_init_140 (Or.inr ⟨rfl, hnm⟩) rfl ha_48 (by decide) (fun h9 => by cases h9) rfl (fun a => ⟨rfl, rfl⟩) (fun H locs hW => ?_)
  refine lv_aload_n X.1 X.2.1 dX10_init_143 rfl (lv_at hl 0 rfl) ?_
  refine lv_bipush (v := 6) X.1 X.2.1 dX10_init_144 (by decide) ?_
  refine zr_newa (ti := 0) (N' := 6) (ty := .int) X hW (zt_in (zt_t1 42 rfl) rfl) rfl rfl rfl dX10_init_146 20 (hfree 20 (by omega) (by omega)) (by decide) rfl (by decide) (Nat.le_of_ble_eq_true rfl) (Nat.le_of_ble_eq_true rfl) (fun ad_49 H had_49 hW => ?_)
  obtain ⟨g_50, hg_50⟩ : ∃ z : zm_T, z = va_up g_47 20 (fun _ => 0) := ⟨_, rfl⟩
  rw [← hg_50] at hW
  have ha_51 : ad_49 0 = ad 0 := (had_49 0 (by omega)).trans ha_48
  refine zr_putr (r := 0) (r2 := 20) (ss := [none, some (some 1), none, some (some 3), some (some 4), some (some 5), some (some 6), some (some 7), none, some (some 9), some (some 10), some (some 11), some (some 12), some (some 13), some (some 14), some (some 15), some (some 16), some (some 17), some (some 18), none, some none, some none, some none, some none, some none, some none, some none, none, none, some none]) X hW fs_X10_59_9 dX10_init_148 (Or.inr ⟨rfl, hnm⟩) rfl ha_51 (by decide) (fun h9 => by cases h9) rfl (fun a => ⟨rfl, rfl⟩) (fun H locs hW => ?_)
  refine lv_aload_n X.1 X.2.1 dX10_init_151 rfl (lv_at hl 0 rfl) ?_
  refine lv_bipush (v := 6) X.1 X.2.1 dX10_init_152 (by decide) ?_
  refine zr_newa (ti := 0) (N' := 6) (ty := .int) X hW (zt_in (zt_t1 42 rfl) rfl) rfl rfl rfl dX10_init_154 21 (hfree 21 (by omega) (by omega)) (by decide) rfl (by decide) (Nat.le_of_ble_eq_true rfl) (Nat.le_of_ble_eq_true rfl) (fun ad_52 H had_52 hW => ?_)
  obtain ⟨g_53, hg_53⟩ : ∃ z : zm_T, z = va_up g_50 21 (fun _ => 0) := ⟨_, rfl⟩
  rw [← hg_53] at hW
  have ha_54 : ad_52 0 = ad 0 := (had_52 0 (by omega)).trans ha_51
  refine zr_putr (r := 0) (r2 := 21) (ss := [none, some (some 1), none, some (some 3), some (some 4), some (some 5), some (some 6), some (some 7), none, some (some 9), some (some 10), some (some 11), some (some 12), some (some 13), some (some 14), some (some 15), some (some 16), some (some 17), some (some 18), none, some (some 20), some none, some none, some none, some none, some none, some none, none, none, some none]) X hW fs_X10_62_9 dX10_init_156 (Or.inr ⟨rfl, hnm⟩) rfl ha_54 (by decide) (fun h9 => by cases h9) rfl (fun a => ⟨rfl, rfl⟩) (fun H locs hW => ?_)
  refine lv_aload_n X.1 X.2.1 dX10_init_159 rfl (lv_at hl 0 rfl) ?_
  refine lv_bipush (v := 6) X.1 X.2.1 dX10_init_160 (by decide) ?_
  refine zr_newa (ti := 0) (N' := 6) (ty := .int) X hW (zt_in (zt_t1 42 rfl) rfl) rfl rfl rfl dX10_init_162 22 (hfree 22 (by omega) (by omega)) (by decide) rfl (by decide) (Nat.le_of_ble_eq_true rfl) (Nat.le_of_ble_eq_true rfl) (fun ad_55 H had_55 hW => ?_)
  obtain ⟨g_56, hg_56⟩ : ∃ z : zm_T, z = va_up g_53 22 (fun _ => 0) := ⟨_, rfl⟩
  rw [← hg_56] at hW
  have ha_57 : ad_55 0 = ad 0 := (had_55 0 (by omega)).trans ha_54
  refine zr_putr (r := 0) (r2 := 22) (ss := [none, some (some 1), none, some (some 3), some (some 4), some (some 5), some (some 6), some (some 7), none, some (some 9), some (some 10), some (some 11), some (some 12), some (some 13), some (some 14), some (some 15), some (some 16), some (some 17), some (some 18), none, some (some 20), some (some 21), some none, some none, some none, some none, some none, none, none, some none]) X hW fs_X10_65_9 dX10_init_164 (Or.inr ⟨rfl, hnm⟩) rfl ha_57 (by decide) (fun h9 => by cases h9) rfl (fun a => ⟨rfl, rfl⟩) (fun H locs hW => ?_)
  refine lv_aload_n X.1 X.2.1 dX10_init_167 rfl (lv_at hl 0 rfl) ?_
  refine lv_bipush (v := 12) X.1 X.2.1 dX10_init_168 (by decide) ?_
  refine zr_newa (ti := 0) (N' := 12) (ty := .int) X hW (zt_in (zt_t1 42 rfl) rfl) rfl rfl rfl dX10_init_170 23 (hfree 23 (by omega) (by omega)) (by decide) rfl (by decide) (Nat.le_of_ble_eq_true rfl) (Nat.le_of_ble_eq_true rfl) (fun ad_58 H had_58 hW => ?_)
  obtain ⟨g_59, hg_59⟩ : ∃ z : zm_T, z = va_up g_56 23 (fun _ => 0) := ⟨_, rfl⟩
  rw [← hg_59] at hW
  have ha_60 : ad_58 0 = ad 0 := (had_58 0 (by omega)).trans ha_57
  refine zr_putr (r := 0) (r2 := 23) (ss := [none, some (some 1), none, some (some 3), some (some 4), some (some 5), some (some 6), some (some 7), none, some (some 9), some (some 10), some (some 11), some (some 12), some (some 13), some (some 14), some (some 15), some (some 16), some (some 17), some (some 18), none, some (some 20), some (some 21), some (some 22), some none, some none, some none, some none, none, none, some none]) X hW fs_X10_68_9 dX10_init_172 (Or.inr ⟨rfl, hnm⟩) rfl ha_60 (by decide) (fun h9 => by cases h9) rfl (fun a => ⟨rfl, rfl⟩) (fun H locs hW => ?_)
  refine lv_aload_n X.1 X.2.1 dX10_init_175 rfl (lv_at hl 0 rfl) ?_
  refine lv_bipush (v := 12) X.1 X.2.1 dX10_init_176 (by decide) ?_
  refine zr_newa (ti := 0) (N' := 12) (ty := .int) X hW (zt_in (zt_t1 42 rfl) rfl) rfl rfl rfl dX10_init_178 24 (hfree 24 (by omega) (by omega)) (by decide) rfl (by decide) (Nat.le_of_ble_eq_true rfl) (Nat.le_of_ble_eq_true rfl) (fun ad_61 H had_61 hW => ?_)
  obtain ⟨g_62, hg_62⟩ : ∃ z : zm_T, z = va_up g_59 24 (fun _ => 0) := ⟨_, rfl⟩
  rw [← hg_62] at hW
  have ha_63 : ad_61 0 = ad 0 := (had_61 0 (by omega)).trans ha_60
  refine zr_putr (r := 0) (r2 := 24) (ss := [none, some (some 1), none, some (some 3), some (some 4), some (some 5), some (some 6), some (some 7), none, some (some 9), some (some 10), some (some 11), some (some 12), some (some 13), some (some 14), some (some 15), some (some 16), some (some 17), some (some 18), none, some (some 20), some (some 21), some (some 22), some (some 23), some none, some none, some none, none, none, some none]) X hW fs_X10_71_9 dX10_init_180 (Or.inr ⟨rfl, hnm⟩) rfl ha_63 (by decide) (fun h9 => by cases h9) rfl (fun a => ⟨rfl, rfl⟩) (fun H locs hW => ?_)
  refine lv_aload_n X.1 X.2.1 dX10_init_183 rfl (lv_at hl 0 rfl) ?_
  refine lv_bipush (v := 6) X.1 X.2.1 dX10_init_184 (by decide) ?_
  refine zr_newa (ti := 0) (N' := 6) (ty := .int) X hW (zt_in (zt_t1 42 rfl) rfl) rfl rfl rfl dX10_init_186 25 (hfree 25 (by omega) (by omega)) (by decide) rfl (by decide) (Nat.le_of_ble_eq_true rfl) (Nat.le_of_ble_eq_true rfl) (fun ad_64 H had_64 hW => ?_)
  obtain ⟨g_65, hg_65⟩ : ∃ z : zm_T, z = va_up g_62 25 (fun _ => 0) := ⟨_, rfl⟩
  rw [← hg_65] at hW
  have ha_66 : ad_64 0 = ad 0 := (had_64 0 (by omega)).trans ha_63
  refine zr_putr (r := 0) (r2 := 25) (ss := [none, some (some 1), none, some (some 3), some (some 4), some (some 5), some (some 6), some (some 7), none, some (some 9), some (some 10), some (some 11), some (some 12), some (some 13), some (some 14), some (some 15), some (some 16), some (some 17), some (some 18), none, some (some 20), some (some 21), some (some 22), some (some 23), some (some 24), some none, some none, none, none, some none]) X hW fs_X10_74_9 dX10_init_188 (Or.inr ⟨rfl, hnm⟩) rfl ha_66 (by decide) (fun h9 => by cases h9) rfl (fun a => ⟨rfl, rfl⟩) (fun H locs hW => ?_)
  refine lv_aload_n X.1 X.2.1 dX10_init_191 rfl (lv_at hl 0 rfl) ?_
  refine lv_iconst (v := 3) X.1 X.2.1 dX10_init_192 (by decide) ?_
  refine zr_newa (ti := 0) (N' := 3) (ty := .int) X hW (zt_in (zt_t1 42 rfl) rfl) rfl rfl rfl dX10_init_193 26 (hfree 26 (by omega) (by omega)) (by decide) rfl (by decide) (Nat.le_of_ble_eq_true rfl) (Nat.le_of_ble_eq_true rfl) (fun ad_67 H had_67 hW => ?_)
  obtain ⟨g_68, hg_68⟩ : ∃ z : zm_T, z = va_up g_65 26 (fun _ => 0) := ⟨_, rfl⟩
  rw [← hg_68] at hW
  have ha_69 : ad_67 0 = ad 0 := (had_67 0 (by omega)).trans ha_66
  refine zr_putr (r := 0) (r2 := 26) (ss := [none, some (some 1), none, some (some 3), some (some 4), some (some 5), some (some 6), some (some 7), none, some (some 9), some (some 10), some (some 11), some (some 12), some (some 13), some (some 14), some (some 15), some (some 16), some (some 17), some (some 18), none, some (some 20), some (some 21), some (some 22), some (some 23), some (some 24), some (some 25), some none, none, none, some none]) X hW fs_X10_77_9 dX10_init_195 (Or.inr ⟨rfl, hnm⟩) rfl ha_69 (by decide) (fun h9 => by cases h9) rfl (fun a => ⟨rfl, rfl⟩) (fun H locs hW => ?_)
  refine lv_aload_n X.1 X.2.1 dX10_init_198 rfl (lv_at hl 0 rfl) ?_
  refine lv_bipush (v := 12) X.1 X.2.1 dX10_init_199 (by decide) ?_
  refine zr_newa (ti := 0) (N' := 12) (ty := .int) X hW (zt_in (zt_t1 42 rfl) rfl) rfl rfl rfl dX10_init_201 29 (hfree 29 (by omega) (by omega)) (by decide) rfl (by decide) (Nat.le_of_ble_eq_true rfl) (Nat.le_of_ble_eq_true rfl) (fun ad_70 H had_70 hW => ?_)
  obtain ⟨g_71, hg_71⟩ : ∃ z : zm_T, z = va_up g_68 29 (fun _ => 0) := ⟨_, rfl⟩
  rw [← hg_71] at hW
  have ha_72 : ad_70 0 = ad 0 := (had_70 0 (by omega)).trans ha_69
  refine zr_putr (r := 0) (r2 := 29) (ss := [none, some (some 1), none, some (some 3), some (some 4), some (some 5), some (some 6), some (some 7), none, some (some 9), some (some 10), some (some 11), some (some 12), some (some 13), some (some 14), some (some 15), some (some 16), some (some 17), some (some 18), none, some (some 20), some (some 21), some (some 22), some (some 23), some (some 24), some (some 25), some (some 26), none, none, some none]) X hW fs_X10_80_9 dX10_init_203 (Or.inr ⟨rfl, hnm⟩) rfl ha_72 (by decide) (fun h9 => by cases h9) rfl (fun a => ⟨rfl, rfl⟩) (fun H locs hW => ?_)
  refine lv_aload_n X.1 X.2.1 dX10_init_206 rfl (lv_at hl 0 rfl) ?_
  refine lv_iload_n X.1 X.2.1 dX10_init_207 rfl (lv_at hl 1 rfl) ?_
  refine zr_if_ge (a := (sk).toInt) (tgt := 215) X dX10_init_208 (by decide) rfl (fun c_73 => ?_) (fun c_73 => ?_)
  · refine lv_iload_n X.1 X.2.1 dX10_init_215 rfl (lv_at hl 1 rfl) ?_
    refine lv_bipush (v := 100) X.1 X.2.1 dX10_init_216 (by decide) ?_
    refine zr_icmp_le (a := (sk).toInt) (b := 100) (tgt := 226) X dX10_init_218 (by decide) rfl (by decide) (fun c_74 => ?_) (fun c_74 => ?_)
    · refine lv_iload_n X.1 X.2.1 dX10_init_226 rfl (lv_at hl 1 rfl) ?_
      refine zr_putF (r := 0) (ss := [none, some (some 1), none, some (some 3), some (some 4), some (some 5), some (some 6), some (some 7), none, some (some 9), some (some 10), some (some 11), some (some 12), some (some 13), some (some 14), some (some 15), some (some 16), some (some 17), some (some 18), none, some (some 20), some (some 21), some (some 22), some (some 23), some (some 24), some (some 25), some (some 26), none, none, some (some 29)]) X hW fs_X10_83_9 dX10_init_227 hnm rfl ha_72 rfl rfl rfl (fun H locs hW => ?_)
      obtain ⟨g_75, hg_75⟩ : ∃ z : zm_T, z = zm_w g_71 0 0 sk := ⟨_, rfl⟩
      change zw_St Y N0 _ _ (zm_w g_71 0 0 sk) s H locs at hW
      rw [← hg_75] at hW
      refine lv_iconst (v := 0) X.1 X.2.1 dX10_init_230 (by decide) ?_
      refine lv_istore_n (lv' := [(2, .int 0), (0, .ref (ad 0)), (1, .int sk)]) X.1 X.2.1 dX10_init_231 rfl hl (by decide) rfl (fun ls hl => ?_)
      refine lv_iload_n X.1 X.2.1 dX10_init_232 rfl (lv_at hl 0 rfl) ?_
      refine lv_bipush (v := 12) X.1 X.2.1 dX10_init_233 (by decide) ?_
      refine zr_icmp_ge (a := 0) (b := 12) (tgt := 258) X dX10_init_235 (by decide) (by decide) (by decide) (fun c9 => absurd c9 (by decide)) (fun _ => ?_)
      refine lv_aload_n X.1 X.2.1 dX10_init_238 rfl (lv_at hl 1 rfl) ?_
      refine zr_get (r := 0) (ss := [none, some (some 1), none, some (some 3), some (some 4), some (some 5), some (some 6), some (some 7), none, some (some 9), some (some 10), some (some 11), some (some 12), some (some 13), some (some 14), some (some 15), some (some 16), some (some 17), some (some 18), none, some (some 20), some (some 21), some (some 22), some (some 23), some (some 24), some (some 25), some (some 26), none, none, some (some 29)]) (v := .ref (ad_70 5)) X hW fs_X10_20_9 dX10_init_239 rfl ha_72 rfl rfl ?_
      refine lv_iload_n X.1 X.2.1 dX10_init_242 rfl (lv_at hl 0 rfl) ?_
      refine lv_iconst (v := (-1)) X.1 X.2.1 dX10_init_243 (by decide) ?_
      refine zr_iast (r := 5) X hW dX10_init_244 rfl rfl rfl (zi_vp (by decide)) (fun H locs hW => ?_)
      obtain ⟨g_76, hg_76⟩ : ∃ z : zm_T, z = zm_w g_75 5 0 ((-1)) := ⟨_, rfl⟩
      change zw_St Y N0 _ _ (zm_w g_75 5 0 ((-1))) s H locs at hW
      rw [← hg_76] at hW
      refine lv_aload_n X.1 X.2.1 dX10_init_245 rfl (lv_at hl 1 rfl) ?_
      refine zr_get (r := 0) (ss := [none, some (some 1), none, some (some 3), some (some 4), some (some 5), some (some 6), some (some 7), none, some (some 9), some (some 10), some (some 11), some (some 12), some (some 13), some (some 14), some (some 15), some (some 16), some (some 17), some (some 18), none, some (some 20), some (some 21), some (some 22), some (some 23), some (some 24), some (some 25), some (some 26), none, none, some (some 29)]) (v := .ref (ad_70 23)) X hW fs_X10_68_9 dX10_init_246 rfl ha_72 rfl rfl ?_
      refine lv_iload_n X.1 X.2.1 dX10_init_249 rfl (lv_at hl 0 rfl) ?_
      refine lv_iconst (v := (-1)) X.1 X.2.1 dX10_init_250 (by decide) ?_
      refine zr_iast (r := 23) X hW dX10_init_251 rfl rfl rfl (zi_vp (by decide)) (fun H locs hW => ?_)
      obtain ⟨g_77, hg_77⟩ : ∃ z : zm_T, z = zm_w g_76 23 0 ((-1)) := ⟨_, rfl⟩
      change zw_St Y N0 _ _ (zm_w g_76 23 0 ((-1))) s H locs at hW
      rw [← hg_77] at hW
      refine lv_iinc (v := 1) (lv' := [(2, .int 1), (0, .ref (ad 0)), (1, .int sk)]) X.1 X.2.1 dX10_init_252 hl (k := 0) rfl (by decide) (by decide) rfl (fun ls hl => ?_)
      refine lv_goto (tgt := 232) X.1 X.2.1 dX10_init_255 (by decide) ?_
      refine lv_iload_n X.1 X.2.1 dX10_init_232 rfl (lv_at hl 0 rfl) ?_
      refine lv_bipush (v := 12) X.1 X.2.1 dX10_init_233 (by decide) ?_
      refine zr_icmp_ge (a := 1) (b := 12) (tgt := 258) X dX10_init_235 (by decide) (by decide) (by decide) (fun c9 => absurd c9 (by decide)) (fun _ => ?_)
      refine lv_aload_n X.1 X.2.1 dX10_init_238 rfl (lv_at hl 1 rfl) ?_
      refine zr_get (r := 0) (ss := [none, some (some 1), none, some (some 3), some (some 4), some (some 5), some (some 6), some (some 7), none, some (some 9), some (some 10), some (some 11), some (some 12), some (some 13), some (some 14), some (some 15), some (some 16), some (some 17), some (some 18), none, some (some 20), some (some 21), some (some 22), some (some 23), some (some 24), some (some 25), some (some 26), none, none, some (some 29)]) (v := .ref (ad_70 5)) X hW fs_X10_20_9 dX10_init_239 rfl ha_72 rfl rfl ?_
      refine lv_iload_n X.1 X.2.1 dX10_init_242 rfl (lv_at hl 0 rfl) ?_
      refine lv_iconst (v := (-1)) X.1 X.2.1 dX10_init_243 (by decide) ?_
      refine zr_iast (r := 5) X hW dX10_init_244 rfl rfl rfl (zi_vp (by decide)) (fun H locs hW => ?_)
      obtain ⟨g_78, hg_78⟩ : ∃ z : zm_T, z = zm_w g_77 5 1 ((-1)) := ⟨_, rfl⟩
      change zw_St Y N0 _ _ (zm_w g_77 5 1 ((-1))) s H locs at hW
      rw [← hg_78] at hW
      refine lv_aload_n X.1 X.2.1 dX10_init_245 rfl (lv_at hl 1 rfl) ?_
      refine zr_get (r := 0) (ss := [none, some (some 1), none, some (some 3), some (some 4), some (some 5), some (some 6), some (some 7), none, some (some 9), some (some 10), some (some 11), some (some 12), some (some 13), some (some 14), some (some 15), some (some 16), some (some 17), some (some 18), none, some (some 20), some (some 21), some (some 22), some (some 23), some (some 24), some (some 25), some (some 26), none, none, some (some 29)]) (v := .ref (ad_70 23)) X hW fs_X10_68_9 dX10_init_246 rfl ha_72 rfl rfl ?_
      refine lv_iload_n X.1 X.2.1 dX10_init_249 rfl (lv_at hl 0 rfl) ?_
      refine lv_iconst (v := (-1)) X.1 X.2.1 dX10_init_250 (by decide) ?_
      refine zr_iast (r := 23) X hW dX10_init_251 rfl rfl rfl (zi_vp (by decide)) (fun H locs hW => ?_)
      obtain ⟨g_79, hg_79⟩ : ∃ z : zm_T, z = zm_w g_78 23 1 ((-1)) := ⟨_, rfl⟩
      change zw_St Y N0 _ _ (zm_w g_78 23 1 ((-1))) s H locs at hW
      rw [← hg_79] at hW
      refine lv_iinc (v := 2) (lv' := [(2, .int 2), (0, .ref (ad 0)), (1, .int sk)]) X.1 X.2.1 dX10_init_252 hl (k := 0) rfl (by decide) (by decide) rfl (fun ls hl => ?_)
      refine lv_goto (tgt := 232) X.1 X.2.1 dX10_init_255 (by decide) ?_
      refine lv_iload_n X.1 X.2.1 dX10_init_232 rfl (lv_at hl 0 rfl) ?_
      refine lv_bipush (v := 12) X.1 X.2.1 dX10_init_233 (by decide) ?_
      refine zr_icmp_ge (a := 2) (b := 12) (tgt := 258) X dX10_init_235 (by decide) (by decide) (by decide) (fun c9 => absurd c9 (by decide)) (fun _ => ?_)
      refine lv_aload_n X.1 X.2.1 dX10_init_238 rfl (lv_at hl 1 rfl) ?_
      refine zr_get (r := 0) (ss := [none, some (some 1), none, some (some 3), some (some 4), some (some 5), some (some 6), some (some 7), none, some (some 9), some (some 10), some (some 11), some (some 12), some (some 13), some (some 14), some (some 15), some (some 16), some (some 17), some (some 18), none, some (some 20), some (some 21), some (some 22), some (some 23), some (some 24), some (some 25), some (some 26), none, none, some (some 29)]) (v := .ref (ad_70 5)) X hW fs_X10_20_9 dX10_init_239 rfl ha_72 rfl rfl ?_
      refine lv_iload_n X.1 X.2.1 dX10_init_242 rfl (lv_at hl 0 rfl) ?_
      refine lv_iconst (v := (-1)) X.1 X.2.1 dX10_init_243 (by decide) ?_
      refine zr_iast (r := 5) X hW dX10_init_244 rfl rfl rfl (zi_vp (by decide)) (fun H locs hW => ?_)
      obtain ⟨g_80, hg_80⟩ : ∃ z : zm_T, z = zm_w g_79 5 2 ((-1)) := ⟨_, rfl⟩
      change zw_St Y N0 _ _ (zm_w g_79 5 2 ((-1))) s H locs at hW
      rw [← hg_80] at hW
      refine lv_aload_n X.1 X.2.1 dX10_init_245 rfl (lv_at hl 1 rfl) ?_
      refine zr_get (r := 0) (ss := [none, some (some 1), none, some (some 3), some (some 4), some (some 5), some (some 6), some (some 7), none, some (some 9), some (some 10), some (some 11), some (some 12), some (some 13), some (some 14), some (some 15), some (some 16), some (some 17), some (some 18), none, some (some 20), some (some 21), some (some 22), some (some 23), some (some 24), some (some 25), some (some 26), none, none, some (some 29)]) (v := .ref (ad_70 23)) X hW fs_X10_68_9 dX10_init_246 rfl ha_72 rfl rfl ?_
      refine lv_iload_n X.1 X.2.1 dX10_init_249 rfl (lv_at hl 0 rfl) ?_
      refine lv_iconst (v := (-1)) X.1 X.2.1 dX10_init_250 (by decide) ?_
      refine zr_iast (r := 23) X hW dX10_init_251 rfl rfl rfl (zi_vp (by decide)) (fun H locs hW => ?_)
      obtain ⟨g_81, hg_81⟩ : ∃ z : zm_T, z = zm_w g_80 23 2 ((-1)) := ⟨_, rfl⟩
      change zw_St Y N0 _ _ (zm_w g_80 23 2 ((-1))) s H locs at hW
      rw [← hg_81] at hW
      refine lv_iinc (v := 3) (lv' := [(2, .int 3), (0, .ref (ad 0)), (1, .int sk)]) X.1 X.2.1 dX10_init_252 hl (k := 0) rfl (by decide) (by decide) rfl (fun ls hl => ?_)
      refine lv_goto (tgt := 232) X.1 X.2.1 dX10_init_255 (by decide) ?_
      refine lv_iload_n X.1 X.2.1 dX10_init_232 rfl (lv_at hl 0 rfl) ?_
      refine lv_bipush (v := 12) X.1 X.2.1 dX10_init_233 (by decide) ?_
      refine zr_icmp_ge (a := 3) (b := 12) (tgt := 258) X dX10_init_235 (by decide) (by decide) (by decide) (fun c9 => absurd c9 (by decide)) (fun _ => ?_)
      refine lv_aload_n X.1 X.2.1 dX10_init_238 rfl (lv_at hl 1 rfl) ?_
      refine zr_get (r := 0) (ss := [none, some (some 1), none, some (some 3), some (some 4), some (some 5), some (some 6), some (some 7), none, some (some 9), some (some 10), some (some 11), some (some 12), some (some 13), some (some 14), some (some 15), some (some 16), some (some 17), some (some 18), none, some (some 20), some (some 21), some (some 22), some (some 23), some (some 24), some (some 25), some (some 26), none, none, some (some 29)]) (v := .ref (ad_70 5)) X hW fs_X10_20_9 dX10_init_239 rfl ha_72 rfl rfl ?_
      refine lv_iload_n X.1 X.2.1 dX10_init_242 rfl (lv_at hl 0 rfl) ?_
      refine lv_iconst (v := (-1)) X.1 X.2.1 dX10_init_243 (by decide) ?_
      refine zr_iast (r := 5) X hW dX10_init_244 rfl rfl rfl (zi_vp (by decide)) (fun H locs hW => ?_)
      obtain ⟨g_82, hg_82⟩ : ∃ z : zm_T, z = zm_w g_81 5 3 ((-1)) := ⟨_, rfl⟩
      change zw_St Y N0 _ _ (zm_w g_81 5 3 ((-1))) s H locs at hW
      rw [← hg_82] at hW
      refine lv_aload_n X.1 X.2.1 dX10_init_245 rfl (lv_at hl 1 rfl) ?_
      refine zr_get (r := 0) (ss := [none, some (some 1), none, some (some 3), some (some 4), some (some 5), some (some 6), some (some 7), none, some (some 9), some (some 10), some (some 11), some (some 12), some (some 13), some (some 14), some (some 15), some (some 16), some (some 17), some (some 18), none, some (some 20), some (some 21), some (some 22), some (some 23), some (some 24), some (some 25), some (some 26), none, none, some (some 29)]) (v := .ref (ad_70 23)) X hW fs_X10_68_9 dX10_init_246 rfl ha_72 rfl rfl ?_
      refine lv_iload_n X.1 X.2.1 dX10_init_249 rfl (lv_at hl 0 rfl) ?_
      refine lv_iconst (v := (-1)) X.1 X.2.1 dX10_init_250 (by decide) ?_
      refine zr_iast (r := 23) X hW dX10_init_251 rfl rfl rfl (zi_vp (by decide)) (fun H locs hW => ?_)
      obtain ⟨g_83, hg_83⟩ : ∃ z : zm_T, z = zm_w g_82 23 3 ((-1)) := ⟨_, rfl⟩
      change zw_St Y N0 _ _ (zm_w g_82 23 3 ((-1))) s H locs at hW
      rw [← hg_83] at hW
      refine lv_iinc (v := 4) (lv' := [(2, .int 4), (0, .ref (ad 0)), (1, .int sk)]) X.1 X.2.1 dX10_init_252 hl (k := 0) rfl (by decide) (by decide) rfl (fun ls hl => ?_)
      refine lv_goto (tgt := 232) X.1 X.2.1 dX10_init_255 (by decide) ?_
      refine lv_iload_n X.1 X.2.1 dX10_init_232 rfl (lv_at hl 0 rfl) ?_
      refine lv_bipush (v := 12) X.1 X.2.1 dX10_init_233 (by decide) ?_
      refine zr_icmp_ge (a := 4) (b := 12) (tgt := 258) X dX10_init_235 (by decide) (by decide) (by decide) (fun c9 => absurd c9 (by decide)) (fun _ => ?_)
      refine lv_aload_n X.1 X.2.1 dX10_init_238 rfl (lv_at hl 1 rfl) ?_
      refine zr_get (r := 0) (ss := [none, some (some 1), none, some (some 3), some (some 4), some (some 5), some (some 6), some (some 7), none, some (some 9), some (some 10), some (some 11), some (some 12), some (some 13), some (some 14), some (some 15), some (some 16), some (some 17), some (some 18), none, some (some 20), some (some 21), some (some 22), some (some 23), some (some 24), some (some 25), some (some 26), none, none, some (some 29)]) (v := .ref (ad_70 5)) X hW fs_X10_20_9 dX10_init_239 rfl ha_72 rfl rfl ?_
      refine lv_iload_n X.1 X.2.1 dX10_init_242 rfl (lv_at hl 0 rfl) ?_
      refine lv_iconst (v := (-1)) X.1 X.2.1 dX10_init_243 (by decide) ?_
      refine zr_iast (r := 5) X hW dX10_init_244 rfl rfl rfl (zi_vp (by decide)) (fun H locs hW => ?_)
      obtain ⟨g_84, hg_84⟩ : ∃ z : zm_T, z = zm_w g_83 5 4 ((-1)) := ⟨_, rfl⟩
      change zw_St Y N0 _ _ (zm_w g_83 5 4 ((-1))) s H locs at hW
      rw [← hg_84] at hW
      refine lv_aload_n X.1 X.2.1 dX10_init_245 rfl (lv_at hl 1 rfl) ?_
      refine zr_get (r := 0) (ss := [none, some (some 1), none, some (some 3), some (some 4), some (some 5), some (some 6), some (some 7), none, some (some 9), some (some 10), some (some 11), some (some 12), some (some 13), some (some 14), some (some 15), some (some 16), some (some 17), some (some 18), none, some (some 20), some (some 21), some (some 22), some (some 23), some (some 24), some (some 25), some (some 26), none, none, some (some 29)]) (v := .ref (ad_70 23)) X hW fs_X10_68_9 dX10_init_246 rfl ha_72 rfl rfl ?_
      refine lv_iload_n X.1 X.2.1 dX10_init_249 rfl (lv_at hl 0 rfl) ?_
      refine lv_iconst (v := (-1)) X.1 X.2.1 dX10_init_250 (by decide) ?_
      refine zr_iast (r := 23) X hW dX10_init_251 rfl rfl rfl (zi_vp (by decide)) (fun H locs hW => ?_)
      obtain ⟨g_85, hg_85⟩ : ∃ z : zm_T, z = zm_w g_84 23 4 ((-1)) := ⟨_, rfl⟩
      change zw_St Y N0 _ _ (zm_w g_84 23 4 ((-1))) s H locs at hW
      rw [← hg_85] at hW
      refine lv_iinc (v := 5) (lv' := [(2, .int 5), (0, .ref (ad 0)), (1, .int sk)]) X.1 X.2.1 dX10_init_252 hl (k := 0) rfl (by decide) (by decide) rfl (fun ls hl => ?_)
      refine lv_goto (tgt := 232) X.1 X.2.1 dX10_init_255 (by decide) ?_
      refine lv_iload_n X.1 X.2.1 dX10_init_232 rfl (lv_at hl 0 rfl) ?_
      refine lv_bipush (v := 12) X.1 X.2.1 dX10_init_233 (by decide) ?_
      refine zr_icmp_ge (a := 5) (b := 12) (tgt := 258) X dX10_init_235 (by decide) (by decide) (by decide) (fun c9 => absurd c9 (by decide)) (fun _ => ?_)
      refine lv_aload_n X.1 X.2.1 dX10_init_238 rfl (lv_at hl 1 rfl) ?_
      refine zr_get (r := 0) (ss := [none, some (some 1), none, some (some 3), some (some 4), some (some 5), some (some 6), some (some 7), none, some (some 9), some (some 10), some (some 11), some (some 12), some (some 13), some (some 14), some (some 15), some (some 16), some (some 17), some (some 18), none, some (some 20), some (some 21), some (some 22), some (some 23), some (some 24), some (some 25), some (some 26), none, none, some (some 29)]) (v := .ref (ad_70 5)) X hW fs_X10_20_9 dX10_init_239 rfl ha_72 rfl rfl ?_
      refine lv_iload_n X.1 X.2.1 dX10_init_242 rfl (lv_at hl 0 rfl) ?_
      refine lv_iconst (v := (-1)) X.1 X.2.1 dX10_init_243 (by decide) ?_
      refine zr_iast (r := 5) X hW dX10_init_244 rfl rfl rfl (zi_vp (by decide)) (fun H locs hW => ?_)
      obtain ⟨g_86, hg_86⟩ : ∃ z : zm_T, z = zm_w g_85 5 5 ((-1)) := ⟨_, rfl⟩
      change zw_St Y N0 _ _ (zm_w g_85 5 5 ((-1))) s H locs at hW
      rw [← hg_86] at hW
      refine lv_aload_n X.1 X.2.1 dX10_init_245 rfl (lv_at hl 1 rfl) ?_
      refine zr_get (r := 0) (ss := [none, some (some 1), none, some (some 3), some (some 4), some (some 5), some (some 6), some (some 7), none, some (some 9), some (some 10), some (some 11), some (some 12), some (some 13), some (some 14), some (some 15), some (some 16), some (some 17), some (some 18), none, some (some 20), some (some 21), some (some 22), some (some 23), some (some 24), some (some 25), some (some 26), none, none, some (some 29)]) (v := .ref (ad_70 23)) X hW fs_X10_68_9 dX10_init_246 rfl ha_72 rfl rfl ?_
      refine lv_iload_n X.1 X.2.1 dX10_init_249 rfl (lv_at hl 0 rfl) ?_
      refine lv_iconst (v := (-1)) X.1 X.2.1 dX10_init_250 (by decide) ?_
      refine zr_iast (r := 23) X hW dX10_init_251 rfl rfl rfl (zi_vp (by decide)) (fun H locs hW => ?_)
      obtain ⟨g_87, hg_87⟩ : ∃ z : zm_T, z = zm_w g_86 23 5 ((-1)) := ⟨_, rfl⟩
      change zw_St Y N0 _ _ (zm_w g_86 23 5 ((-1))) s H locs at hW
      rw [← hg_87] at hW
      refine lv_iinc (v := 6) (lv' := [(2, .int 6), (0, .ref (ad 0)), (1, .int sk)]) X.1 X.2.1 dX10_init_252 hl (k := 0) rfl (by decide) (by decide) rfl (fun ls hl => ?_)
      refine lv_goto (tgt := 232) X.1 X.2.1 dX10_init_255 (by decide) ?_
      refine lv_iload_n X.1 X.2.1 dX10_init_232 rfl (lv_at hl 0 rfl) ?_
      refine lv_bipush (v := 12) X.1 X.2.1 dX10_init_233 (by decide) ?_
      refine zr_icmp_ge (a := 6) (b := 12) (tgt := 258) X dX10_init_235 (by decide) (by decide) (by decide) (fun c9 => absurd c9 (by decide)) (fun _ => ?_)
      refine lv_aload_n X.1 X.2.1 dX10_init_238 rfl (lv_at hl 1 rfl) ?_
      refine zr_get (r := 0) (ss := [none, some (some 1), none, some (some 3), some (some 4), some (some 5), some (some 6), some (some 7), none, some (some 9), some (some 10), some (some 11), some (some 12), some (some 13), some (some 14), some (some 15), some (some 16), some (some 17), some (some 18), none, some (some 20), some (some 21), some (some 22), some (some 23), some (some 24), some (some 25), some (some 26), none, none, some (some 29)]) (v := .ref (ad_70 5)) X hW fs_X10_20_9 dX10_init_239 rfl ha_72 rfl rfl ?_
      refine lv_iload_n X.1 X.2.1 dX10_init_242 rfl (lv_at hl 0 rfl) ?_
      refine lv_iconst (v := (-1)) X.1 X.2.1 dX10_init_243 (by decide) ?_
      refine zr_iast (r := 5) X hW dX10_init_244 rfl rfl rfl (zi_vp (by decide)) (fun H locs hW => ?_)
      obtain ⟨g_88, hg_88⟩ : ∃ z : zm_T, z = zm_w g_87 5 6 ((-1)) := ⟨_, rfl⟩
      change zw_St Y N0 _ _ (zm_w g_87 5 6 ((-1))) s H locs at hW
      rw [← hg_88] at hW
      refine lv_aload_n X.1 X.2.1 dX10_init_245 rfl (lv_at hl 1 rfl) ?_
      refine zr_get (r := 0) (ss := [none, some (some 1), none, some (some 3), some (some 4), some (some 5), some (some 6), some (some 7), none, some (some 9), some (some 10), some (some 11), some (some 12), some (some 13), some (some 14), some (some 15), some (some 16), some (some 17), some (some 18), none, some (some 20), some (some 21), some (some 22), some (some 23), some (some 24), some (some 25), some (some 26), none, none, some (some 29)]) (v := .ref (ad_70 23)) X hW fs_X10_68_9 dX10_init_246 rfl ha_72 rfl rfl ?_
      refine lv_iload_n X.1 X.2.1 dX10_init_249 rfl (lv_at hl 0 rfl) ?_
      refine lv_iconst (v := (-1)) X.1 X.2.1 dX10_init_250 (by decide) ?_
      refine zr_iast (r := 23) X hW dX10_init_251 rfl rfl rfl (zi_vp (by decide)) (fun H locs hW => ?_)
      obtain ⟨g_89, hg_89⟩ : ∃ z : zm_T, z = zm_w g_88 23 6 ((-1)) := ⟨_, rfl⟩
      change zw_St Y N0 _ _ (zm_w g_88 23 6 ((-1))) s H locs at hW
      rw [← hg_89] at hW
      refine lv_iinc (v := 7) (lv' := [(2, .int 7), (0, .ref (ad 0)), (1, .int sk)]) X.1 X.2.1 dX10_init_252 hl (k := 0) rfl (by decide) (by decide) rfl (fun ls hl => ?_)
      refine lv_goto (tgt := 232) X.1 X.2.1 dX10_init_255 (by decide) ?_
      refine lv_iload_n X.1 X.2.1 dX10_init_232 rfl (lv_at hl 0 rfl) ?_
      refine lv_bipush (v := 12) X.1 X.2.1 dX10_init_233 (by decide) ?_
      refine zr_icmp_ge (a := 7) (b := 12) (tgt := 258) X dX10_init_235 (by decide) (by decide) (by decide) (fun c9 => absurd c9 (by decide)) (fun _ => ?_)
      refine lv_aload_n X.1 X.2.1 dX10_init_238 rfl (lv_at hl 1 rfl) ?_
      refine zr_get (r := 0) (ss := [none, some (some 1), none, some (some 3), some (some 4), some (some 5), some (some 6), some (some 7), none, some (some 9), some (some 10), some (some 11), some (some 12), some (some 13), some (some 14), some (some 15), some (some 16), some (some 17), some (some 18), none, some (some 20), some (some 21), some (some 22), some (some 23), some (some 24), some (some 25), some (some 26), none, none, some (some 29)]) (v := .ref (ad_70 5)) X hW fs_X10_20_9 dX10_init_239 rfl ha_72 rfl rfl ?_
      refine lv_iload_n X.1 X.2.1 dX10_init_242 rfl (lv_at hl 0 rfl) ?_
      refine lv_iconst (v := (-1)) X.1 X.2.1 dX10_init_243 (by decide) ?_
      refine zr_iast (r := 5) X hW dX10_init_244 rfl rfl rfl (zi_vp (by decide)) (fun H locs hW => ?_)
      obtain ⟨g_90, hg_90⟩ : ∃ z : zm_T, z = zm_w g_89 5 7 ((-1)) := ⟨_, rfl⟩
      change zw_St Y N0 _ _ (zm_w g_89 5 7 ((-1))) s H locs at hW
      rw [← hg_90] at hW
      refine lv_aload_n X.1 X.2.1 dX10_init_245 rfl (lv_at hl 1 rfl) ?_
      refine zr_get (r := 0) (ss := [none, some (some 1), none, some (some 3), some (some 4), some (some 5), some (some 6), some (some 7), none, some (some 9), some (some 10), some (some 11), some (some 12), some (some 13), some (some 14), some (some 15), some (some 16), some (some 17), some (some 18), none, some (some 20), some (some 21), some (some 22), some (some 23), some (some 24), some (some 25), some (some 26), none, none, some (some 29)]) (v := .ref (ad_70 23)) X hW fs_X10_68_9 dX10_init_246 rfl ha_72 rfl rfl ?_
      refine lv_iload_n X.1 X.2.1 dX10_init_249 rfl (lv_at hl 0 rfl) ?_
      refine lv_iconst (v := (-1)) X.1 X.2.1 dX10_init_250 (by decide) ?_
      refine zr_iast (r := 23) X hW dX10_init_251 rfl rfl rfl (zi_vp (by decide)) (fun H locs hW => ?_)
      obtain ⟨g_91, hg_91⟩ : ∃ z : zm_T, z = zm_w g_90 23 7 ((-1)) := ⟨_, rfl⟩
      change zw_St Y N0 _ _ (zm_w g_90 23 7 ((-1))) s H locs at hW
      rw [← hg_91] at hW
      refine lv_iinc (v := 8) (lv' := [(2, .int 8), (0, .ref (ad 0)), (1, .int sk)]) X.1 X.2.1 dX10_init_252 hl (k := 0) rfl (by decide) (by decide) rfl (fun ls hl => ?_)
      refine lv_goto (tgt := 232) X.1 X.2.1 dX10_init_255 (by decide) ?_
      refine lv_iload_n X.1 X.2.1 dX10_init_232 rfl (lv_at hl 0 rfl) ?_
      refine lv_bipush (v := 12) X.1 X.2.1 dX10_init_233 (by decide) ?_
      refine zr_icmp_ge (a := 8) (b := 12) (tgt := 258) X dX10_init_235 (by decide) (by decide) (by decide) (fun c9 => absurd c9 (by decide)) (fun _ => ?_)
      refine lv_aload_n X.1 X.2.1 dX10_init_238 rfl (lv_at hl 1 rfl) ?_
      refine zr_get (r := 0) (ss := [none, some (some 1), none, some (some 3), some (some 4), some (some 5), some (some 6), some (some 7), none, some (some 9), some (some 10), some (some 11), some (some 12), some (some 13), some (some 14), some (some 15), some (some 16), some (some 17), some (some 18), none, some (some 20), some (some 21), some (some 22), some (some 23), some (some 24), some (some 25), some (some 26), none, none, some (some 29)]) (v := .ref (ad_70 5)) X hW fs_X10_20_9 dX10_init_239 rfl ha_72 rfl rfl ?_
      refine lv_iload_n X.1 X.2.1 dX10_init_242 rfl (lv_at hl 0 rfl) ?_
      refine lv_iconst (v := (-1)) X.1 X.2.1 dX10_init_243 (by decide) ?_
      refine zr_iast (r := 5) X hW dX10_init_244 rfl rfl rfl (zi_vp (by decide)) (fun H locs hW => ?_)
      obtain ⟨g_92, hg_92⟩ : ∃ z : zm_T, z = zm_w g_91 5 8 ((-1)) := ⟨_, rfl⟩
      change zw_St Y N0 _ _ (zm_w g_91 5 8 ((-1))) s H locs at hW
      rw [← hg_92] at hW
      refine lv_aload_n X.1 X.2.1 dX10_init_245 rfl (lv_at hl 1 rfl) ?_
      refine zr_get (r := 0) (ss := [none, some (some 1), none, some (some 3), some (some 4), some (some 5), some (some 6), some (some 7), none, some (some 9), some (some 10), some (some 11), some (some 12), some (some 13), some (some 14), some (some 15), some (some 16), some (some 17), some (some 18), none, some (some 20), some (some 21), some (some 22), some (some 23), some (some 24), some (some 25), some (some 26), none, none, some (some 29)]) (v := .ref (ad_70 23)) X hW fs_X10_68_9 dX10_init_246 rfl ha_72 rfl rfl ?_
      refine lv_iload_n X.1 X.2.1 dX10_init_249 rfl (lv_at hl 0 rfl) ?_
      refine lv_iconst (v := (-1)) X.1 X.2.1 dX10_init_250 (by decide) ?_
      refine zr_iast (r := 23) X hW dX10_init_251 rfl rfl rfl (zi_vp (by decide)) (fun H locs hW => ?_)
      obtain ⟨g_93, hg_93⟩ : ∃ z : zm_T, z = zm_w g_92 23 8 ((-1)) := ⟨_, rfl⟩
      change zw_St Y N0 _ _ (zm_w g_92 23 8 ((-1))) s H locs at hW
      rw [← hg_93] at hW
      refine lv_iinc (v := 9) (lv' := [(2, .int 9), (0, .ref (ad 0)), (1, .int sk)]) X.1 X.2.1 dX10_init_252 hl (k := 0) rfl (by decide) (by decide) rfl (fun ls hl => ?_)
      refine lv_goto (tgt := 232) X.1 X.2.1 dX10_init_255 (by decide) ?_
      refine lv_iload_n X.1 X.2.1 dX10_init_232 rfl (lv_at hl 0 rfl) ?_
      refine lv_bipush (v := 12) X.1 X.2.1 dX10_init_233 (by decide) ?_
      refine zr_icmp_ge (a := 9) (b := 12) (tgt := 258) X dX10_init_235 (by decide) (by decide) (by decide) (fun c9 => absurd c9 (by decide)) (fun _ => ?_)
      refine lv_aload_n X.1 X.2.1 dX10_init_238 rfl (lv_at hl 1 rfl) ?_
      refine zr_get (r := 0) (ss := [none, some (some 1), none, some (some 3), some (some 4), some (some 5), some (some 6), some (some 7), none, some (some 9), some (some 10), some (some 11), some (some 12), some (some 13), some (some 14), some (some 15), some (some 16), some (some 17), some (some 18), none, some (some 20), some (some 21), some (some 22), some (some 23), some (some 24), some (some 25), some (some 26), none, none, some (some 29)]) (v := .ref (ad_70 5)) X hW fs_X10_20_9 dX10_init_239 rfl ha_72 rfl rfl ?_
      refine lv_iload_n X.1 X.2.1 dX10_init_242 rfl (lv_at hl 0 rfl) ?_
      refine lv_iconst (v := (-1)) X.1 X.2.1 dX10_init_243 (by decide) ?_
      refine zr_iast (r := 5) X hW dX10_init_244 rfl rfl rfl (zi_vp (by decide)) (fun H locs hW => ?_)
      obtain ⟨g_94, hg_94⟩ : ∃ z : zm_T, z = zm_w g_93 5 9 ((-1)) := ⟨_, rfl⟩
      change zw_St Y N0 _ _ (zm_w g_93 5 9 ((-1))) s H locs at hW
      rw [← hg_94] at hW
      refine lv_aload_n X.1 X.2.1 dX10_init_245 rfl (lv_at hl 1 rfl) ?_
      refine zr_get (r := 0) (ss := [none, some (some 1), none, some (some 3), some (some 4), some (some 5), some (some 6), some (some 7), none, some (some 9), some (some 10), some (some 11), some (some 12), some (some 13), some (some 14), some (some 15), some (some 16), some (some 17), some (some 18), none, some (some 20), some (some 21), some (some 22), some (some 23), some (some 24), some (some 25), some (some 26), none, none, some (some 29)]) (v := .ref (ad_70 23)) X hW fs_X10_68_9 dX10_init_246 rfl ha_72 rfl rfl ?_
      refine lv_iload_n X.1 X.2.1 dX10_init_249 rfl (lv_at hl 0 rfl) ?_
      refine lv_iconst (v := (-1)) X.1 X.2.1 dX10_init_250 (by decide) ?_
      refine zr_iast (r := 23) X hW dX10_init_251 rfl rfl rfl (zi_vp (by decide)) (fun H locs hW => ?_)
      obtain ⟨g_95, hg_95⟩ : ∃ z : zm_T, z = zm_w g_94 23 9 ((-1)) := ⟨_, rfl⟩
      change zw_St Y N0 _ _ (zm_w g_94 23 9 ((-1))) s H locs at hW
      rw [← hg_95] at hW
      refine lv_iinc (v := 10) (lv' := [(2, .int 10), (0, .ref (ad 0)), (1, .int sk)]) X.1 X.2.1 dX10_init_252 hl (k := 0) rfl (by decide) (by decide) rfl (fun ls hl => ?_)
      refine lv_goto (tgt := 232) X.1 X.2.1 dX10_init_255 (by decide) ?_
      refine lv_iload_n X.1 X.2.1 dX10_init_232 rfl (lv_at hl 0 rfl) ?_
      refine lv_bipush (v := 12) X.1 X.2.1 dX10_init_233 (by decide) ?_
      refine zr_icmp_ge (a := 10) (b := 12) (tgt := 258) X dX10_init_235 (by decide) (by decide) (by decide) (fun c9 => absurd c9 (by decide)) (fun _ => ?_)
      refine lv_aload_n X.1 X.2.1 dX10_init_238 rfl (lv_at hl 1 rfl) ?_
      refine zr_get (r := 0) (ss := [none, some (some 1), none, some (some 3), some (some 4), some (some 5), some (some 6), some (some 7), none, some (some 9), some (some 10), some (some 11), some (some 12), some (some 13), some (some 14), some (some 15), some (some 16), some (some 17), some (some 18), none, some (some 20), some (some 21), some (some 22), some (some 23), some (some 24), some (some 25), some (some 26), none, none, some (some 29)]) (v := .ref (ad_70 5)) X hW fs_X10_20_9 dX10_init_239 rfl ha_72 rfl rfl ?_
      refine lv_iload_n X.1 X.2.1 dX10_init_242 rfl (lv_at hl 0 rfl) ?_
      refine lv_iconst (v := (-1)) X.1 X.2.1 dX10_init_243 (by decide) ?_
      refine zr_iast (r := 5) X hW dX10_init_244 rfl rfl rfl (zi_vp (by decide)) (fun H locs hW => ?_)
      obtain ⟨g_96, hg_96⟩ : ∃ z : zm_T, z = zm_w g_95 5 10 ((-1)) := ⟨_, rfl⟩
      change zw_St Y N0 _ _ (zm_w g_95 5 10 ((-1))) s H locs at hW
      rw [← hg_96] at hW
      refine lv_aload_n X.1 X.2.1 dX10_init_245 rfl (lv_at hl 1 rfl) ?_
      refine zr_get (r := 0) (ss := [none, some (some 1), none, some (some 3), some (some 4), some (some 5), some (some 6), some (some 7), none, some (some 9), some (some 10), some (some 11), some (some 12), some (some 13), some (some 14), some (some 15), some (some 16), some (some 17), some (some 18), none, some (some 20), some (some 21), some (some 22), some (some 23), some (some 24), some (some 25), some (some 26), none, none, some (some 29)]) (v := .ref (ad_70 23)) X hW fs_X10_68_9 dX10_init_246 rfl ha_72 rfl rfl ?_
      refine lv_iload_n X.1 X.2.1 dX10_init_249 rfl (lv_at hl 0 rfl) ?_
      refine lv_iconst (v := (-1)) X.1 X.2.1 dX10_init_250 (by decide) ?_
      refine zr_iast (r := 23) X hW dX10_init_251 rfl rfl rfl (zi_vp (by decide)) (fun H locs hW => ?_)
      obtain ⟨g_97, hg_97⟩ : ∃ z : zm_T, z = zm_w g_96 23 10 ((-1)) := ⟨_, rfl⟩
      change zw_St Y N0 _ _ (zm_w g_96 23 10 ((-1))) s H locs at hW
      rw [← hg_97] at hW
      refine lv_iinc (v := 11) (lv' := [(2, .int 11), (0, .ref (ad 0)), (1, .int sk)]) X.1 X.2.1 dX10_init_252 hl (k := 0) rfl (by decide) (by decide) rfl (fun ls hl => ?_)
      refine lv_goto (tgt := 232) X.1 X.2.1 dX10_init_255 (by decide) ?_
      refine lv_iload_n X.1 X.2.1 dX10_init_232 rfl (lv_at hl 0 rfl) ?_
      refine lv_bipush (v := 12) X.1 X.2.1 dX10_init_233 (by decide) ?_
      refine zr_icmp_ge (a := 11) (b := 12) (tgt := 258) X dX10_init_235 (by decide) (by decide) (by decide) (fun c9 => absurd c9 (by decide)) (fun _ => ?_)
      refine lv_aload_n X.1 X.2.1 dX10_init_238 rfl (lv_at hl 1 rfl) ?_
      refine zr_get (r := 0) (ss := [none, some (some 1), none, some (some 3), some (some 4), some (some 5), some (some 6), some (some 7), none, some (some 9), some (some 10), some (some 11), some (some 12), some (some 13), some (some 14), some (some 15), some (some 16), some (some 17), some (some 18), none, some (some 20), some (some 21), some (some 22), some (some 23), some (some 24), some (some 25), some (some 26), none, none, some (some 29)]) (v := .ref (ad_70 5)) X hW fs_X10_20_9 dX10_init_239 rfl ha_72 rfl rfl ?_
      refine lv_iload_n X.1 X.2.1 dX10_init_242 rfl (lv_at hl 0 rfl) ?_
      refine lv_iconst (v := (-1)) X.1 X.2.1 dX10_init_243 (by decide) ?_
      refine zr_iast (r := 5) X hW dX10_init_244 rfl rfl rfl (zi_vp (by decide)) (fun H locs hW => ?_)
      obtain ⟨g_98, hg_98⟩ : ∃ z : zm_T, z = zm_w g_97 5 11 ((-1)) := ⟨_, rfl⟩
      change zw_St Y N0 _ _ (zm_w g_97 5 11 ((-1))) s H locs at hW
      rw [← hg_98] at hW
      refine lv_aload_n X.1 X.2.1 dX10_init_245 rfl (lv_at hl 1 rfl) ?_
      refine zr_get (r := 0) (ss := [none, some (some 1), none, some (some 3), some (some 4), some (some 5), some (some 6), some (some 7), none, some (some 9), some (some 10), some (some 11), some (some 12), some (some 13), some (some 14), some (some 15), some (some 16), some (some 17), some (some 18), none, some (some 20), some (some 21), some (some 22), some (some 23), some (some 24), some (some 25), some (some 26), none, none, some (some 29)]) (v := .ref (ad_70 23)) X hW fs_X10_68_9 dX10_init_246 rfl ha_72 rfl rfl ?_
      refine lv_iload_n X.1 X.2.1 dX10_init_249 rfl (lv_at hl 0 rfl) ?_
      refine lv_iconst (v := (-1)) X.1 X.2.1 dX10_init_250 (by decide) ?_
      refine zr_iast (r := 23) X hW dX10_init_251 rfl rfl rfl (zi_vp (by decide)) (fun H locs hW => ?_)
      obtain ⟨g_99, hg_99⟩ : ∃ z : zm_T, z = zm_w g_98 23 11 ((-1)) := ⟨_, rfl⟩
      change zw_St Y N0 _ _ (zm_w g_98 23 11 ((-1))) s H locs at hW
      rw [← hg_99] at hW
      refine lv_iinc (v := 12) (lv' := [(2, .int 12), (0, .ref (ad 0)), (1, .int sk)]) X.1 X.2.1 dX10_init_252 hl (k := 0) rfl (by decide) (by decide) rfl (fun ls hl => ?_)
      refine lv_goto (tgt := 232) X.1 X.2.1 dX10_init_255 (by decide) ?_
      refine lv_iload_n X.1 X.2.1 dX10_init_232 rfl (lv_at hl 0 rfl) ?_
      refine lv_bipush (v := 12) X.1 X.2.1 dX10_init_233 (by decide) ?_
      refine zr_icmp_ge (a := 12) (b := 12) (tgt := 258) X dX10_init_235 (by decide) (by decide) (by decide) (fun _ => ?_) (fun c9 => absurd c9 (by decide))
      refine lv_iconst (v := 0) X.1 X.2.1 dX10_init_258 (by decide) ?_
      refine lv_istore_n (lv' := [(2, .int 0), (0, .ref (ad 0)), (1, .int sk)]) X.1 X.2.1 dX10_init_259 rfl hl (by decide) rfl (fun ls hl => ?_)
      refine lv_iload_n X.1 X.2.1 dX10_init_260 rfl (lv_at hl 0 rfl) ?_
      refine lv_bipush (v := 6) X.1 X.2.1 dX10_init_261 (by decide) ?_
      refine zr_icmp_ge (a := 0) (b := 6) (tgt := 279) X dX10_init_263 (by decide) (by decide) (by decide) (fun c9 => absurd c9 (by decide)) (fun _ => ?_)
      refine lv_aload_n X.1 X.2.1 dX10_init_266 rfl (lv_at hl 1 rfl) ?_
      refine zr_get (r := 0) (ss := [none, some (some 1), none, some (some 3), some (some 4), some (some 5), some (some 6), some (some 7), none, some (some 9), some (some 10), some (some 11), some (some 12), some (some 13), some (some 14), some (some 15), some (some 16), some (some 17), some (some 18), none, some (some 20), some (some 21), some (some 22), some (some 23), some (some 24), some (some 25), some (some 26), none, none, some (some 29)]) (v := .ref (ad_70 3)) X hW fs_X10_13_9 dX10_init_267 rfl ha_72 rfl rfl ?_
      refine lv_iload_n X.1 X.2.1 dX10_init_270 rfl (lv_at hl 0 rfl) ?_
      refine lv_iconst (v := (-1)) X.1 X.2.1 dX10_init_271 (by decide) ?_
      refine zr_iast (r := 3) X hW dX10_init_272 rfl rfl rfl (zi_vp (by decide)) (fun H locs hW => ?_)
      obtain ⟨g_100, hg_100⟩ : ∃ z : zm_T, z = zm_w g_99 3 0 ((-1)) := ⟨_, rfl⟩
      change zw_St Y N0 _ _ (zm_w g_99 3 0 ((-1))) s H locs at hW
      rw [← hg_100] at hW
      refine lv_iinc (v := 1) (lv' := [(2, .int 1), (0, .ref (ad 0)), (1, .int sk)]) X.1 X.2.1 dX10_init_273 hl (k := 0) rfl (by decide) (by decide) rfl (fun ls hl => ?_)
      refine lv_goto (tgt := 260) X.1 X.2.1 dX10_init_276 (by decide) ?_
      refine lv_iload_n X.1 X.2.1 dX10_init_260 rfl (lv_at hl 0 rfl) ?_
      refine lv_bipush (v := 6) X.1 X.2.1 dX10_init_261 (by decide) ?_
      refine zr_icmp_ge (a := 1) (b := 6) (tgt := 279) X dX10_init_263 (by decide) (by decide) (by decide) (fun c9 => absurd c9 (by decide)) (fun _ => ?_)
      refine lv_aload_n X.1 X.2.1 dX10_init_266 rfl (lv_at hl 1 rfl) ?_
      refine zr_get (r := 0) (ss := [none, some (some 1), none, some (some 3), some (some 4), some (some 5), some (some 6), some (some 7), none, some (some 9), some (some 10), some (some 11), some (some 12), some (some 13), some (some 14), some (some 15), some (some 16), some (some 17), some (some 18), none, some (some 20), some (some 21), some (some 22), some (some 23), some (some 24), some (some 25), some (some 26), none, none, some (some 29)]) (v := .ref (ad_70 3)) X hW fs_X10_13_9 dX10_init_267 rfl ha_72 rfl rfl ?_
      refine lv_iload_n X.1 X.2.1 dX10_init_270 rfl (lv_at hl 0 rfl) ?_
      refine lv_iconst (v := (-1)) X.1 X.2.1 dX10_init_271 (by decide) ?_
      refine zr_iast (r := 3) X hW dX10_init_272 rfl rfl rfl (zi_vp (by decide)) (fun H locs hW => ?_)
      obtain ⟨g_101, hg_101⟩ : ∃ z : zm_T, z = zm_w g_100 3 1 ((-1)) := ⟨_, rfl⟩
      change zw_St Y N0 _ _ (zm_w g_100 3 1 ((-1))) s H locs at hW
      rw [← hg_101] at hW
      refine lv_iinc (v := 2) (lv' := [(2, .int 2), (0, .ref (ad 0)), (1, .int sk)]) X.1 X.2.1 dX10_init_273 hl (k := 0) rfl (by decide) (by decide) rfl (fun ls hl => ?_)
      refine lv_goto (tgt := 260) X.1 X.2.1 dX10_init_276 (by decide) ?_
      refine lv_iload_n X.1 X.2.1 dX10_init_260 rfl (lv_at hl 0 rfl) ?_
      refine lv_bipush (v := 6) X.1 X.2.1 dX10_init_261 (by decide) ?_
      refine zr_icmp_ge (a := 2) (b := 6) (tgt := 279) X dX10_init_263 (by decide) (by decide) (by decide) (fun c9 => absurd c9 (by decide)) (fun _ => ?_)
      refine lv_aload_n X.1 X.2.1 dX10_init_266 rfl (lv_at hl 1 rfl) ?_
      refine zr_get (r := 0) (ss := [none, some (some 1), none, some (some 3), some (some 4), some (some 5), some (some 6), some (some 7), none, some (some 9), some (some 10), some (some 11), some (some 12), some (some 13), some (some 14), some (some 15), some (some 16), some (some 17), some (some 18), none, some (some 20), some (some 21), some (some 22), some (some 23), some (some 24), some (some 25), some (some 26), none, none, some (some 29)]) (v := .ref (ad_70 3)) X hW fs_X10_13_9 dX10_init_267 rfl ha_72 rfl rfl ?_
      refine lv_iload_n X.1 X.2.1 dX10_init_270 rfl (lv_at hl 0 rfl) ?_
      refine lv_iconst (v := (-1)) X.1 X.2.1 dX10_init_271 (by decide) ?_
      refine zr_iast (r := 3) X hW dX10_init_272 rfl rfl rfl (zi_vp (by decide)) (fun H locs hW => ?_)
      obtain ⟨g_102, hg_102⟩ : ∃ z : zm_T, z = zm_w g_101 3 2 ((-1)) := ⟨_, rfl⟩
      change zw_St Y N0 _ _ (zm_w g_101 3 2 ((-1))) s H locs at hW
      rw [← hg_102] at hW
      refine lv_iinc (v := 3) (lv' := [(2, .int 3), (0, .ref (ad 0)), (1, .int sk)]) X.1 X.2.1 dX10_init_273 hl (k := 0) rfl (by decide) (by decide) rfl (fun ls hl => ?_)
      refine lv_goto (tgt := 260) X.1 X.2.1 dX10_init_276 (by decide) ?_
      refine lv_iload_n X.1 X.2.1 dX10_init_260 rfl (lv_at hl 0 rfl) ?_
      refine lv_bipush (v := 6) X.1 X.2.1 dX10_init_261 (by decide) ?_
      refine zr_icmp_ge (a := 3) (b := 6) (tgt := 279) X dX10_init_263 (by decide) (by decide) (by decide) (fun c9 => absurd c9 (by decide)) (fun _ => ?_)
      refine lv_aload_n X.1 X.2.1 dX10_init_266 rfl (lv_at hl 1 rfl) ?_
      refine zr_get (r := 0) (ss := [none, some (some 1), none, some (some 3), some (some 4), some (some 5), some (some 6), some (some 7), none, some (some 9), some (some 10), some (some 11), some (some 12), some (some 13), some (some 14), some (some 15), some (some 16), some (some 17), some (some 18), none, some (some 20), some (some 21), some (some 22), some (some 23), some (some 24), some (some 25), some (some 26), none, none, some (some 29)]) (v := .ref (ad_70 3)) X hW fs_X10_13_9 dX10_init_267 rfl ha_72 rfl rfl ?_
      refine lv_iload_n X.1 X.2.1 dX10_init_270 rfl (lv_at hl 0 rfl) ?_
      refine lv_iconst (v := (-1)) X.1 X.2.1 dX10_init_271 (by decide) ?_
      refine zr_iast (r := 3) X hW dX10_init_272 rfl rfl rfl (zi_vp (by decide)) (fun H locs hW => ?_)
      obtain ⟨g_103, hg_103⟩ : ∃ z : zm_T, z = zm_w g_102 3 3 ((-1)) := ⟨_, rfl⟩
      change zw_St Y N0 _ _ (zm_w g_102 3 3 ((-1))) s H locs at hW
      rw [← hg_103] at hW
      refine lv_iinc (v := 4) (lv' := [(2, .int 4), (0, .ref (ad 0)), (1, .int sk)]) X.1 X.2.1 dX10_init_273 hl (k := 0) rfl (by decide) (by decide) rfl (fun ls hl => ?_)
      refine lv_goto (tgt := 260) X.1 X.2.1 dX10_init_276 (by decide) ?_
      refine lv_iload_n X.1 X.2.1 dX10_init_260 rfl (lv_at hl 0 rfl) ?_
      refine lv_bipush (v := 6) X.1 X.2.1 dX10_init_261 (by decide) ?_
      refine zr_icmp_ge (a := 4) (b := 6) (tgt := 279) X dX10_init_263 (by decide) (by decide) (by decide) (fun c9 => absurd c9 (by decide)) (fun _ => ?_)
      refine lv_aload_n X.1 X.2.1 dX10_init_266 rfl (lv_at hl 1 rfl) ?_
      refine zr_get (r := 0) (ss := [none, some (some 1), none, some (some 3), some (some 4), some (some 5), some (some 6), some (some 7), none, some (some 9), some (some 10), some (some 11), some (some 12), some (some 13), some (some 14), some (some 15), some (some 16), some (some 17), some (some 18), none, some (some 20), some (some 21), some (some 22), some (some 23), some (some 24), some (some 25), some (some 26), none, none, some (some 29)]) (v := .ref (ad_70 3)) X hW fs_X10_13_9 dX10_init_267 rfl ha_72 rfl rfl ?_
      refine lv_iload_n X.1 X.2.1 dX10_init_270 rfl (lv_at hl 0 rfl) ?_
      refine lv_iconst (v := (-1)) X.1 X.2.1 dX10_init_271 (by decide) ?_
      refine zr_iast (r := 3) X hW dX10_init_272 rfl rfl rfl (zi_vp (by decide)) (fun H locs hW => ?_)
      obtain ⟨g_104, hg_104⟩ : ∃ z : zm_T, z = zm_w g_103 3 4 ((-1)) := ⟨_, rfl⟩
      change zw_St Y N0 _ _ (zm_w g_103 3 4 ((-1))) s H locs at hW
      rw [← hg_104] at hW
      refine lv_iinc (v := 5) (lv' := [(2, .int 5), (0, .ref (ad 0)), (1, .int sk)]) X.1 X.2.1 dX10_init_273 hl (k := 0) rfl (by decide) (by decide) rfl (fun ls hl => ?_)
      refine lv_goto (tgt := 260) X.1 X.2.1 dX10_init_276 (by decide) ?_
      refine lv_iload_n X.1 X.2.1 dX10_init_260 rfl (lv_at hl 0 rfl) ?_
      refine lv_bipush (v := 6) X.1 X.2.1 dX10_init_261 (by decide) ?_
      refine zr_icmp_ge (a := 5) (b := 6) (tgt := 279) X dX10_init_263 (by decide) (by decide) (by decide) (fun c9 => absurd c9 (by decide)) (fun _ => ?_)
      refine lv_aload_n X.1 X.2.1 dX10_init_266 rfl (lv_at hl 1 rfl) ?_
      refine zr_get (r := 0) (ss := [none, some (some 1), none, some (some 3), some (some 4), some (some 5), some (some 6), some (some 7), none, some (some 9), some (some 10), some (some 11), some (some 12), some (some 13), some (some 14), some (some 15), some (some 16), some (some 17), some (some 18), none, some (some 20), some (some 21), some (some 22), some (some 23), some (some 24), some (some 25), some (some 26), none, none, some (some 29)]) (v := .ref (ad_70 3)) X hW fs_X10_13_9 dX10_init_267 rfl ha_72 rfl rfl ?_
      refine lv_iload_n X.1 X.2.1 dX10_init_270 rfl (lv_at hl 0 rfl) ?_
      refine lv_iconst (v := (-1)) X.1 X.2.1 dX10_init_271 (by decide) ?_
      refine zr_iast (r := 3) X hW dX10_init_272 rfl rfl rfl (zi_vp (by decide)) (fun H locs hW => ?_)
      obtain ⟨g_105, hg_105⟩ : ∃ z : zm_T, z = zm_w g_104 3 5 ((-1)) := ⟨_, rfl⟩
      change zw_St Y N0 _ _ (zm_w g_104 3 5 ((-1))) s H locs at hW
      rw [← hg_105] at hW
      refine lv_iinc (v := 6) (lv' := [(2, .int 6), (0, .ref (ad 0)), (1, .int sk)]) X.1 X.2.1 dX10_init_273 hl (k := 0) rfl (by decide) (by decide) rfl (fun ls hl => ?_)
      refine lv_goto (tgt := 260) X.1 X.2.1 dX10_init_276 (by decide) ?_
      refine lv_iload_n X.1 X.2.1 dX10_init_260 rfl (lv_at hl 0 rfl) ?_
      refine lv_bipush (v := 6) X.1 X.2.1 dX10_init_261 (by decide) ?_
      refine zr_icmp_ge (a := 6) (b := 6) (tgt := 279) X dX10_init_263 (by decide) (by decide) (by decide) (fun _ => ?_) (fun c9 => absurd c9 (by decide))
      have ev : zs_sk sk = sk := by unfold zs_sk; (repeat (first | rw [if_pos (by omega)] | rw [if_neg (by omega)]))
      have eg : g_105 = zm_mix (zs_u0 (zs_sk sk)) g := by rw [hg_105, hg_104, hg_103, hg_102, hg_101, hg_100, hg_99, hg_98, hg_97, hg_96, hg_95, hg_94, hg_93, hg_92, hg_91, hg_90, hg_89, hg_88, hg_87, hg_86, hg_85, hg_84, hg_83, hg_82, hg_81, hg_80, hg_79, hg_78, hg_77, hg_76, hg_75, hg_71, hg_68, hg_65, hg_62, hg_59, hg_56, hg_53, hg_50, hg_47, hg_44, hg_41, hg_38, hg_35, hg_32, hg_29, hg_26, hg_23, hg_20, hg_17, hg_14, hg_11, hg_8, hg_5, hg_2, ev]; exact zm_G0 g hg0 sk
      rw [eg] at hW
      exact zr_vret X hW dX10_init_279 (Nat.le_of_ble_eq_true rfl) (Nat.le_of_ble_eq_true rfl) ⟨rfl, zm_S0 sh, rfl, fun r h => ((had_70 r (by omega)).trans ((had_67 r (by omega)).trans ((had_64 r (by omega)).trans ((had_61 r (by omega)).trans ((had_58 r (by omega)).trans ((had_55 r (by omega)).trans ((had_52 r (by omega)).trans ((had_49 r (by omega)).trans ((had_46 r (by omega)).trans ((had_43 r (by omega)).trans ((had_40 r (by omega)).trans ((had_37 r (by omega)).trans ((had_34 r (by omega)).trans ((had_31 r (by omega)).trans ((had_28 r (by omega)).trans ((had_25 r (by omega)).trans ((had_22 r (by omega)).trans ((had_19 r (by omega)).trans ((had_16 r (by omega)).trans ((had_13 r (by omega)).trans ((had_10 r (by omega)).trans ((had_7 r (by omega)).trans ((had_4 r (by omega)).trans (had_1 r (by omega))))))))))))))))))))))))), fun r h => zm_sh0r h⟩
    · refine lv_bipush (v := 100) X.1 X.2.1 dX10_init_221 (by decide) ?_
      refine lv_goto (tgt := 227) X.1 X.2.1 dX10_init_223 (by decide) ?_
      refine zr_putF (r := 0) (ss := [none, some (some 1), none, some (some 3), some (some 4), some (some 5), some (some 6), some (some 7), none, some (some 9), some (some 10), some (some 11), some (some 12), some (some 13), some (some 14), some (some 15), some (some 16), some (some 17), some (some 18), none, some (some 20), some (some 21), some (some 22), some (some 23), some (some 24), some (some 25), some (some 26), none, none, some (some 29)]) X hW fs_X10_83_9 dX10_init_227 hnm rfl ha_72 rfl rfl rfl (fun H locs hW => ?_)
      obtain ⟨g_106, hg_106⟩ : ∃ z : zm_T, z = zm_w g_71 0 0 100 := ⟨_, rfl⟩
      change zw_St Y N0 _ _ (zm_w g_71 0 0 100) s H locs at hW
      rw [← hg_106] at hW
      refine lv_iconst (v := 0) X.1 X.2.1 dX10_init_230 (by decide) ?_
      refine lv_istore_n (lv' := [(2, .int 0), (0, .ref (ad 0)), (1, .int sk)]) X.1 X.2.1 dX10_init_231 rfl hl (by decide) rfl (fun ls hl => ?_)
      refine lv_iload_n X.1 X.2.1 dX10_init_232 rfl (lv_at hl 0 rfl) ?_
      refine lv_bipush (v := 12) X.1 X.2.1 dX10_init_233 (by decide) ?_
      refine zr_icmp_ge (a := 0) (b := 12) (tgt := 258) X dX10_init_235 (by decide) (by decide) (by decide) (fun c9 => absurd c9 (by decide)) (fun _ => ?_)
      refine lv_aload_n X.1 X.2.1 dX10_init_238 rfl (lv_at hl 1 rfl) ?_
      refine zr_get (r := 0) (ss := [none, some (some 1), none, some (some 3), some (some 4), some (some 5), some (some 6), some (some 7), none, some (some 9), some (some 10), some (some 11), some (some 12), some (some 13), some (some 14), some (some 15), some (some 16), some (some 17), some (some 18), none, some (some 20), some (some 21), some (some 22), some (some 23), some (some 24), some (some 25), some (some 26), none, none, some (some 29)]) (v := .ref (ad_70 5)) X hW fs_X10_20_9 dX10_init_239 rfl ha_72 rfl rfl ?_
      refine lv_iload_n X.1 X.2.1 dX10_init_242 rfl (lv_at hl 0 rfl) ?_
      refine lv_iconst (v := (-1)) X.1 X.2.1 dX10_init_243 (by decide) ?_
      refine zr_iast (r := 5) X hW dX10_init_244 rfl rfl rfl (zi_vp (by decide)) (fun H locs hW => ?_)
      obtain ⟨g_107, hg_107⟩ : ∃ z : zm_T, z = zm_w g_106 5 0 ((-1)) := ⟨_, rfl⟩
      change zw_St Y N0 _ _ (zm_w g_106 5 0 ((-1))) s H locs at hW
      rw [← hg_107] at hW
      refine lv_aload_n X.1 X.2.1 dX10_init_245 rfl (lv_at hl 1 rfl) ?_
      refine zr_get (r := 0) (ss := [none, some (some 1), none, some (some 3), some (some 4), some (some 5), some (some 6), some (some 7), none, some (some 9), some (some 10), some (some 11), some (some 12), some (some 13), some (some 14), some (some 15), some (some 16), some (some 17), some (some 18), none, some (some 20), some (some 21), some (some 22), some (some 23), some (some 24), some (some 25), some (some 26), none, none, some (some 29)]) (v := .ref (ad_70 23)) X hW fs_X10_68_9 dX10_init_246 rfl ha_72 rfl rfl ?_
      refine lv_iload_n X.1 X.2.1 dX10_init_249 rfl (lv_at hl 0 rfl) ?_
      refine lv_iconst (v := (-1)) X.1 X.2.1 dX10_init_250 (by decide) ?_
      refine zr_iast (r := 23) X hW dX10_init_251 rfl rfl rfl (zi_vp (by decide)) (fun H locs hW => ?_)
      obtain ⟨g_108, hg_108⟩ : ∃ z : zm_T, z = zm_w g_107 23 0 ((-1)) := ⟨_, rfl⟩
      change zw_St Y N0 _ _ (zm_w g_107 23 0 ((-1))) s H locs at hW
      rw [← hg_108] at hW
      refine lv_iinc (v := 1) (lv' := [(2, .int 1), (0, .ref (ad 0)), (1, .int sk)]) X.1 X.2.1 dX10_init_252 hl (k := 0) rfl (by decide) (by decide) rfl (fun ls hl => ?_)
      refine lv_goto (tgt := 232) X.1 X.2.1 dX10_init_255 (by decide) ?_
      refine lv_iload_n X.1 X.2.1 dX10_init_232 rfl (lv_at hl 0 rfl) ?_
      refine lv_bipush (v := 12) X.1 X.2.1 dX10_init_233 (by decide) ?_
      refine zr_icmp_ge (a := 1) (b := 12) (tgt := 258) X dX10_init_235 (by decide) (by decide) (by decide) (fun c9 => absurd c9 (by decide)) (fun _ => ?_)
      refine lv_aload_n X.1 X.2.1 dX10_init_238 rfl (lv_at hl 1 rfl) ?_
      refine zr_get (r := 0) (ss := [none, some (some 1), none, some (some 3), some (some 4), some (some 5), some (some 6), some (some 7), none, some (some 9), some (some 10), some (some 11), some (some 12), some (some 13), some (some 14), some (some 15), some (some 16), some (some 17), some (some 18), none, some (some 20), some (some 21), some (some 22), some (some 23), some (some 24), some (some 25), some (some 26), none, none, some (some 29)]) (v := .ref (ad_70 5)) X hW fs_X10_20_9 dX10_init_239 rfl ha_72 rfl rfl ?_
      refine lv_iload_n X.1 X.2.1 dX10_init_242 rfl (lv_at hl 0 rfl) ?_
      refine lv_iconst (v := (-1)) X.1 X.2.1 dX10_init_243 (by decide) ?_
      refine zr_iast (r := 5) X hW dX10_init_244 rfl rfl rfl (zi_vp (by decide)) (fun H locs hW => ?_)
      obtain ⟨g_109, hg_109⟩ : ∃ z : zm_T, z = zm_w g_108 5 1 ((-1)) := ⟨_, rfl⟩
      change zw_St Y N0 _ _ (zm_w g_108 5 1 ((-1))) s H locs at hW
      rw [← hg_109] at hW
      refine lv_aload_n X.1 X.2.1 dX10_init_245 rfl (lv_at hl 1 rfl) ?_
      refine zr_get (r := 0) (ss := [none, some (some 1), none, some (some 3), some (some 4), some (some 5), some (some 6), some (some 7), none, some (some 9), some (some 10), some (some 11), some (some 12), some (some 13), some (some 14), some (some 15), some (some 16), some (some 17), some (some 18), none, some (some 20), some (some 21), some (some 22), some (some 23), some (some 24), some (some 25), some (some 26), none, none, some (some 29)]) (v := .ref (ad_70 23)) X hW fs_X10_68_9 dX10_init_246 rfl ha_72 rfl rfl ?_
      refine lv_iload_n X.1 X.2.1 dX10_init_249 rfl (lv_at hl 0 rfl) ?_
      refine lv_iconst (v := (-1)) X.1 X.2.1 dX10_init_250 (by decide) ?_
      refine zr_iast (r := 23) X hW dX10_init_251 rfl rfl rfl (zi_vp (by decide)) (fun H locs hW => ?_)
      obtain ⟨g_110, hg_110⟩ : ∃ z : zm_T, z = zm_w g_109 23 1 ((-1)) := ⟨_, rfl⟩
      change zw_St Y N0 _ _ (zm_w g_109 23 1 ((-1))) s H locs at hW
      rw [← hg_110] at hW
      refine lv_iinc (v := 2) (lv' := [(2, .int 2), (0, .ref (ad 0)), (1, .int sk)]) X.1 X.2.1 dX10_init_252 hl (k := 0) rfl (by decide) (by decide) rfl (fun ls hl => ?_)
      refine lv_goto (tgt := 232) X.1 X.2.1 dX10_init_255 (by decide) ?_
      refine lv_iload_n X.1 X.2.1 dX10_init_232 rfl (lv_at hl 0 rfl) ?_
      refine lv_bipush (v := 12) X.1 X.2.1 dX10_init_233 (by decide) ?_
      refine zr_icmp_ge (a := 2) (b := 12) (tgt := 258) X dX10_init_235 (by decide) (by decide) (by decide) (fun c9 => absurd c9 (by decide)) (fun _ => ?_)
      refine lv_aload_n X.1 X.2.1 dX10_init_238 rfl (lv_at hl 1 rfl) ?_
      refine zr_get (r := 0) (ss := [none, some (some 1), none, some (some 3), some (some 4), some (some 5), some (some 6), some (some 7), none, some (some 9), some (some 10), some (some 11), some (some 12), some (some 13), some (some 14), some (some 15), some (some 16), some (some 17), some (some 18), none, some (some 20), some (some 21), some (some 22), some (some 23), some (some 24), some (some 25), some (some 26), none, none, some (some 29)]) (v := .ref (ad_70 5)) X hW fs_X10_20_9 dX10_init_239 rfl ha_72 rfl rfl ?_
      refine lv_iload_n X.1 X.2.1 dX10_init_242 rfl (lv_at hl 0 rfl) ?_
      refine lv_iconst (v := (-1)) X.1 X.2.1 dX10_init_243 (by decide) ?_
      refine zr_iast (r := 5) X hW dX10_init_244 rfl rfl rfl (zi_vp (by decide)) (fun H locs hW => ?_)
      obtain ⟨g_111, hg_111⟩ : ∃ z : zm_T, z = zm_w g_110 5 2 ((-1)) := ⟨_, rfl⟩
      change zw_St Y N0 _ _ (zm_w g_110 5 2 ((-1))) s H locs at hW
      rw [← hg_111] at hW
      refine lv_aload_n X.1 X.2.1 dX10_init_245 rfl (lv_at hl 1 rfl) ?_
      refine zr_get (r := 0) (ss := [none, some (some 1), none, some (some 3), some (some 4), some (some 5), some (some 6), some (some 7), none, some (some 9), some (some 10), some (some 11), some (some 12), some (some 13), some (some 14), some (some 15), some (some 16), some (some 17), some (some 18), none, some (some 20), some (some 21), some (some 22), some (some 23), some (some 24), some (some 25), some (some 26), none, none, some (some 29)]) (v := .ref (ad_70 23)) X hW fs_X10_68_9 dX10_init_246 rfl ha_72 rfl rfl ?_
      refine lv_iload_n X.1 X.2.1 dX10_init_249 rfl (lv_at hl 0 rfl) ?_
      refine lv_iconst (v := (-1)) X.1 X.2.1 dX10_init_250 (by decide) ?_
      refine zr_iast (r := 23) X hW dX10_init_251 rfl rfl rfl (zi_vp (by decide)) (fun H locs hW => ?_)
      obtain ⟨g_112, hg_112⟩ : ∃ z : zm_T, z = zm_w g_111 23 2 ((-1)) := ⟨_, rfl⟩
      change zw_St Y N0 _ _ (zm_w g_111 23 2 ((-1))) s H locs at hW
      rw [← hg_112] at hW
      refine lv_iinc (v := 3) (lv' := [(2, .int 3), (0, .ref (ad 0)), (1, .int sk)]) X.1 X.2.1 dX10_init_252 hl (k := 0) rfl (by decide) (by decide) rfl (fun ls hl => ?_)
      refine lv_goto (tgt := 232) X.1 X.2.1 dX10_init_255 (by decide) ?_
      refine lv_iload_n X.1 X.2.1 dX10_init_232 rfl (lv_at hl 0 rfl) ?_
      refine lv_bipush (v := 12) X.1 X.2.1 dX10_init_233 (by decide) ?_
      refine zr_icmp_ge (a := 3) (b := 12) (tgt := 258) X dX10_init_235 (by decide) (by decide) (by decide) (fun c9 => absurd c9 (by decide)) (fun _ => ?_)
      refine lv_aload_n X.1 X.2.1 dX10_init_238 rfl (lv_at hl 1 rfl) ?_
      refine zr_get (r := 0) (ss := [none, some (some 1), none, some (some 3), some (some 4), some (some 5), some (some 6), some (some 7), none, some (some 9), some (some 10), some (some 11), some (some 12), some (some 13), some (some 14), some (some 15), some (some 16), some (some 17), some (some 18), none, some (some 20), some (some 21), some (some 22), some (some 23), some (some 24), some (some 25), some (some 26), none, none, some (some 29)]) (v := .ref (ad_70 5)) X hW fs_X10_20_9 dX10_init_239 rfl ha_72 rfl rfl ?_
      refine lv_iload_n X.1 X.2.1 dX10_init_242 rfl (lv_at hl 0 rfl) ?_
      refine lv_iconst (v := (-1)) X.1 X.2.1 dX10_init_243 (by decide) ?_
      refine zr_iast (r := 5) X hW dX10_init_244 rfl rfl rfl (zi_vp (by decide)) (fun H locs hW => ?_)
      obtain ⟨g_113, hg_113⟩ : ∃ z : zm_T, z = zm_w g_112 5 3 ((-1)) := ⟨_, rfl⟩
      change zw_St Y N0 _ _ (zm_w g_112 5 3 ((-1))) s H locs at hW
      rw [← hg_113] at hW
      refine lv_aload_n X.1 X.2.1 dX10_init_245 rfl (lv_at hl 1 rfl) ?_
      refine zr_get (r := 0) (ss := [none, some (some 1), none, some (some 3), some (some 4), some (some 5), some (some 6), some (some 7), none, some (some 9), some (some 10), some (some 11), some (some 12), some (some 13), some (some 14), some (some 15), some (some 16), some (some 17), some (some 18), none, some (some 20), some (some 21), some (some 22), some (some 23), some (some 24), some (some 25), some (some 26), none, none, some (some 29)]) (v := .ref (ad_70 23)) X hW fs_X10_68_9 dX10_init_246 rfl ha_72 rfl rfl ?_
      refine lv_iload_n X.1 X.2.1 dX10_init_249 rfl (lv_at hl 0 rfl) ?_
      refine lv_iconst (v := (-1)) X.1 X.2.1 dX10_init_250 (by decide) ?_
      refine zr_iast (r := 23) X hW dX10_init_251 rfl rfl rfl (zi_vp (by decide)) (fun H locs hW => ?_)
      obtain ⟨g_114, hg_114⟩ : ∃ z : zm_T, z = zm_w g_113 23 3 ((-1)) := ⟨_, rfl⟩
      change zw_St Y N0 _ _ (zm_w g_113 23 3 ((-1))) s H locs at hW
      rw [← hg_114] at hW
      refine lv_iinc (v := 4) (lv' := [(2, .int 4), (0, .ref (ad 0)), (1, .int sk)]) X.1 X.2.1 dX10_init_252 hl (k := 0) rfl (by decide) (by decide) rfl (fun ls hl => ?_)
      refine lv_goto (tgt := 232) X.1 X.2.1 dX10_init_255 (by decide) ?_
      refine lv_iload_n X.1 X.2.1 dX10_init_232 rfl (lv_at hl 0 rfl) ?_
      refine lv_bipush (v := 12) X.1 X.2.1 dX10_init_233 (by decide) ?_
      refine zr_icmp_ge (a := 4) (b := 12) (tgt := 258) X dX10_init_235 (by decide) (by decide) (by decide) (fun c9 => absurd c9 (by decide)) (fun _ => ?_)
      refine lv_aload_n X.1 X.2.1 dX10_init_238 rfl (lv_at hl 1 rfl) ?_
      refine zr_get (r := 0) (ss := [none, some (some 1), none, some (some 3), some (some 4), some (some 5), some (some 6), some (some 7), none, some (some 9), some (some 10), some (some 11), some (some 12), some (some 13), some (some 14), some (some 15), some (some 16), some (some 17), some (some 18), none, some (some 20), some (some 21), some (some 22), some (some 23), some (some 24), some (some 25), some (some 26), none, none, some (some 29)]) (v := .ref (ad_70 5)) X hW fs_X10_20_9 dX10_init_239 rfl ha_72 rfl rfl ?_
      refine lv_iload_n X.1 X.2.1 dX10_init_242 rfl (lv_at hl 0 rfl) ?_
      refine lv_iconst (v := (-1)) X.1 X.2.1 dX10_init_243 (by decide) ?_
      refine zr_iast (r := 5) X hW dX10_init_244 rfl rfl rfl (zi_vp (by decide)) (fun H locs hW => ?_)
      obtain ⟨g_115, hg_115⟩ : ∃ z : zm_T, z = zm_w g_114 5 4 ((-1)) := ⟨_, rfl⟩
      change zw_St Y N0 _ _ (zm_w g_114 5 4 ((-1))) s H locs at hW
      rw [← hg_115] at hW
      refine lv_aload_n X.1 X.2.1 dX10_init_245 rfl (lv_at hl 1 rfl) ?_
      refine zr_get (r := 0) (ss := [none, some (some 1), none, some (some 3), some (some 4), some (some 5), some (some 6), some (some 7), none, some (some 9), some (some 10), some (some 11), some (some 12), some (some 13), some (some 14), some (some 15), some (some 16), some (some 17), some (some 18), none, some (some 20), some (some 21), some (some 22), some (some 23), some (some 24), some (some 25), some (some 26), none, none, some (some 29)]) (v := .ref (ad_70 23)) X hW fs_X10_68_9 dX10_init_246 rfl ha_72 rfl rfl ?_
      refine lv_iload_n X.1 X.2.1 dX10_init_249 rfl (lv_at hl 0 rfl) ?_
      refine lv_iconst (v := (-1)) X.1 X.2.1 dX10_init_250 (by decide) ?_
      refine zr_iast (r := 23) X hW dX10_init_251 rfl rfl rfl (zi_vp (by decide)) (fun H locs hW => ?_)
      obtain ⟨g_116, hg_116⟩ : ∃ z : zm_T, z = zm_w g_115 23 4 ((-1)) := ⟨_, rfl⟩
      change zw_St Y N0 _ _ (zm_w g_115 23 4 ((-1))) s H locs at hW
      rw [← hg_116] at hW
      refine lv_iinc (v := 5) (lv' := [(2, .int 5), (0, .ref (ad 0)), (1, .int sk)]) X.1 X.2.1 dX10_init_252 hl (k := 0) rfl (by decide) (by decide) rfl (fun ls hl => ?_)
      refine lv_goto (tgt := 232) X.1 X.2.1 dX10_init_255 (by decide) ?_
      refine lv_iload_n X.1 X.2.1 dX10_init_232 rfl (lv_at hl 0 rfl) ?_
      refine lv_bipush (v := 12) X.1 X.2.1 dX10_init_233 (by decide) ?_
      refine zr_icmp_ge (a := 5) (b := 12) (tgt := 258) X dX10_init_235 (by decide) (by decide) (by decide) (fun c9 => absurd c9 (by decide)) (fun _ => ?_)
      refine lv_aload_n X.1 X.2.1 dX10_init_238 rfl (lv_at hl 1 rfl) ?_
      refine zr_get (r := 0) (ss := [none, some (some 1), none, some (some 3), some (some 4), some (some 5), some (some 6), some (some 7), none, some (some 9), some (some 10), some (some 11), some (some 12), some (some 13), some (some 14), some (some 15), some (some 16), some (some 17), some (some 18), none, some (some 20), some (some 21), some (some 22), some (some 23), some (some 24), some (some 25), some (some 26), none, none, some (some 29)]) (v := .ref (ad_70 5)) X hW fs_X10_20_9 dX10_init_239 rfl ha_72 rfl rfl ?_
      refine lv_iload_n X.1 X.2.1 dX10_init_242 rfl (lv_at hl 0 rfl) ?_
      refine lv_iconst (v := (-1)) X.1 X.2.1 dX10_init_243 (by decide) ?_
      refine zr_iast (r := 5) X hW dX10_init_244 rfl rfl rfl (zi_vp (by decide)) (fun H locs hW => ?_)
      obtain ⟨g_117, hg_117⟩ : ∃ z : zm_T, z = zm_w g_116 5 5 ((-1)) := ⟨_, rfl⟩
      change zw_St Y N0 _ _ (zm_w g_116 5 5 ((-1))) s H locs at hW
      rw [← hg_117] at hW
      refine lv_aload_n X.1 X.2.1 dX10_init_245 rfl (lv_at hl 1 rfl) ?_
      refine zr_get (r := 0) (ss := [none, some (some 1), none, some (some 3), some (some 4), some (some 5), some (some 6), some (some 7), none, some (some 9), some (some 10), some (some 11), some (some 12), some (some 13), some (some 14), some (some 15), some (some 16), some (some 17), some (some 18), none, some (some 20), some (some 21), some (some 22), some (some 23), some (some 24), some (some 25), some (some 26), none, none, some (some 29)]) (v := .ref (ad_70 23)) X hW fs_X10_68_9 dX10_init_246 rfl ha_72 rfl rfl ?_
      refine lv_iload_n X.1 X.2.1 dX10_init_249 rfl (lv_at hl 0 rfl) ?_
      refine lv_iconst (v := (-1)) X.1 X.2.1 dX10_init_250 (by decide) ?_
      refine zr_iast (r := 23) X hW dX10_init_251 rfl rfl rfl (zi_vp (by decide)) (fun H locs hW => ?_)
      obtain ⟨g_118, hg_118⟩ : ∃ z : zm_T, z = zm_w g_117 23 5 ((-1)) := ⟨_, rfl⟩
      change zw_St Y N0 _ _ (zm_w g_117 23 5 ((-1))) s H locs at hW
      rw [← hg_118] at hW
      refine lv_iinc (v := 6) (lv' := [(2, .int 6), (0, .ref (ad 0)), (1, .int sk)]) X.1 X.2.1 dX10_init_252 hl (k := 0) rfl (by decide) (by decide) rfl (fun ls hl => ?_)
      refine lv_goto (tgt := 232) X.1 X.2.1 dX10_init_255 (by decide) ?_
      refine lv_iload_n X.1 X.2.1 dX10_init_232 rfl (lv_at hl 0 rfl) ?_
      refine lv_bipush (v := 12) X.1 X.2.1 dX10_init_233 (by decide) ?_
      refine zr_icmp_ge (a := 6) (b := 12) (tgt := 258) X dX10_init_235 (by decide) (by decide) (by decide) (fun c9 => absurd c9 (by decide)) (fun _ => ?_)
      refine lv_aload_n X.1 X.2.1 dX10_init_238 rfl (lv_at hl 1 rfl) ?_
      refine zr_get (r := 0) (ss := [none, some (some 1), none, some (some 3), some (some 4), some (some 5), some (some 6), some (some 7), none, some (some 9), some (some 10), some (some 11), some (some 12), some (some 13), some (some 14), some (some 15), some (some 16), some (some 17), some (some 18), none, some (some 20), some (some 21), some (some 22), some (some 23), some (some 24), some (some 25), some (some 26), none, none, some (some 29)]) (v := .ref (ad_70 5)) X hW fs_X10_20_9 dX10_init_239 rfl ha_72 rfl rfl ?_
      refine lv_iload_n X.1 X.2.1 dX10_init_242 rfl (lv_at hl 0 rfl) ?_
      refine lv_iconst (v := (-1)) X.1 X.2.1 dX10_init_243 (by decide) ?_
      refine zr_iast (r := 5) X hW dX10_init_244 rfl rfl rfl (zi_vp (by decide)) (fun H locs hW => ?_)
      obtain ⟨g_119, hg_119⟩ : ∃ z : zm_T, z = zm_w g_118 5 6 ((-1)) := ⟨_, rfl⟩
      change zw_St Y N0 _ _ (zm_w g_118 5 6 ((-1))) s H locs at hW
      rw [← hg_119] at hW
      refine lv_aload_n X.1 X.2.1 dX10_init_245 rfl (lv_at hl 1 rfl) ?_
      refine zr_get (r := 0) (ss := [none, some (some 1), none, some (some 3), some (some 4), some (some 5), some (some 6), some (some 7), none, some (some 9), some (some 10), some (some 11), some (some 12), some (some 13), some (some 14), some (some 15), some (some 16), some (some 17), some (some 18), none, some (some 20), some (some 21), some (some 22), some (some 23), some (some 24), some (some 25), some (some 26), none, none, some (some 29)]) (v := .ref (ad_70 23)) X hW fs_X10_68_9 dX10_init_246 rfl ha_72 rfl rfl ?_
      refine lv_iload_n X.1 X.2.1 dX10_init_249 rfl (lv_at hl 0 rfl) ?_
      refine lv_iconst (v := (-1)) X.1 X.2.1 dX10_init_250 (by decide) ?_
      refine zr_iast (r := 23) X hW dX10_init_251 rfl rfl rfl (zi_vp (by decide)) (fun H locs hW => ?_)
      obtain ⟨g_120, hg_120⟩ : ∃ z : zm_T, z = zm_w g_119 23 6 ((-1)) := ⟨_, rfl⟩
      change zw_St Y N0 _ _ (zm_w g_119 23 6 ((-1))) s H locs at hW
      rw [← hg_120] at hW
      refine lv_iinc (v := 7) (lv' := [(2, .int 7), (0, .ref (ad 0)), (1, .int sk)]) X.1 X.2.1 dX10_init_252 hl (k := 0) rfl (by decide) (by decide) rfl (fun ls hl => ?_)
      refine lv_goto (tgt := 232) X.1 X.2.1 dX10_init_255 (by decide) ?_
      refine lv_iload_n X.1 X.2.1 dX10_init_232 rfl (lv_at hl 0 rfl) ?_
      refine lv_bipush (v := 12) X.1 X.2.1 dX10_init_233 (by decide) ?_
      refine zr_icmp_ge (a := 7) (b := 12) (tgt := 258) X dX10_init_235 (by decide) (by decide) (by decide) (fun c9 => absurd c9 (by decide)) (fun _ => ?_)
      refine lv_aload_n X.1 X.2.1 dX10_init_238 rfl (lv_at hl 1 rfl) ?_
      refine zr_get (r := 0) (ss := [none, some (some 1), none, some (some 3), some (some 4), some (some 5), some (some 6), some (some 7), none, some (some 9), some (some 10), some (some 11), some (some 12), some (some 13), some (some 14), some (some 15), some (some 16), some (some 17), some (some 18), none, some (some 20), some (some 21), some (some 22), some (some 23), some (some 24), some (some 25), some (some 26), none, none, some (some 29)]) (v := .ref (ad_70 5)) X hW fs_X10_20_9 dX10_init_239 rfl ha_72 rfl rfl ?_
      refine lv_iload_n X.1 X.2.1 dX10_init_242 rfl (lv_at hl 0 rfl) ?_
      refine lv_iconst (v := (-1)) X.1 X.2.1 dX10_init_243 (by decide) ?_
      refine zr_iast (r := 5) X hW dX10_init_244 rfl rfl rfl (zi_vp (by decide)) (fun H locs hW => ?_)
      obtain ⟨g_121, hg_121⟩ : ∃ z : zm_T, z = zm_w g_120 5 7 ((-1)) := ⟨_, rfl⟩
      change zw_St Y N0 _ _ (zm_w g_120 5 7 ((-1))) s H locs at hW
      rw [← hg_121] at hW
      refine lv_aload_n X.1 X.2.1 dX10_init_245 rfl (lv_at hl 1 rfl) ?_
      refine zr_get (r := 0) (ss := [none, some (some 1), none, some (some 3), some (some 4), some (some 5), some (some 6), some (some 7), none, some (some 9), some (some 10), some (some 11), some (some 12), some (some 13), some (some 14), some (some 15), some (some 16), some (some 17), some (some 18), none, some (some 20), some (some 21), some (some 22), some (some 23), some (some 24), some (some 25), some (some 26), none, none, some (some 29)]) (v := .ref (ad_70 23)) X hW fs_X10_68_9 dX10_init_246 rfl ha_72 rfl rfl ?_
      refine lv_iload_n X.1 X.2.1 dX10_init_249 rfl (lv_at hl 0 rfl) ?_
      refine lv_iconst (v := (-1)) X.1 X.2.1 dX10_init_250 (by decide) ?_
      refine zr_iast (r := 23) X hW dX10_init_251 rfl rfl rfl (zi_vp (by decide)) (fun H locs hW => ?_)
      obtain ⟨g_122, hg_122⟩ : ∃ z : zm_T, z = zm_w g_121 23 7 ((-1)) := ⟨_, rfl⟩
      change zw_St Y N0 _ _ (zm_w g_121 23 7 ((-1))) s H locs at hW
      rw [← hg_122] at hW
      refine lv_iinc (v := 8) (lv' := [(2, .int 8), (0, .ref (ad 0)), (1, .int sk)]) X.1 X.2.1 dX10_init_252 hl (k := 0) rfl (by decide) (by decide) rfl (fun ls hl => ?_)
      refine lv_goto (tgt := 232) X.1 X.2.1 dX10_init_255 (by decide) ?_
      refine lv_iload_n X.1 X.2.1 dX10_init_232 rfl (lv_at hl 0 rfl) ?_
      refine lv_bipush (v := 12) X.1 X.2.1 dX10_init_233 (by decide) ?_
      refine zr_icmp_ge (a := 8) (b := 12) (tgt := 258) X dX10_init_235 (by decide) (by decide) (by decide) (fun c9 => absurd c9 (by decide)) (fun _ => ?_)
      refine lv_aload_n X.1 X.2.1 dX10_init_238 rfl (lv_at hl 1 rfl) ?_
      refine zr_get (r := 0) (ss := [none, some (some 1), none, some (some 3), some (some 4), some (some 5), some (some 6), some (some 7), none, some (some 9), some (some 10), some (some 11), some (some 12), some (some 13), some (some 14), some (some 15), some (some 16), some (some 17), some (some 18), none, some (some 20), some (some 21), some (some 22), some (some 23), some (some 24), some (some 25), some (some 26), none, none, some (some 29)]) (v := .ref (ad_70 5)) X hW fs_X10_20_9 dX10_init_239 rfl ha_72 rfl rfl ?_
      refine lv_iload_n X.1 X.2.1 dX10_init_242 rfl (lv_at hl 0 rfl) ?_
      refine lv_iconst (v := (-1)) X.1 X.2.1 dX10_init_243 (by decide) ?_
      refine zr_iast (r := 5) X hW dX10_init_244 rfl rfl rfl (zi_vp (by decide)) (fun H locs hW => ?_)
      obtain ⟨g_123, hg_123⟩ : ∃ z : zm_T, z = zm_w g_122 5 8 ((-1)) := ⟨_, rfl⟩
      change zw_St Y N0 _ _ (zm_w g_122 5 8 ((-1))) s H locs at hW
      rw [← hg_123] at hW
      refine lv_aload_n X.1 X.2.1 dX10_init_245 rfl (lv_at hl 1 rfl) ?_
      refine zr_get (r := 0) (ss := [none, some (some 1), none, some (some 3), some (some 4), some (some 5), some (some 6), some (some 7), none, some (some 9), some (some 10), some (some 11), some (some 12), some (some 13), some (some 14), some (some 15), some (some 16), some (some 17), some (some 18), none, some (some 20), some (some 21), some (some 22), some (some 23), some (some 24), some (some 25), some (some 26), none, none, some (some 29)]) (v := .ref (ad_70 23)) X hW fs_X10_68_9 dX10_init_246 rfl ha_72 rfl rfl ?_
      refine lv_iload_n X.1 X.2.1 dX10_init_249 rfl (lv_at hl 0 rfl) ?_
      refine lv_iconst (v := (-1)) X.1 X.2.1 dX10_init_250 (by decide) ?_
      refine zr_iast (r := 23) X hW dX10_init_251 rfl rfl rfl (zi_vp (by decide)) (fun H locs hW => ?_)
      obtain ⟨g_124, hg_124⟩ : ∃ z : zm_T, z = zm_w g_123 23 8 ((-1)) := ⟨_, rfl⟩
      change zw_St Y N0 _ _ (zm_w g_123 23 8 ((-1))) s H locs at hW
      rw [← hg_124] at hW
      refine lv_iinc (v := 9) (lv' := [(2, .int 9), (0, .ref (ad 0)), (1, .int sk)]) X.1 X.2.1 dX10_init_252 hl (k := 0) rfl (by decide) (by decide) rfl (fun ls hl => ?_)
      refine lv_goto (tgt := 232) X.1 X.2.1 dX10_init_255 (by decide) ?_
      refine lv_iload_n X.1 X.2.1 dX10_init_232 rfl (lv_at hl 0 rfl) ?_
      refine lv_bipush (v := 12) X.1 X.2.1 dX10_init_233 (by decide) ?_
      refine zr_icmp_ge (a := 9) (b := 12) (tgt := 258) X dX10_init_235 (by decide) (by decide) (by decide) (fun c9 => absurd c9 (by decide)) (fun _ => ?_)
      refine lv_aload_n X.1 X.2.1 dX10_init_238 rfl (lv_at hl 1 rfl) ?_
      refine zr_get (r := 0) (ss := [none, some (some 1), none, some (some 3), some (some 4), some (some 5), some (some 6), some (some 7), none, some (some 9), some (some 10), some (some 11), some (some 12), some (some 13), some (some 14), some (some 15), some (some 16), some (some 17), some (some 18), none, some (some 20), some (some 21), some (some 22), some (some 23), some (some 24), some (some 25), some (some 26), none, none, some (some 29)]) (v := .ref (ad_70 5)) X hW fs_X10_20_9 dX10_init_239 rfl ha_72 rfl rfl ?_
      refine lv_iload_n X.1 X.2.1 dX10_init_242 rfl (lv_at hl 0 rfl) ?_
      refine lv_iconst (v := (-1)) X.1 X.2.1 dX10_init_243 (by decide) ?_
      refine zr_iast (r := 5) X hW dX10_init_244 rfl rfl rfl (zi_vp (by decide)) (fun H locs hW => ?_)
      obtain ⟨g_125, hg_125⟩ : ∃ z : zm_T, z = zm_w g_124 5 9 ((-1)) := ⟨_, rfl⟩
      change zw_St Y N0 _ _ (zm_w g_124 5 9 ((-1))) s H locs at hW
      rw [← hg_125] at hW
      refine lv_aload_n X.1 X.2.1 dX10_init_245 rfl (lv_at hl 1 rfl) ?_
      refine zr_get (r := 0) (ss := [none, some (some 1), none, some (some 3), some (some 4), some (some 5), some (some 6), some (some 7), none, some (some 9), some (some 10), some (some 11), some (some 12), some (some 13), some (some 14), some (some 15), some (some 16), some (some 17), some (some 18), none, some (some 20), some (some 21), some (some 22), some (some 23), some (some 24), some (some 25), some (some 26), none, none, some (some 29)]) (v := .ref (ad_70 23)) X hW fs_X10_68_9 dX10_init_246 rfl ha_72 rfl rfl ?_
      refine lv_iload_n X.1 X.2.1 dX10_init_249 rfl (lv_at hl 0 rfl) ?_
      refine lv_iconst (v := (-1)) X.1 X.2.1 dX10_init_250 (by decide) ?_
      refine zr_iast (r := 23) X hW dX10_init_251 rfl rfl rfl (zi_vp (by decide)) (fun H locs hW => ?_)
      obtain ⟨g_126, hg_126⟩ : ∃ z : zm_T, z = zm_w g_125 23 9 ((-1)) := ⟨_, rfl⟩
      change zw_St Y N0 _ _ (zm_w g_125 23 9 ((-1))) s H locs at hW
      rw [← hg_126] at hW
      refine lv_iinc (v := 10) (lv' := [(2, .int 10), (0, .ref (ad 0)), (1, .int sk)]) X.1 X.2.1 dX10_init_252 hl (k := 0) rfl (by decide) (by decide) rfl (fun ls hl => ?_)
      refine lv_goto (tgt := 232) X.1 X.2.1 dX10_init_255 (by decide) ?_
      refine lv_iload_n X.1 X.2.1 dX10_init_232 rfl (lv_at hl 0 rfl) ?_
      refine lv_bipush (v := 12) X.1 X.2.1 dX10_init_233 (by decide) ?_
      refine zr_icmp_ge (a := 10) (b := 12) (tgt := 258) X dX10_init_235 (by decide) (by decide) (by decide) (fun c9 => absurd c9 (by decide)) (fun _ => ?_)
      refine lv_aload_n X.1 X.2.1 dX10_init_238 rfl (lv_at hl 1 rfl) ?_
      refine zr_get (r := 0) (ss := [none, some (some 1), none, some (some 3), some (some 4), some (some 5), some (some 6), some (some 7), none, some (some 9), some (some 10), some (some 11), some (some 12), some (some 13), some (some 14), some (some 15), some (some 16), some (some 17), some (some 18), none, some (some 20), some (some 21), some (some 22), some (some 23), some (some 24), some (some 25), some (some 26), none, none, some (some 29)]) (v := .ref (ad_70 5)) X hW fs_X10_20_9 dX10_init_239 rfl ha_72 rfl rfl ?_
      refine lv_iload_n X.1 X.2.1 dX10_init_242 rfl (lv_at hl 0 rfl) ?_
      refine lv_iconst (v := (-1)) X.1 X.2.1 dX10_init_243 (by decide) ?_
      refine zr_iast (r := 5) X hW dX10_init_244 rfl rfl rfl (zi_vp (by decide)) (fun H locs hW => ?_)
      obtain ⟨g_127, hg_127⟩ : ∃ z : zm_T, z = zm_w g_126 5 10 ((-1)) := ⟨_, rfl⟩
      change zw_St Y N0 _ _ (zm_w g_126 5 10 ((-1))) s H locs at hW
      rw [← hg_127] at hW
      refine lv_aload_n X.1 X.2.1 dX10_init_245 rfl (lv_at hl 1 rfl) ?_
      refine zr_get (r := 0) (ss := [none, some (some 1), none, some (some 3), some (some 4), some (some 5), some (some 6), some (some 7), none, some (some 9), some (some 10), some (some 11), some (some 12), some (some 13), some (some 14), some (some 15), some (some 16), some (some 17), some (some 18), none, some (some 20), some (some 21), some (some 22), some (some 23), some (some 24), some (some 25), some (some 26), none, none, some (some 29)]) (v := .ref (ad_70 23)) X hW fs_X10_68_9 dX10_init_246 rfl ha_72 rfl rfl ?_
      refine lv_iload_n X.1 X.2.1 dX10_init_249 rfl (lv_at hl 0 rfl) ?_
      refine lv_iconst (v := (-1)) X.1 X.2.1 dX10_init_250 (by decide) ?_
      refine zr_iast (r := 23) X hW dX10_init_251 rfl rfl rfl (zi_vp (by decide)) (fun H locs hW => ?_)
      obtain ⟨g_128, hg_128⟩ : ∃ z : zm_T, z = zm_w g_127 23 10 ((-1)) := ⟨_, rfl⟩
      change zw_St Y N0 _ _ (zm_w g_127 23 10 ((-1))) s H locs at hW
      rw [← hg_128] at hW
      refine lv_iinc (v := 11) (lv' := [(2, .int 11), (0, .ref (ad 0)), (1, .int sk)]) X.1 X.2.1 dX10_init_252 hl (k := 0) rfl (by decide) (by decide) rfl (fun ls hl => ?_)
      refine lv_goto (tgt := 232) X.1 X.2.1 dX10_init_255 (by decide) ?_
      refine lv_iload_n X.1 X.2.1 dX10_init_232 rfl (lv_at hl 0 rfl) ?_
      refine lv_bipush (v := 12) X.1 X.2.1 dX10_init_233 (by decide) ?_
      refine zr_icmp_ge (a := 11) (b := 12) (tgt := 258) X dX10_init_235 (by decide) (by decide) (by decide) (fun c9 => absurd c9 (by decide)) (fun _ => ?_)
      refine lv_aload_n X.1 X.2.1 dX10_init_238 rfl (lv_at hl 1 rfl) ?_
      refine zr_get (r := 0) (ss := [none, some (some 1), none, some (some 3), some (some 4), some (some 5), some (some 6), some (some 7), none, some (some 9), some (some 10), some (some 11), some (some 12), some (some 13), some (some 14), some (some 15), some (some 16), some (some 17), some (some 18), none, some (some 20), some (some 21), some (some 22), some (some 23), some (some 24), some (some 25), some (some 26), none, none, some (some 29)]) (v := .ref (ad_70 5)) X hW fs_X10_20_9 dX10_init_239 rfl ha_72 rfl rfl ?_
      refine lv_iload_n X.1 X.2.1 dX10_init_242 rfl (lv_at hl 0 rfl) ?_
      refine lv_iconst (v := (-1)) X.1 X.2.1 dX10_init_243 (by decide) ?_
      refine zr_iast (r := 5) X hW dX10_init_244 rfl rfl rfl (zi_vp (by decide)) (fun H locs hW => ?_)
      obtain ⟨g_129, hg_129⟩ : ∃ z : zm_T, z = zm_w g_128 5 11 ((-1)) := ⟨_, rfl⟩
      change zw_St Y N0 _ _ (zm_w g_128 5 11 ((-1))) s H locs at hW
      rw [← hg_129] at hW
      refine lv_aload_n X.1 X.2.1 dX10_init_245 rfl (lv_at hl 1 rfl) ?_
      refine zr_get (r := 0) (ss := [none, some (some 1), none, some (some 3), some (some 4), some (some 5), some (some 6), some (some 7), none, some (some 9), some (some 10), some (some 11), some (some 12), some (some 13), some (some 14), some (some 15), some (some 16), some (some 17), some (some 18), none, some (some 20), some (some 21), some (some 22), some (some 23), some (some 24), some (some 25), some (some 26), none, none, some (some 29)]) (v := .ref (ad_70 23)) X hW fs_X10_68_9 dX10_init_246 rfl ha_72 rfl rfl ?_
      refine lv_iload_n X.1 X.2.1 dX10_init_249 rfl (lv_at hl 0 rfl) ?_
      refine lv_iconst (v := (-1)) X.1 X.2.1 dX10_init_250 (by decide) ?_
      refine zr_iast (r := 23) X hW dX10_init_251 rfl rfl rfl (zi_vp (by decide)) (fun H locs hW => ?_)
      obtain ⟨g_130, hg_130⟩ : ∃ z : zm_T, z = zm_w g_129 23 11 ((-1)) := ⟨_, rfl⟩
      change zw_St Y N0 _ _ (zm_w g_129 23 11 ((-1))) s H locs at hW
      rw [← hg_130] at hW
      refine lv_iinc (v := 12) (lv' := [(2, .int 12), (0, .ref (ad 0)), (1, .int sk)]) X.1 X.2.1 dX10_init_252 hl (k := 0) rfl (by decide) (by decide) rfl (fun ls hl => ?_)
      refine lv_goto (tgt := 232) X.1 X.2.1 dX10_init_255 (by decide) ?_
      refine lv_iload_n X.1 X.2.1 dX10_init_232 rfl (lv_at hl 0 rfl) ?_
      refine lv_bipush (v := 12) X.1 X.2.1 dX10_init_233 (by decide) ?_
      refine zr_icmp_ge (a := 12) (b := 12) (tgt := 258) X dX10_init_235 (by decide) (by decide) (by decide) (fun _ => ?_) (fun c9 => absurd c9 (by decide))
      refine lv_iconst (v := 0) X.1 X.2.1 dX10_init_258 (by decide) ?_
      refine lv_istore_n (lv' := [(2, .int 0), (0, .ref (ad 0)), (1, .int sk)]) X.1 X.2.1 dX10_init_259 rfl hl (by decide) rfl (fun ls hl => ?_)
      refine lv_iload_n X.1 X.2.1 dX10_init_260 rfl (lv_at hl 0 rfl) ?_
      refine lv_bipush (v := 6) X.1 X.2.1 dX10_init_261 (by decide) ?_
      refine zr_icmp_ge (a := 0) (b := 6) (tgt := 279) X dX10_init_263 (by decide) (by decide) (by decide) (fun c9 => absurd c9 (by decide)) (fun _ => ?_)
      refine lv_aload_n X.1 X.2.1 dX10_init_266 rfl (lv_at hl 1 rfl) ?_
      refine zr_get (r := 0) (ss := [none, some (some 1), none, some (some 3), some (some 4), some (some 5), some (some 6), some (some 7), none, some (some 9), some (some 10), some (some 11), some (some 12), some (some 13), some (some 14), some (some 15), some (some 16), some (some 17), some (some 18), none, some (some 20), some (some 21), some (some 22), some (some 23), some (some 24), some (some 25), some (some 26), none, none, some (some 29)]) (v := .ref (ad_70 3)) X hW fs_X10_13_9 dX10_init_267 rfl ha_72 rfl rfl ?_
      refine lv_iload_n X.1 X.2.1 dX10_init_270 rfl (lv_at hl 0 rfl) ?_
      refine lv_iconst (v := (-1)) X.1 X.2.1 dX10_init_271 (by decide) ?_
      refine zr_iast (r := 3) X hW dX10_init_272 rfl rfl rfl (zi_vp (by decide)) (fun H locs hW => ?_)
      obtain ⟨g_131, hg_131⟩ : ∃ z : zm_T, z = zm_w g_130 3 0 ((-1)) := ⟨_, rfl⟩
      change zw_St Y N0 _ _ (zm_w g_130 3 0 ((-1))) s H locs at hW
      rw [← hg_131] at hW
      refine lv_iinc (v := 1) (lv' := [(2, .int 1), (0, .ref (ad 0)), (1, .int sk)]) X.1 X.2.1 dX10_init_273 hl (k := 0) rfl (by decide) (by decide) rfl (fun ls hl => ?_)
      refine lv_goto (tgt := 260) X.1 X.2.1 dX10_init_276 (by decide) ?_
      refine lv_iload_n X.1 X.2.1 dX10_init_260 rfl (lv_at hl 0 rfl) ?_
      refine lv_bipush (v := 6) X.1 X.2.1 dX10_init_261 (by decide) ?_
      refine zr_icmp_ge (a := 1) (b := 6) (tgt := 279) X dX10_init_263 (by decide) (by decide) (by decide) (fun c9 => absurd c9 (by decide)) (fun _ => ?_)
      refine lv_aload_n X.1 X.2.1 dX10_init_266 rfl (lv_at hl 1 rfl) ?_
      refine zr_get (r := 0) (ss := [none, some (some 1), none, some (some 3), some (some 4), some (some 5), some (some 6), some (some 7), none, some (some 9), some (some 10), some (some 11), some (some 12), some (some 13), some (some 14), some (some 15), some (some 16), some (some 17), some (some 18), none, some (some 20), some (some 21), some (some 22), some (some 23), some (some 24), some (some 25), some (some 26), none, none, some (some 29)]) (v := .ref (ad_70 3)) X hW fs_X10_13_9 dX10_init_267 rfl ha_72 rfl rfl ?_
      refine lv_iload_n X.1 X.2.1 dX10_init_270 rfl (lv_at hl 0 rfl) ?_
      refine lv_iconst (v := (-1)) X.1 X.2.1 dX10_init_271 (by decide) ?_
      refine zr_iast (r := 3) X hW dX10_init_272 rfl rfl rfl (zi_vp (by decide)) (fun H locs hW => ?_)
      obtain ⟨g_132, hg_132⟩ : ∃ z : zm_T, z = zm_w g_131 3 1 ((-1)) := ⟨_, rfl⟩
      change zw_St Y N0 _ _ (zm_w g_131 3 1 ((-1))) s H locs at hW
      rw [← hg_132] at hW
      refine lv_iinc (v := 2) (lv' := [(2, .int 2), (0, .ref (ad 0)), (1, .int sk)]) X.1 X.2.1 dX10_init_273 hl (k := 0) rfl (by decide) (by decide) rfl (fun ls hl => ?_)
      refine lv_goto (tgt := 260) X.1 X.2.1 dX10_init_276 (by decide) ?_
      refine lv_iload_n X.1 X.2.1 dX10_init_260 rfl (lv_at hl 0 rfl) ?_
      refine lv_bipush (v := 6) X.1 X.2.1 dX10_init_261 (by decide) ?_
      refine zr_icmp_ge (a := 2) (b := 6) (tgt := 279) X dX10_init_263 (by decide) (by decide) (by decide) (fun c9 => absurd c9 (by decide)) (fun _ => ?_)
      refine lv_aload_n X.1 X.2.1 dX10_init_266 rfl (lv_at hl 1 rfl) ?_
      refine zr_get (r := 0) (ss := [none, some (some 1), none, some (some 3), some (some 4), some (some 5), some (some 6), some (some 7), none, some (some 9), some (some 10), some (some 11), some (some 12), some (some 13), some (some 14), some (some 15), some (some 16), some (some 17), some (some 18), none, some (some 20), some (some 21), some (some 22), some (some 23), some (some 24), some (some 25), some (some 26), none, none, some (some 29)]) (v := .ref (ad_70 3)) X hW fs_X10_13_9 dX10_init_267 rfl ha_72 rfl rfl ?_
      refine lv_iload_n X.1 X.2.1 dX10_init_270 rfl (lv_at hl 0 rfl) ?_
      refine lv_iconst (v := (-1)) X.1 X.2.1 dX10_init_271 (by decide) ?_
      refine zr_iast (r := 3) X hW dX10_init_272 rfl rfl rfl (zi_vp (by decide)) (fun H locs hW => ?_)
      obtain ⟨g_133, hg_133⟩ : ∃ z : zm_T, z = zm_w g_132 3 2 ((-1)) := ⟨_, rfl⟩
      change zw_St Y N0 _ _ (zm_w g_132 3 2 ((-1))) s H locs at hW
      rw [← hg_133] at hW
      refine lv_iinc (v := 3) (lv' := [(2, .int 3), (0, .ref (ad 0)), (1, .int sk)]) X.1 X.2.1 dX10_init_273 hl (k := 0) rfl (by decide) (by decide) rfl (fun ls hl => ?_)
      refine lv_goto (tgt := 260) X.1 X.2.1 dX10_init_276 (by decide) ?_
      refine lv_iload_n X.1 X.2.1 dX10_init_260 rfl (lv_at hl 0 rfl) ?_
      refine lv_bipush (v := 6) X.1 X.2.1 dX10_init_261 (by decide) ?_
      refine zr_icmp_ge (a := 3) (b := 6) (tgt := 279) X dX10_init_263 (by decide) (by decide) (by decide) (fun c9 => absurd c9 (by decide)) (fun _ => ?_)
      refine lv_aload_n X.1 X.2.1 dX10_init_266 rfl (lv_at hl 1 rfl) ?_
      refine zr_get (r := 0) (ss := [none, some (some 1), none, some (some 3), some (some 4), some (some 5), some (some 6), some (some 7), none, some (some 9), some (some 10), some (some 11), some (some 12), some (some 13), some (some 14), some (some 15), some (some 16), some (some 17), some (some 18), none, some (some 20), some (some 21), some (some 22), some (some 23), some (some 24), some (some 25), some (some 26), none, none, some (some 29)]) (v := .ref (ad_70 3)) X hW fs_X10_13_9 dX10_init_267 rfl ha_72 rfl rfl ?_
      refine lv_iload_n X.1 X.2.1 dX10_init_270 rfl (lv_at hl 0 rfl) ?_
      refine lv_iconst (v := (-1)) X.1 X.2.1 dX10_init_271 (by decide) ?_
      refine zr_iast (r := 3) X hW dX10_init_272 rfl rfl rfl (zi_vp (by decide)) (fun H locs hW => ?_)
      obtain ⟨g_134, hg_134⟩ : ∃ z : zm_T, z = zm_w g_133 3 3 ((-1)) := ⟨_, rfl⟩
      change zw_St Y N0 _ _ (zm_w g_133 3 3 ((-1))) s H locs at hW
      rw [← hg_134] at hW
      refine lv_iinc (v := 4) (lv' := [(2, .int 4), (0, .ref (ad 0)), (1, .int sk)]) X.1 X.2.1 dX10_init_273 hl (k := 0) rfl (by decide) (by decide) rfl (fun ls hl => ?_)
      refine lv_goto (tgt := 260) X.1 X.2.1 dX10_init_276 (by decide) ?_
      refine lv_iload_n X.1 X.2.1 dX10_init_260 rfl (lv_at hl 0 rfl) ?_
      refine lv_bipush (v := 6) X.1 X.2.1 dX10_init_261 (by decide) ?_
      refine zr_icmp_ge (a := 4) (b := 6) (tgt := 279) X dX10_init_263 (by decide) (by decide) (by decide) (fun c9 => absurd c9 (by decide)) (fun _ => ?_)
      refine lv_aload_n X.1 X.2.1 dX10_init_266 rfl (lv_at hl 1 rfl) ?_
      refine zr_get (r := 0) (ss := [none, some (some 1), none, some (some 3), some (some 4), some (some 5), some (some 6), some (some 7), none, some (some 9), some (some 10), some (some 11), some (some 12), some (some 13), some (some 14), some (some 15), some (some 16), some (some 17), some (some 18), none, some (some 20), some (some 21), some (some 22), some (some 23), some (some 24), some (some 25), some (some 26), none, none, some (some 29)]) (v := .ref (ad_70 3)) X hW fs_X10_13_9 dX10_init_267 rfl ha_72 rfl rfl ?_
      refine lv_iload_n X.1 X.2.1 dX10_init_270 rfl (lv_at hl 0 rfl) ?_
      refine lv_iconst (v := (-1)) X.1 X.2.1 dX10_init_271 (by decide) ?_
      refine zr_iast (r := 3) X hW dX10_init_272 rfl rfl rfl (zi_vp (by decide)) (fun H locs hW => ?_)
      obtain ⟨g_135, hg_135⟩ : ∃ z : zm_T, z = zm_w g_134 3 4 ((-1)) := ⟨_, rfl⟩
      change zw_St Y N0 _ _ (zm_w g_134 3 4 ((-1))) s H locs at hW
      rw [← hg_135] at hW
      refine lv_iinc (v := 5) (lv' := [(2, .int 5), (0, .ref (ad 0)), (1, .int sk)]) X.1 X.2.1 dX10_init_273 hl (k := 0) rfl (by decide) (by decide) rfl (fun ls hl => ?_)
      refine lv_goto (tgt := 260) X.1 X.2.1 dX10_init_276 (by decide) ?_
      refine lv_iload_n X.1 X.2.1 dX10_init_260 rfl (lv_at hl 0 rfl) ?_
      refine lv_bipush (v := 6) X.1 X.2.1 dX10_init_261 (by decide) ?_
      refine zr_icmp_ge (a := 5) (b := 6) (tgt := 279) X dX10_init_263 (by decide) (by decide) (by decide) (fun c9 => absurd c9 (by decide)) (fun _ => ?_)
      refine lv_aload_n X.1 X.2.1 dX10_init_266 rfl (lv_at hl 1 rfl) ?_
      refine zr_get (r := 0) (ss := [none, some (some 1), none, some (some 3), some (some 4), some (some 5), some (some 6), some (some 7), none, some (some 9), some (some 10), some (some 11), some (some 12), some (some 13), some (some 14), some (some 15), some (some 16), some (some 17), some (some 18), none, some (some 20), some (some 21), some (some 22), some (some 23), some (some 24), some (some 25), some (some 26), none, none, some (some 29)]) (v := .ref (ad_70 3)) X hW fs_X10_13_9 dX10_init_267 rfl ha_72 rfl rfl ?_
      refine lv_iload_n X.1 X.2.1 dX10_init_270 rfl (lv_at hl 0 rfl) ?_
      refine lv_iconst (v := (-1)) X.1 X.2.1 dX10_init_271 (by decide) ?_
      refine zr_iast (r := 3) X hW dX10_init_272 rfl rfl rfl (zi_vp (by decide)) (fun H locs hW => ?_)
      obtain ⟨g_136, hg_136⟩ : ∃ z : zm_T, z = zm_w g_135 3 5 ((-1)) := ⟨_, rfl⟩
      change zw_St Y N0 _ _ (zm_w g_135 3 5 ((-1))) s H locs at hW
      rw [← hg_136] at hW
      refine lv_iinc (v := 6) (lv' := [(2, .int 6), (0, .ref (ad 0)), (1, .int sk)]) X.1 X.2.1 dX10_init_273 hl (k := 0) rfl (by decide) (by decide) rfl (fun ls hl => ?_)
      refine lv_goto (tgt := 260) X.1 X.2.1 dX10_init_276 (by decide) ?_
      refine lv_iload_n X.1 X.2.1 dX10_init_260 rfl (lv_at hl 0 rfl) ?_
      refine lv_bipush (v := 6) X.1 X.2.1 dX10_init_261 (by decide) ?_
      refine zr_icmp_ge (a := 6) (b := 6) (tgt := 279) X dX10_init_263 (by decide) (by decide) (by decide) (fun _ => ?_) (fun c9 => absurd c9 (by decide))
      have ev : zs_sk sk = 100 := by unfold zs_sk; (repeat (first | rw [if_pos (by omega)] | rw [if_neg (by omega)]))
      have eg : g_136 = zm_mix (zs_u0 (zs_sk sk)) g := by rw [hg_136, hg_135, hg_134, hg_133, hg_132, hg_131, hg_130, hg_129, hg_128, hg_127, hg_126, hg_125, hg_124, hg_123, hg_122, hg_121, hg_120, hg_119, hg_118, hg_117, hg_116, hg_115, hg_114, hg_113, hg_112, hg_111, hg_110, hg_109, hg_108, hg_107, hg_106, hg_71, hg_68, hg_65, hg_62, hg_59, hg_56, hg_53, hg_50, hg_47, hg_44, hg_41, hg_38, hg_35, hg_32, hg_29, hg_26, hg_23, hg_20, hg_17, hg_14, hg_11, hg_8, hg_5, hg_2, ev]; exact zm_G0 g hg0 100
      rw [eg] at hW
      exact zr_vret X hW dX10_init_279 (Nat.le_of_ble_eq_true rfl) (Nat.le_of_ble_eq_true rfl) ⟨rfl, zm_S0 sh, rfl, fun r h => ((had_70 r (by omega)).trans ((had_67 r (by omega)).trans ((had_64 r (by omega)).trans ((had_61 r (by omega)).trans ((had_58 r (by omega)).trans ((had_55 r (by omega)).trans ((had_52 r (by omega)).trans ((had_49 r (by omega)).trans ((had_46 r (by omega)).trans ((had_43 r (by omega)).trans ((had_40 r (by omega)).trans ((had_37 r (by omega)).trans ((had_34 r (by omega)).trans ((had_31 r (by omega)).trans ((had_28 r (by omega)).trans ((had_25 r (by omega)).trans ((had_22 r (by omega)).trans ((had_19 r (by omega)).trans ((had_16 r (by omega)).trans ((had_13 r (by omega)).trans ((had_10 r (by omega)).trans ((had_7 r (by omega)).trans ((had_4 r (by omega)).trans (had_1 r (by omega))))))))))))))))))))))))), fun r h => zm_sh0r h⟩
  · refine lv_iconst (v := 0) X.1 X.2.1 dX10_init_211 (by decide) ?_
    refine lv_goto (tgt := 227) X.1 X.2.1 dX10_init_212 (by decide) ?_
    refine zr_putF (r := 0) (ss := [none, some (some 1), none, some (some 3), some (some 4), some (some 5), some (some 6), some (some 7), none, some (some 9), some (some 10), some (some 11), some (some 12), some (some 13), some (some 14), some (some 15), some (some 16), some (some 17), some (some 18), none, some (some 20), some (some 21), some (some 22), some (some 23), some (some 24), some (some 25), some (some 26), none, none, some (some 29)]) X hW fs_X10_83_9 dX10_init_227 hnm rfl ha_72 rfl rfl rfl (fun H locs hW => ?_)
    obtain ⟨g_137, hg_137⟩ : ∃ z : zm_T, z = zm_w g_71 0 0 0 := ⟨_, rfl⟩
    change zw_St Y N0 _ _ (zm_w g_71 0 0 0) s H locs at hW
    rw [← hg_137] at hW
    refine lv_iconst (v := 0) X.1 X.2.1 dX10_init_230 (by decide) ?_
    refine lv_istore_n (lv' := [(2, .int 0), (0, .ref (ad 0)), (1, .int sk)]) X.1 X.2.1 dX10_init_231 rfl hl (by decide) rfl (fun ls hl => ?_)
    refine lv_iload_n X.1 X.2.1 dX10_init_232 rfl (lv_at hl 0 rfl) ?_
    refine lv_bipush (v := 12) X.1 X.2.1 dX10_init_233 (by decide) ?_
    refine zr_icmp_ge (a := 0) (b := 12) (tgt := 258) X dX10_init_235 (by decide) (by decide) (by decide) (fun c9 => absurd c9 (by decide)) (fun _ => ?_)
    refine lv_aload_n X.1 X.2.1 dX10_init_238 rfl (lv_at hl 1 rfl) ?_
    refine zr_get (r := 0) (ss := [none, some (some 1), none, some (some 3), some (some 4), some (some 5), some (some 6), some (some 7), none, some (some 9), some (some 10), some (some 11), some (some 12), some (some 13), some (some 14), some (some 15), some (some 16), some (some 17), some (some 18), none, some (some 20), some (some 21), some (some 22), some (some 23), some (some 24), some (some 25), some (some 26), none, none, some (some 29)]) (v := .ref (ad_70 5)) X hW fs_X10_20_9 dX10_init_239 rfl ha_72 rfl rfl ?_
    refine lv_iload_n X.1 X.2.1 dX10_init_242 rfl (lv_at hl 0 rfl) ?_
    refine lv_iconst (v := (-1)) X.1 X.2.1 dX10_init_243 (by decide) ?_
    refine zr_iast (r := 5) X hW dX10_init_244 rfl rfl rfl (zi_vp (by decide)) (fun H locs hW => ?_)
    obtain ⟨g_138, hg_138⟩ : ∃ z : zm_T, z = zm_w g_137 5 0 ((-1)) := ⟨_, rfl⟩
    change zw_St Y N0 _ _ (zm_w g_137 5 0 ((-1))) s H locs at hW
    rw [← hg_138] at hW
    refine lv_aload_n X.1 X.2.1 dX10_init_245 rfl (lv_at hl 1 rfl) ?_
    refine zr_get (r := 0) (ss := [none, some (some 1), none, some (some 3), some (some 4), some (some 5), some (some 6), some (some 7), none, some (some 9), some (some 10), some (some 11), some (some 12), some (some 13), some (some 14), some (some 15), some (some 16), some (some 17), some (some 18), none, some (some 20), some (some 21), some (some 22), some (some 23), some (some 24), some (some 25), some (some 26), none, none, some (some 29)]) (v := .ref (ad_70 23)) X hW fs_X10_68_9 dX10_init_246 rfl ha_72 rfl rfl ?_
    refine lv_iload_n X.1 X.2.1 dX10_init_249 rfl (lv_at hl 0 rfl) ?_
    refine lv_iconst (v := (-1)) X.1 X.2.1 dX10_init_250 (by decide) ?_
    refine zr_iast (r := 23) X hW dX10_init_251 rfl rfl rfl (zi_vp (by decide)) (fun H locs hW => ?_)
    obtain ⟨g_139, hg_139⟩ : ∃ z : zm_T, z = zm_w g_138 23 0 ((-1)) := ⟨_, rfl⟩
    change zw_St Y N0 _ _ (zm_w g_138 23 0 ((-1))) s H locs at hW
    rw [← hg_139] at hW
    refine lv_iinc (v := 1) (lv' := [(2, .int 1), (0, .ref (ad 0)), (1, .int sk)]) X.1 X.2.1 dX10_init_252 hl (k := 0) rfl (by decide) (by decide) rfl (fun ls hl => ?_)
    refine lv_goto (tgt := 232) X.1 X.2.1 dX10_init_255 (by decide) ?_
    refine lv_iload_n X.1 X.2.1 dX10_init_232 rfl (lv_at hl 0 rfl) ?_
    refine lv_bipush (v := 12) X.1 X.2.1 dX10_init_233 (by decide) ?_
    refine zr_icmp_ge (a := 1) (b := 12) (tgt := 258) X dX10_init_235 (by decide) (by decide) (by decide) (fun c9 => absurd c9 (by decide)) (fun _ => ?_)
    refine lv_aload_n X.1 X.2.1 dX10_init_238 rfl (lv_at hl 1 rfl) ?_
    refine zr_get (r := 0) (ss := [none, some (some 1), none, some (some 3), some (some 4), some (some 5), some (some 6), some (some 7), none, some (some 9), some (some 10), some (some 11), some (some 12), some (some 13), some (some 14), some (some 15), some (some 16), some (some 17), some (some 18), none, some (some 20), some (some 21), some (some 22), some (some 23), some (some 24), some (some 25), some (some 26), none, none, some (some 29)]) (v := .ref (ad_70 5)) X hW fs_X10_20_9 dX10_init_239 rfl ha_72 rfl rfl ?_
    refine lv_iload_n X.1 X.2.1 dX10_init_242 rfl (lv_at hl 0 rfl) ?_
    refine lv_iconst (v := (-1)) X.1 X.2.1 dX10_init_243 (by decide) ?_
    refine zr_iast (r := 5) X hW dX10_init_244 rfl rfl rfl (zi_vp (by decide)) (fun H locs hW => ?_)
    obtain ⟨g_140, hg_140⟩ : ∃ z : zm_T, z = zm_w g_139 5 1 ((-1)) := ⟨_, rfl⟩
    change zw_St Y N0 _ _ (zm_w g_139 5 1 ((-1))) s H locs at hW
    rw [← hg_140] at hW
    refine lv_aload_n X.1 X.2.1 dX10_init_245 rfl (lv_at hl 1 rfl) ?_
    refine zr_get (r := 0) (ss := [none, some (some 1), none, some (some 3), some (some 4), some (some 5), some (some 6), some (some 7), none, some (some 9), some (some 10), some (some 11), some (some 12), some (some 13), some (some 14), some (some 15), some (some 16), some (some 17), some (some 18), none, some (some 20), some (some 21), some (some 22), some (some 23), some (some 24), some (some 25), some (some 26), none, none, some (some 29)]) (v := .ref (ad_70 23)) X hW fs_X10_68_9 dX10_init_246 rfl ha_72 rfl rfl ?_
    refine lv_iload_n X.1 X.2.1 dX10_init_249 rfl (lv_at hl 0 rfl) ?_
    refine lv_iconst (v := (-1)) X.1 X.2.1 dX10_init_250 (by decide) ?_
    refine zr_iast (r := 23) X hW dX10_init_251 rfl rfl rfl (zi_vp (by decide)) (fun H locs hW => ?_)
    obtain ⟨g_141, hg_141⟩ : ∃ z : zm_T, z = zm_w g_140 23 1 ((-1)) := ⟨_, rfl⟩
    change zw_St Y N0 _ _ (zm_w g_140 23 1 ((-1))) s H locs at hW
    rw [← hg_141] at hW
    refine lv_iinc (v := 2) (lv' := [(2, .int 2), (0, .ref (ad 0)), (1, .int sk)]) X.1 X.2.1 dX10_init_252 hl (k := 0) rfl (by decide) (by decide) rfl (fun ls hl => ?_)
    refine lv_goto (tgt := 232) X.1 X.2.1 dX10_init_255 (by decide) ?_
    refine lv_iload_n X.1 X.2.1 dX10_init_232 rfl (lv_at hl 0 rfl) ?_
    refine lv_bipush (v := 12) X.1 X.2.1 dX10_init_233 (by decide) ?_
    refine zr_icmp_ge (a := 2) (b := 12) (tgt := 258) X dX10_init_235 (by decide) (by decide) (by decide) (fun c9 => absurd c9 (by decide)) (fun _ => ?_)
    refine lv_aload_n X.1 X.2.1 dX10_init_238 rfl (lv_at hl 1 rfl) ?_
    refine zr_get (r := 0) (ss := [none, some (some 1), none, some (some 3), some (some 4), some (some 5), some (some 6), some (some 7), none, some (some 9), some (some 10), some (some 11), some (some 12), some (some 13), some (some 14), some (some 15), some (some 16), some (some 17), some (some 18), none, some (some 20), some (some 21), some (some 22), some (some 23), some (some 24), some (some 25), some (some 26), none, none, some (some 29)]) (v := .ref (ad_70 5)) X hW fs_X10_20_9 dX10_init_239 rfl ha_72 rfl rfl ?_
    refine lv_iload_n X.1 X.2.1 dX10_init_242 rfl (lv_at hl 0 rfl) ?_
    refine lv_iconst (v := (-1)) X.1 X.2.1 dX10_init_243 (by decide) ?_
    refine zr_iast (r := 5) X hW dX10_init_244 rfl rfl rfl (zi_vp (by decide)) (fun H locs hW => ?_)
    obtain ⟨g_142, hg_142⟩ : ∃ z : zm_T, z = zm_w g_141 5 2 ((-1)) := ⟨_, rfl⟩
    change zw_St Y N0 _ _ (zm_w g_141 5 2 ((-1))) s H locs at hW
    rw [← hg_142] at hW
    refine lv_aload_n X.1 X.2.1 dX10_init_245 rfl (lv_at hl 1 rfl) ?_
    refine zr_get (r := 0) (ss := [none, some (some 1), none, some (some 3), some (some 4), some (some 5), some (some 6), some (some 7), none, some (some 9), some (some 10), some (some 11), some (some 12), some (some 13), some (some 14), some (some 15), some (some 16), some (some 17), some (some 18), none, some (some 20), some (some 21), some (some 22), some (some 23), some (some 24), some (some 25), some (some 26), none, none, some (some 29)]) (v := .ref (ad_70 23)) X hW fs_X10_68_9 dX10_init_246 rfl ha_72 rfl rfl ?_
    refine lv_iload_n X.1 X.2.1 dX10_init_249 rfl (lv_at hl 0 rfl) ?_
    refine lv_iconst (v := (-1)) X.1 X.2.1 dX10_init_250 (by decide) ?_
    refine zr_iast (r := 23) X hW dX10_init_251 rfl rfl rfl (zi_vp (by decide)) (fun H locs hW => ?_)
    obtain ⟨g_143, hg_143⟩ : ∃ z : zm_T, z = zm_w g_142 23 2 ((-1)) := ⟨_, rfl⟩
    change zw_St Y N0 _ _ (zm_w g_142 23 2 ((-1))) s H locs at hW
    rw [← hg_143] at hW
    refine lv_iinc (v := 3) (lv' := [(2, .int 3), (0, .ref (ad 0)), (1, .int sk)]) X.1 X.2.1 dX10_init_252 hl (k := 0) rfl (by decide) (by decide) rfl (fun ls hl => ?_)
    refine lv_goto (tgt := 232) X.1 X.2.1 dX10_init_255 (by decide) ?_
    refine lv_iload_n X.1 X.2.1 dX10_init_232 rfl (lv_at hl 0 rfl) ?_
    refine lv_bipush (v := 12) X.1 X.2.1 dX10_init_233 (by decide) ?_
    refine zr_icmp_ge (a := 3) (b := 12) (tgt := 258) X dX10_init_235 (by decide) (by decide) (by decide) (fun c9 => absurd c9 (by decide)) (fun _ => ?_)
    refine lv_aload_n X.1 X.2.1 dX10_init_238 rfl (lv_at hl 1 rfl) ?_
    refine zr_get (r := 0) (ss := [none, some (some 1), none, some (some 3), some (some 4), some (some 5), some (some 6), some (some 7), none, some (some 9), some (some 10), some (some 11), some (some 12), some (some 13), some (some 14), some (some 15), some (some 16), some (some 17), some (some 18), none, some (some 20), some (some 21), some (some 22), some (some 23), some (some 24), some (some 25), some (some 26), none, none, some (some 29)]) (v := .ref (ad_70 5)) X hW fs_X10_20_9 dX10_init_239 rfl ha_72 rfl rfl ?_
    refine lv_iload_n X.1 X.2.1 dX10_init_242 rfl (lv_at hl 0 rfl) ?_
    refine lv_iconst (v := (-1)) X.1 X.2.1 dX10_init_243 (by decide) ?_
    refine zr_iast (r := 5) X hW dX10_init_244 rfl rfl rfl (zi_vp (by decide)) (fun H locs hW => ?_)
    obtain ⟨g_144, hg_144⟩ : ∃ z : zm_T, z = zm_w g_143 5 3 ((-1)) := ⟨_, rfl⟩
    change zw_St Y N0 _ _ (zm_w g_143 5 3 ((-1))) s H locs at hW
    rw [← hg_144] at hW
    refine lv_aload_n X.1 X.2.1 dX10_init_245 rfl (lv_at hl 1 rfl) ?_
    refine zr_get (r := 0) (ss := [none, some (some 1), none, some (some 3), some (some 4), some (some 5), some (some 6), some (some 7), none, some (some 9), some (some 10), some (some 11), some (some 12), some (some 13), some (some 14), some (some 15), some (some 16), some (some 17), some (some 18), none, some (some 20), some (some 21), some (some 22), some (some 23), some (some 24), some (some 25), some (some 26), none, none, some (some 29)]) (v := .ref (ad_70 23)) X hW fs_X10_68_9 dX10_init_246 rfl ha_72 rfl rfl ?_
    refine lv_iload_n X.1 X.2.1 dX10_init_249 rfl (lv_at hl 0 rfl) ?_
    refine lv_iconst (v := (-1)) X.1 X.2.1 dX10_init_250 (by decide) ?_
    refine zr_iast (r := 23) X hW dX10_init_251 rfl rfl rfl (zi_vp (by decide)) (fun H locs hW => ?_)
    obtain ⟨g_145, hg_145⟩ : ∃ z : zm_T, z = zm_w g_144 23 3 ((-1)) := ⟨_, rfl⟩
    change zw_St Y N0 _ _ (zm_w g_144 23 3 ((-1))) s H locs at hW
    rw [← hg_145] at hW
    refine lv_iinc (v := 4) (lv' := [(2, .int 4), (0, .ref (ad 0)), (1, .int sk)]) X.1 X.2.1 dX10_init_252 hl (k := 0) rfl (by decide) (by decide) rfl (fun ls hl => ?_)
    refine lv_goto (tgt := 232) X.1 X.2.1 dX10_init_255 (by decide) ?_
    refine lv_iload_n X.1 X.2.1 dX10_init_232 rfl (lv_at hl 0 rfl) ?_
    refine lv_bipush (v := 12) X.1 X.2.1 dX10_init_233 (by decide) ?_
    refine zr_icmp_ge (a := 4) (b := 12) (tgt := 258) X dX10_init_235 (by decide) (by decide) (by decide) (fun c9 => absurd c9 (by decide)) (fun _ => ?_)
    refine lv_aload_n X.1 X.2.1 dX10_init_238 rfl (lv_at hl 1 rfl) ?_
    refine zr_get (r := 0) (ss := [none, some (some 1), none, some (some 3), some (some 4), some (some 5), some (some 6), some (some 7), none, some (some 9), some (some 10), some (some 11), some (some 12), some (some 13), some (some 14), some (some 15), some (some 16), some (some 17), some (some 18), none, some (some 20), some (some 21), some (some 22), some (some 23), some (some 24), some (some 25), some (some 26), none, none, some (some 29)]) (v := .ref (ad_70 5)) X hW fs_X10_20_9 dX10_init_239 rfl ha_72 rfl rfl ?_
    refine lv_iload_n X.1 X.2.1 dX10_init_242 rfl (lv_at hl 0 rfl) ?_
    refine lv_iconst (v := (-1)) X.1 X.2.1 dX10_init_243 (by decide) ?_
    refine zr_iast (r := 5) X hW dX10_init_244 rfl rfl rfl (zi_vp (by decide)) (fun H locs hW => ?_)
    obtain ⟨g_146, hg_146⟩ : ∃ z : zm_T, z = zm_w g_145 5 4 ((-1)) := ⟨_, rfl⟩
    change zw_St Y N0 _ _ (zm_w g_145 5 4 ((-1))) s H locs at hW
    rw [← hg_146] at hW
    refine lv_aload_n X.1 X.2.1 dX10_init_245 rfl (lv_at hl 1 rfl) ?_
    refine zr_get (r := 0) (ss := [none, some (some 1), none, some (some 3), some (some 4), some (some 5), some (some 6), some (some 7), none, some (some 9), some (some 10), some (some 11), some (some 12), some (some 13), some (some 14), some (some 15), some (some 16), some (some 17), some (some 18), none, some (some 20), some (some 21), some (some 22), some (some 23), some (some 24), some (some 25), some (some 26), none, none, some (some 29)]) (v := .ref (ad_70 23)) X hW fs_X10_68_9 dX10_init_246 rfl ha_72 rfl rfl ?_
    refine lv_iload_n X.1 X.2.1 dX10_init_249 rfl (lv_at hl 0 rfl) ?_
    refine lv_iconst (v := (-1)) X.1 X.2.1 dX10_init_250 (by decide) ?_
    refine zr_iast (r := 23) X hW dX10_init_251 rfl rfl rfl (zi_vp (by decide)) (fun H locs hW => ?_)
    obtain ⟨g_147, hg_147⟩ : ∃ z : zm_T, z = zm_w g_146 23 4 ((-1)) := ⟨_, rfl⟩
    change zw_St Y N0 _ _ (zm_w g_146 23 4 ((-1))) s H locs at hW
    rw [← hg_147] at hW
    refine lv_iinc (v := 5) (lv' := [(2, .int 5), (0, .ref (ad 0)), (1, .int sk)]) X.1 X.2.1 dX10_init_252 hl (k := 0) rfl (by decide) (by decide) rfl (fun ls hl => ?_)
    refine lv_goto (tgt := 232) X.1 X.2.1 dX10_init_255 (by decide) ?_
    refine lv_iload_n X.1 X.2.1 dX10_init_232 rfl (lv_at hl 0 rfl) ?_
    refine lv_bipush (v := 12) X.1 X.2.1 dX10_init_233 (by decide) ?_
    refine zr_icmp_ge (a := 5) (b := 12) (tgt := 258) X dX10_init_235 (by decide) (by decide) (by decide) (fun c9 => absurd c9 (by decide)) (fun _ => ?_)
    refine lv_aload_n X.1 X.2.1 dX10_init_238 rfl (lv_at hl 1 rfl) ?_
    refine zr_get (r := 0) (ss := [none, some (some 1), none, some (some 3), some (some 4), some (some 5), some (some 6), some (some 7), none, some (some 9), some (some 10), some (some 11), some (some 12), some (some 13), some (some 14), some (some 15), some (some 16), some (some 17), some (some 18), none, some (some 20), some (some 21), some (some 22), some (some 23), some (some 24), some (some 25), some (some 26), none, none, some (some 29)]) (v := .ref (ad_70 5)) X hW fs_X10_20_9 dX10_init_239 rfl ha_72 rfl rfl ?_
    refine lv_iload_n X.1 X.2.1 dX10_init_242 rfl (lv_at hl 0 rfl) ?_
    refine lv_iconst (v := (-1)) X.1 X.2.1 dX10_init_243 (by decide) ?_
    refine zr_iast (r := 5) X hW dX10_init_244 rfl rfl rfl (zi_vp (by decide)) (fun H locs hW => ?_)
    obtain ⟨g_148, hg_148⟩ : ∃ z : zm_T, z = zm_w g_147 5 5 ((-1)) := ⟨_, rfl⟩
    change zw_St Y N0 _ _ (zm_w g_147 5 5 ((-1))) s H locs at hW
    rw [← hg_148] at hW
    refine lv_aload_n X.1 X.2.1 dX10_init_245 rfl (lv_at hl 1 rfl) ?_
    refine zr_get (r := 0) (ss := [none, some (some 1), none, some (some 3), some (some 4), some (some 5), some (some 6), some (some 7), none, some (some 9), some (some 10), some (some 11), some (some 12), some (some 13), some (some 14), some (some 15), some (some 16), some (some 17), some (some 18), none, some (some 20), some (some 21), some (some 22), some (some 23), some (some 24), some (some 25), some (some 26), none, none, some (some 29)]) (v := .ref (ad_70 23)) X hW fs_X10_68_9 dX10_init_246 rfl ha_72 rfl rfl ?_
    refine lv_iload_n X.1 X.2.1 dX10_init_249 rfl (lv_at hl 0 rfl) ?_
    refine lv_iconst (v := (-1)) X.1 X.2.1 dX10_init_250 (by decide) ?_
    refine zr_iast (r := 23) X hW dX10_init_251 rfl rfl rfl (zi_vp (by decide)) (fun H locs hW => ?_)
    obtain ⟨g_149, hg_149⟩ : ∃ z : zm_T, z = zm_w g_148 23 5 ((-1)) := ⟨_, rfl⟩
    change zw_St Y N0 _ _ (zm_w g_148 23 5 ((-1))) s H locs at hW
    rw [← hg_149] at hW
    refine lv_iinc (v := 6) (lv' := [(2, .int 6), (0, .ref (ad 0)), (1, .int sk)]) X.1 X.2.1 dX10_init_252 hl (k := 0) rfl (by decide) (by decide) rfl (fun ls hl => ?_)
    refine lv_goto (tgt := 232) X.1 X.2.1 dX10_init_255 (by decide) ?_
    refine lv_iload_n X.1 X.2.1 dX10_init_232 rfl (lv_at hl 0 rfl) ?_
    refine lv_bipush (v := 12) X.1 X.2.1 dX10_init_233 (by decide) ?_
    refine zr_icmp_ge (a := 6) (b := 12) (tgt := 258) X dX10_init_235 (by decide) (by decide) (by decide) (fun c9 => absurd c9 (by decide)) (fun _ => ?_)
    refine lv_aload_n X.1 X.2.1 dX10_init_238 rfl (lv_at hl 1 rfl) ?_
    refine zr_get (r := 0) (ss := [none, some (some 1), none, some (some 3), some (some 4), some (some 5), some (some 6), some (some 7), none, some (some 9), some (some 10), some (some 11), some (some 12), some (some 13), some (some 14), some (some 15), some (some 16), some (some 17), some (some 18), none, some (some 20), some (some 21), some (some 22), some (some 23), some (some 24), some (some 25), some (some 26), none, none, some (some 29)]) (v := .ref (ad_70 5)) X hW fs_X10_20_9 dX10_init_239 rfl ha_72 rfl rfl ?_
    refine lv_iload_n X.1 X.2.1 dX10_init_242 rfl (lv_at hl 0 rfl) ?_
    refine lv_iconst (v := (-1)) X.1 X.2.1 dX10_init_243 (by decide) ?_
    refine zr_iast (r := 5) X hW dX10_init_244 rfl rfl rfl (zi_vp (by decide)) (fun H locs hW => ?_)
    obtain ⟨g_150, hg_150⟩ : ∃ z : zm_T, z = zm_w g_149 5 6 ((-1)) := ⟨_, rfl⟩
    change zw_St Y N0 _ _ (zm_w g_149 5 6 ((-1))) s H locs at hW
    rw [← hg_150] at hW
    refine lv_aload_n X.1 X.2.1 dX10_init_245 rfl (lv_at hl 1 rfl) ?_
    refine zr_get (r := 0) (ss := [none, some (some 1), none, some (some 3), some (some 4), some (some 5), some (some 6), some (some 7), none, some (some 9), some (some 10), some (some 11), some (some 12), some (some 13), some (some 14), some (some 15), some (some 16), some (some 17), some (some 18), none, some (some 20), some (some 21), some (some 22), some (some 23), some (some 24), some (some 25), some (some 26), none, none, some (some 29)]) (v := .ref (ad_70 23)) X hW fs_X10_68_9 dX10_init_246 rfl ha_72 rfl rfl ?_
    refine lv_iload_n X.1 X.2.1 dX10_init_249 rfl (lv_at hl 0 rfl) ?_
    refine lv_iconst (v := (-1)) X.1 X.2.1 dX10_init_250 (by decide) ?_
    refine zr_iast (r := 23) X hW dX10_init_251 rfl rfl rfl (zi_vp (by decide)) (fun H locs hW => ?_)
    obtain ⟨g_151, hg_151⟩ : ∃ z : zm_T, z = zm_w g_150 23 6 ((-1)) := ⟨_, rfl⟩
    change zw_St Y N0 _ _ (zm_w g_150 23 6 ((-1))) s H locs at hW
    rw [← hg_151] at hW
    refine lv_iinc (v := 7) (lv' := [(2, .int 7), (0, .ref (ad 0)), (1, .int sk)]) X.1 X.2.1 dX10_init_252 hl (k := 0) rfl (by decide) (by decide) rfl (fun ls hl => ?_)
    refine lv_goto (tgt := 232) X.1 X.2.1 dX10_init_255 (by decide) ?_
    refine lv_iload_n X.1 X.2.1 dX10_init_232 rfl (lv_at hl 0 rfl) ?_
    refine lv_bipush (v := 12) X.1 X.2.1 dX10_init_233 (by decide) ?_
    refine zr_icmp_ge (a := 7) (b := 12) (tgt := 258) X dX10_init_235 (by decide) (by decide) (by decide) (fun c9 => absurd c9 (by decide)) (fun _ => ?_)
    refine lv_aload_n X.1 X.2.1 dX10_init_238 rfl (lv_at hl 1 rfl) ?_
    refine zr_get (r := 0) (ss := [none, some (some 1), none, some (some 3), some (some 4), some (some 5), some (some 6), some (some 7), none, some (some 9), some (some 10), some (some 11), some (some 12), some (some 13), some (some 14), some (some 15), some (some 16), some (some 17), some (some 18), none, some (some 20), some (some 21), some (some 22), some (some 23), some (some 24), some (some 25), some (some 26), none, none, some (some 29)]) (v := .ref (ad_70 5)) X hW fs_X10_20_9 dX10_init_239 rfl ha_72 rfl rfl ?_
    refine lv_iload_n X.1 X.2.1 dX10_init_242 rfl (lv_at hl 0 rfl) ?_
    refine lv_iconst (v := (-1)) X.1 X.2.1 dX10_init_243 (by decide) ?_
    refine zr_iast (r := 5) X hW dX10_init_244 rfl rfl rfl (zi_vp (by decide)) (fun H locs hW => ?_)
    obtain ⟨g_152, hg_152⟩ : ∃ z : zm_T, z = zm_w g_151 5 7 ((-1)) := ⟨_, rfl⟩
    change zw_St Y N0 _ _ (zm_w g_151 5 7 ((-1))) s H locs at hW
    rw [← hg_152] at hW
    refine lv_aload_n X.1 X.2.1 dX10_init_245 rfl (lv_at hl 1 rfl) ?_
    refine zr_get (r := 0) (ss := [none, some (some 1), none, some (some 3), some (some 4), some (some 5), some (some 6), some (some 7), none, some (some 9), some (some 10), some (some 11), some (some 12), some (some 13), some (some 14), some (some 15), some (some 16), some (some 17), some (some 18), none, some (some 20), some (some 21), some (some 22), some (some 23), some (some 24), some (some 25), some (some 26), none, none, some (some 29)]) (v := .ref (ad_70 23)) X hW fs_X10_68_9 dX10_init_246 rfl ha_72 rfl rfl ?_
    refine lv_iload_n X.1 X.2.1 dX10_init_249 rfl (lv_at hl 0 rfl) ?_
    refine lv_iconst (v := (-1)) X.1 X.2.1 dX10_init_250 (by decide) ?_
    refine zr_iast (r := 23) X hW dX10_init_251 rfl rfl rfl (zi_vp (by decide)) (fun H locs hW => ?_)
    obtain ⟨g_153, hg_153⟩ : ∃ z : zm_T, z = zm_w g_152 23 7 ((-1)) := ⟨_, rfl⟩
    change zw_St Y N0 _ _ (zm_w g_152 23 7 ((-1))) s H locs at hW
    rw [← hg_153] at hW
    refine lv_iinc (v := 8) (lv' := [(2, .int 8), (0, .ref (ad 0)), (1, .int sk)]) X.1 X.2.1 dX10_init_252 hl (k := 0) rfl (by decide) (by decide) rfl (fun ls hl => ?_)
    refine lv_goto (tgt := 232) X.1 X.2.1 dX10_init_255 (by decide) ?_
    refine lv_iload_n X.1 X.2.1 dX10_init_232 rfl (lv_at hl 0 rfl) ?_
    refine lv_bipush (v := 12) X.1 X.2.1 dX10_init_233 (by decide) ?_
    refine zr_icmp_ge (a := 8) (b := 12) (tgt := 258) X dX10_init_235 (by decide) (by decide) (by decide) (fun c9 => absurd c9 (by decide)) (fun _ => ?_)
    refine lv_aload_n X.1 X.2.1 dX10_init_238 rfl (lv_at hl 1 rfl) ?_
    refine zr_get (r := 0) (ss := [none, some (some 1), none, some (some 3), some (some 4), some (some 5), some (some 6), some (some 7), none, some (some 9), some (some 10), some (some 11), some (some 12), some (some 13), some (some 14), some (some 15), some (some 16), some (some 17), some (some 18), none, some (some 20), some (some 21), some (some 22), some (some 23), some (some 24), some (some 25), some (some 26), none, none, some (some 29)]) (v := .ref (ad_70 5)) X hW fs_X10_20_9 dX10_init_239 rfl ha_72 rfl rfl ?_
    refine lv_iload_n X.1 X.2.1 dX10_init_242 rfl (lv_at hl 0 rfl) ?_
    refine lv_iconst (v := (-1)) X.1 X.2.1 dX10_init_243 (by decide) ?_
    refine zr_iast (r := 5) X hW dX10_init_244 rfl rfl rfl (zi_vp (by decide)) (fun H locs hW => ?_)
    obtain ⟨g_154, hg_154⟩ : ∃ z : zm_T, z = zm_w g_153 5 8 ((-1)) := ⟨_, rfl⟩
    change zw_St Y N0 _ _ (zm_w g_153 5 8 ((-1))) s H locs at hW
    rw [← hg_154] at hW
    refine lv_aload_n X.1 X.2.1 dX10_init_245 rfl (lv_at hl 1 rfl) ?_
    refine zr_get (r := 0) (ss := [none, some (some 1), none, some (some 3), some (some 4), some (some 5), some (some 6), some (some 7), none, some (some 9), some (some 10), some (some 11), some (some 12), some (some 13), some (some 14), some (some 15), some (some 16), some (some 17), some (some 18), none, some (some 20), some (some 21), some (some 22), some (some 23), some (some 24), some (some 25), some (some 26), none, none, some (some 29)]) (v := .ref (ad_70 23)) X hW fs_X10_68_9 dX10_init_246 rfl ha_72 rfl rfl ?_
    refine lv_iload_n X.1 X.2.1 dX10_init_249 rfl (lv_at hl 0 rfl) ?_
    refine lv_iconst (v := (-1)) X.1 X.2.1 dX10_init_250 (by decide) ?_
    refine zr_iast (r := 23) X hW dX10_init_251 rfl rfl rfl (zi_vp (by decide)) (fun H locs hW => ?_)
    obtain ⟨g_155, hg_155⟩ : ∃ z : zm_T, z = zm_w g_154 23 8 ((-1)) := ⟨_, rfl⟩
    change zw_St Y N0 _ _ (zm_w g_154 23 8 ((-1))) s H locs at hW
    rw [← hg_155] at hW
    refine lv_iinc (v := 9) (lv' := [(2, .int 9), (0, .ref (ad 0)), (1, .int sk)]) X.1 X.2.1 dX10_init_252 hl (k := 0) rfl (by decide) (by decide) rfl (fun ls hl => ?_)
    refine lv_goto (tgt := 232) X.1 X.2.1 dX10_init_255 (by decide) ?_
    refine lv_iload_n X.1 X.2.1 dX10_init_232 rfl (lv_at hl 0 rfl) ?_
    refine lv_bipush (v := 12) X.1 X.2.1 dX10_init_233 (by decide) ?_
    refine zr_icmp_ge (a := 9) (b := 12) (tgt := 258) X dX10_init_235 (by decide) (by decide) (by decide) (fun c9 => absurd c9 (by decide)) (fun _ => ?_)
    refine lv_aload_n X.1 X.2.1 dX10_init_238 rfl (lv_at hl 1 rfl) ?_
    refine zr_get (r := 0) (ss := [none, some (some 1), none, some (some 3), some (some 4), some (some 5), some (some 6), some (some 7), none, some (some 9), some (some 10), some (some 11), some (some 12), some (some 13), some (some 14), some (some 15), some (some 16), some (some 17), some (some 18), none, some (some 20), some (some 21), some (some 22), some (some 23), some (some 24), some (some 25), some (some 26), none, none, some (some 29)]) (v := .ref (ad_70 5)) X hW fs_X10_20_9 dX10_init_239 rfl ha_72 rfl rfl ?_
    refine lv_iload_n X.1 X.2.1 dX10_init_242 rfl (lv_at hl 0 rfl) ?_
    refine lv_iconst (v := (-1)) X.1 X.2.1 dX10_init_243 (by decide) ?_
    refine zr_iast (r := 5) X hW dX10_init_244 rfl rfl rfl (zi_vp (by decide)) (fun H locs hW => ?_)
    obtain ⟨g_156, hg_156⟩ : ∃ z : zm_T, z = zm_w g_155 5 9 ((-1)) := ⟨_, rfl⟩
    change zw_St Y N0 _ _ (zm_w g_155 5 9 ((-1))) s H locs at hW
    rw [← hg_156] at hW
    refine lv_aload_n X.1 X.2.1 dX10_init_245 rfl (lv_at hl 1 rfl) ?_
    refine zr_get (r := 0) (ss := [none, some (some 1), none, some (some 3), some (some 4), some (some 5), some (some 6), some (some 7), none, some (some 9), some (some 10), some (some 11), some (some 12), some (some 13), some (some 14), some (some 15), some (some 16), some (some 17), some (some 18), none, some (some 20), some (some 21), some (some 22), some (some 23), some (some 24), some (some 25), some (some 26), none, none, some (some 29)]) (v := .ref (ad_70 23)) X hW fs_X10_68_9 dX10_init_246 rfl ha_72 rfl rfl ?_
    refine lv_iload_n X.1 X.2.1 dX10_init_249 rfl (lv_at hl 0 rfl) ?_
    refine lv_iconst (v := (-1)) X.1 X.2.1 dX10_init_250 (by decide) ?_
    refine zr_iast (r := 23) X hW dX10_init_251 rfl rfl rfl (zi_vp (by decide)) (fun H locs hW => ?_)
    obtain ⟨g_157, hg_157⟩ : ∃ z : zm_T, z = zm_w g_156 23 9 ((-1)) := ⟨_, rfl⟩
    change zw_St Y N0 _ _ (zm_w g_156 23 9 ((-1))) s H locs at hW
    rw [← hg_157] at hW
    refine lv_iinc (v := 10) (lv' := [(2, .int 10), (0, .ref (ad 0)), (1, .int sk)]) X.1 X.2.1 dX10_init_252 hl (k := 0) rfl (by decide) (by decide) rfl (fun ls hl => ?_)
    refine lv_goto (tgt := 232) X.1 X.2.1 dX10_init_255 (by decide) ?_
    refine lv_iload_n X.1 X.2.1 dX10_init_232 rfl (lv_at hl 0 rfl) ?_
    refine lv_bipush (v := 12) X.1 X.2.1 dX10_init_233 (by decide) ?_
    refine zr_icmp_ge (a := 10) (b := 12) (tgt := 258) X dX10_init_235 (by decide) (by decide) (by decide) (fun c9 => absurd c9 (by decide)) (fun _ => ?_)
    refine lv_aload_n X.1 X.2.1 dX10_init_238 rfl (lv_at hl 1 rfl) ?_
    refine zr_get (r := 0) (ss := [none, some (some 1), none, some (some 3), some (some 4), some (some 5), some (some 6), some (some 7), none, some (some 9), some (some 10), some (some 11), some (some 12), some (some 13), some (some 14), some (some 15), some (some 16), some (some 17), some (some 18), none, some (some 20), some (some 21), some (some 22), some (some 23), some (some 24), some (some 25), some (some 26), none, none, some (some 29)]) (v := .ref (ad_70 5)) X hW fs_X10_20_9 dX10_init_239 rfl ha_72 rfl rfl ?_
    refine lv_iload_n X.1 X.2.1 dX10_init_242 rfl (lv_at hl 0 rfl) ?_
    refine lv_iconst (v := (-1)) X.1 X.2.1 dX10_init_243 (by decide) ?_
    refine zr_iast (r := 5) X hW dX10_init_244 rfl rfl rfl (zi_vp (by decide)) (fun H locs hW => ?_)
    obtain ⟨g_158, hg_158⟩ : ∃ z : zm_T, z = zm_w g_157 5 10 ((-1)) := ⟨_, rfl⟩
    change zw_St Y N0 _ _ (zm_w g_157 5 10 ((-1))) s H locs at hW
    rw [← hg_158] at hW
    refine lv_aload_n X.1 X.2.1 dX10_init_245 rfl (lv_at hl 1 rfl) ?_
    refine zr_get (r := 0) (ss := [none, some (some 1), none, some (some 3), some (some 4), some (some 5), some (some 6), some (some 7), none, some (some 9), some (some 10), some (some 11), some (some 12), some (some 13), some (some 14), some (some 15), some (some 16), some (some 17), some (some 18), none, some (some 20), some (some 21), some (some 22), some (some 23), some (some 24), some (some 25), some (some 26), none, none, some (some 29)]) (v := .ref (ad_70 23)) X hW fs_X10_68_9 dX10_init_246 rfl ha_72 rfl rfl ?_
    refine lv_iload_n X.1 X.2.1 dX10_init_249 rfl (lv_at hl 0 rfl) ?_
    refine lv_iconst (v := (-1)) X.1 X.2.1 dX10_init_250 (by decide) ?_
    refine zr_iast (r := 23) X hW dX10_init_251 rfl rfl rfl (zi_vp (by decide)) (fun H locs hW => ?_)
    obtain ⟨g_159, hg_159⟩ : ∃ z : zm_T, z = zm_w g_158 23 10 ((-1)) := ⟨_, rfl⟩
    change zw_St Y N0 _ _ (zm_w g_158 23 10 ((-1))) s H locs at hW
    rw [← hg_159] at hW
    refine lv_iinc (v := 11) (lv' := [(2, .int 11), (0, .ref (ad 0)), (1, .int sk)]) X.1 X.2.1 dX10_init_252 hl (k := 0) rfl (by decide) (by decide) rfl (fun ls hl => ?_)
    refine lv_goto (tgt := 232) X.1 X.2.1 dX10_init_255 (by decide) ?_
    refine lv_iload_n X.1 X.2.1 dX10_init_232 rfl (lv_at hl 0 rfl) ?_
    refine lv_bipush (v := 12) X.1 X.2.1 dX10_init_233 (by decide) ?_
    refine zr_icmp_ge (a := 11) (b := 12) (tgt := 258) X dX10_init_235 (by decide) (by decide) (by decide) (fun c9 => absurd c9 (by decide)) (fun _ => ?_)
    refine lv_aload_n X.1 X.2.1 dX10_init_238 rfl (lv_at hl 1 rfl) ?_
    refine zr_get (r := 0) (ss := [none, some (some 1), none, some (some 3), some (some 4), some (some 5), some (some 6), some (some 7), none, some (some 9), some (some 10), some (some 11), some (some 12), some (some 13), some (some 14), some (some 15), some (some 16), some (some 17), some (some 18), none, some (some 20), some (some 21), some (some 22), some (some 23), some (some 24), some (some 25), some (some 26), none, none, some (some 29)]) (v := .ref (ad_70 5)) X hW fs_X10_20_9 dX10_init_239 rfl ha_72 rfl rfl ?_
    refine lv_iload_n X.1 X.2.1 dX10_init_242 rfl (lv_at hl 0 rfl) ?_
    refine lv_iconst (v := (-1)) X.1 X.2.1 dX10_init_243 (by decide) ?_
    refine zr_iast (r := 5) X hW dX10_init_244 rfl rfl rfl (zi_vp (by decide)) (fun H locs hW => ?_)
    obtain ⟨g_160, hg_160⟩ : ∃ z : zm_T, z = zm_w g_159 5 11 ((-1)) := ⟨_, rfl⟩
    change zw_St Y N0 _ _ (zm_w g_159 5 11 ((-1))) s H locs at hW
    rw [← hg_160] at hW
    refine lv_aload_n X.1 X.2.1 dX10_init_245 rfl (lv_at hl 1 rfl) ?_
    refine zr_get (r := 0) (ss := [none, some (some 1), none, some (some 3), some (some 4), some (some 5), some (some 6), some (some 7), none, some (some 9), some (some 10), some (some 11), some (some 12), some (some 13), some (some 14), some (some 15), some (some 16), some (some 17), some (some 18), none, some (some 20), some (some 21), some (some 22), some (some 23), some (some 24), some (some 25), some (some 26), none, none, some (some 29)]) (v := .ref (ad_70 23)) X hW fs_X10_68_9 dX10_init_246 rfl ha_72 rfl rfl ?_
    refine lv_iload_n X.1 X.2.1 dX10_init_249 rfl (lv_at hl 0 rfl) ?_
    refine lv_iconst (v := (-1)) X.1 X.2.1 dX10_init_250 (by decide) ?_
    refine zr_iast (r := 23) X hW dX10_init_251 rfl rfl rfl (zi_vp (by decide)) (fun H locs hW => ?_)
    obtain ⟨g_161, hg_161⟩ : ∃ z : zm_T, z = zm_w g_160 23 11 ((-1)) := ⟨_, rfl⟩
    change zw_St Y N0 _ _ (zm_w g_160 23 11 ((-1))) s H locs at hW
    rw [← hg_161] at hW
    refine lv_iinc (v := 12) (lv' := [(2, .int 12), (0, .ref (ad 0)), (1, .int sk)]) X.1 X.2.1 dX10_init_252 hl (k := 0) rfl (by decide) (by decide) rfl (fun ls hl => ?_)
    refine lv_goto (tgt := 232) X.1 X.2.1 dX10_init_255 (by decide) ?_
    refine lv_iload_n X.1 X.2.1 dX10_init_232 rfl (lv_at hl 0 rfl) ?_
    refine lv_bipush (v := 12) X.1 X.2.1 dX10_init_233 (by decide) ?_
    refine zr_icmp_ge (a := 12) (b := 12) (tgt := 258) X dX10_init_235 (by decide) (by decide) (by decide) (fun _ => ?_) (fun c9 => absurd c9 (by decide))
    refine lv_iconst (v := 0) X.1 X.2.1 dX10_init_258 (by decide) ?_
    refine lv_istore_n (lv' := [(2, .int 0), (0, .ref (ad 0)), (1, .int sk)]) X.1 X.2.1 dX10_init_259 rfl hl (by decide) rfl (fun ls hl => ?_)
    refine lv_iload_n X.1 X.2.1 dX10_init_260 rfl (lv_at hl 0 rfl) ?_
    refine lv_bipush (v := 6) X.1 X.2.1 dX10_init_261 (by decide) ?_
    refine zr_icmp_ge (a := 0) (b := 6) (tgt := 279) X dX10_init_263 (by decide) (by decide) (by decide) (fun c9 => absurd c9 (by decide)) (fun _ => ?_)
    refine lv_aload_n X.1 X.2.1 dX10_init_266 rfl (lv_at hl 1 rfl) ?_
    refine zr_get (r := 0) (ss := [none, some (some 1), none, some (some 3), some (some 4), some (some 5), some (some 6), some (some 7), none, some (some 9), some (some 10), some (some 11), some (some 12), some (some 13), some (some 14), some (some 15), some (some 16), some (some 17), some (some 18), none, some (some 20), some (some 21), some (some 22), some (some 23), some (some 24), some (some 25), some (some 26), none, none, some (some 29)]) (v := .ref (ad_70 3)) X hW fs_X10_13_9 dX10_init_267 rfl ha_72 rfl rfl ?_
    refine lv_iload_n X.1 X.2.1 dX10_init_270 rfl (lv_at hl 0 rfl) ?_
    refine lv_iconst (v := (-1)) X.1 X.2.1 dX10_init_271 (by decide) ?_
    refine zr_iast (r := 3) X hW dX10_init_272 rfl rfl rfl (zi_vp (by decide)) (fun H locs hW => ?_)
    obtain ⟨g_162, hg_162⟩ : ∃ z : zm_T, z = zm_w g_161 3 0 ((-1)) := ⟨_, rfl⟩
    change zw_St Y N0 _ _ (zm_w g_161 3 0 ((-1))) s H locs at hW
    rw [← hg_162] at hW
    refine lv_iinc (v := 1) (lv' := [(2, .int 1), (0, .ref (ad 0)), (1, .int sk)]) X.1 X.2.1 dX10_init_273 hl (k := 0) rfl (by decide) (by decide) rfl (fun ls hl => ?_)
    refine lv_goto (tgt := 260) X.1 X.2.1 dX10_init_276 (by decide) ?_
    refine lv_iload_n X.1 X.2.1 dX10_init_260 rfl (lv_at hl 0 rfl) ?_
    refine lv_bipush (v := 6) X.1 X.2.1 dX10_init_261 (by decide) ?_
    refine zr_icmp_ge (a := 1) (b := 6) (tgt := 279) X dX10_init_263 (by decide) (by decide) (by decide) (fun c9 => absurd c9 (by decide)) (fun _ => ?_)
    refine lv_aload_n X.1 X.2.1 dX10_init_266 rfl (lv_at hl 1 rfl) ?_
    refine zr_get (r := 0) (ss := [none, some (some 1), none, some (some 3), some (some 4), some (some 5), some (some 6), some (some 7), none, some (some 9), some (some 10), some (some 11), some (some 12), some (some 13), some (some 14), some (some 15), some (some 16), some (some 17), some (some 18), none, some (some 20), some (some 21), some (some 22), some (some 23), some (some 24), some (some 25), some (some 26), none, none, some (some 29)]) (v := .ref (ad_70 3)) X hW fs_X10_13_9 dX10_init_267 rfl ha_72 rfl rfl ?_
    refine lv_iload_n X.1 X.2.1 dX10_init_270 rfl (lv_at hl 0 rfl) ?_
    refine lv_iconst (v := (-1)) X.1 X.2.1 dX10_init_271 (by decide) ?_
    refine zr_iast (r := 3) X hW dX10_init_272 rfl rfl rfl (zi_vp (by decide)) (fun H locs hW => ?_)
    obtain ⟨g_163, hg_163⟩ : ∃ z : zm_T, z = zm_w g_162 3 1 ((-1)) := ⟨_, rfl⟩
    change zw_St Y N0 _ _ (zm_w g_162 3 1 ((-1))) s H locs at hW
    rw [← hg_163] at hW
    refine lv_iinc (v := 2) (lv' := [(2, .int 2), (0, .ref (ad 0)), (1, .int sk)]) X.1 X.2.1 dX10_init_273 hl (k := 0) rfl (by decide) (by decide) rfl (fun ls hl => ?_)
    refine lv_goto (tgt := 260) X.1 X.2.1 dX10_init_276 (by decide) ?_
    refine lv_iload_n X.1 X.2.1 dX10_init_260 rfl (lv_at hl 0 rfl) ?_
    refine lv_bipush (v := 6) X.1 X.2.1 dX10_init_261 (by decide) ?_
    refine zr_icmp_ge (a := 2) (b := 6) (tgt := 279) X dX10_init_263 (by decide) (by decide) (by decide) (fun c9 => absurd c9 (by decide)) (fun _ => ?_)
    refine lv_aload_n X.1 X.2.1 dX10_init_266 rfl (lv_at hl 1 rfl) ?_
    refine zr_get (r := 0) (ss := [none, some (some 1), none, some (some 3), some (some 4), some (some 5), some (some 6), some (some 7), none, some (some 9), some (some 10), some (some 11), some (some 12), some (some 13), some (some 14), some (some 15), some (some 16), some (some 17), some (some 18), none, some (some 20), some (some 21), some (some 22), some (some 23), some (some 24), some (some 25), some (some 26), none, none, some (some 29)]) (v := .ref (ad_70 3)) X hW fs_X10_13_9 dX10_init_267 rfl ha_72 rfl rfl ?_
    refine lv_iload_n X.1 X.2.1 dX10_init_270 rfl (lv_at hl 0 rfl) ?_
    refine lv_iconst (v := (-1)) X.1 X.2.1 dX10_init_271 (by decide) ?_
    refine zr_iast (r := 3) X hW dX10_init_272 rfl rfl rfl (zi_vp (by decide)) (fun H locs hW => ?_)
    obtain ⟨g_164, hg_164⟩ : ∃ z : zm_T, z = zm_w g_163 3 2 ((-1)) := ⟨_, rfl⟩
    change zw_St Y N0 _ _ (zm_w g_163 3 2 ((-1))) s H locs at hW
    rw [← hg_164] at hW
    refine lv_iinc (v := 3) (lv' := [(2, .int 3), (0, .ref (ad 0)), (1, .int sk)]) X.1 X.2.1 dX10_init_273 hl (k := 0) rfl (by decide) (by decide) rfl (fun ls hl => ?_)
    refine lv_goto (tgt := 260) X.1 X.2.1 dX10_init_276 (by decide) ?_
    refine lv_iload_n X.1 X.2.1 dX10_init_260 rfl (lv_at hl 0 rfl) ?_
    refine lv_bipush (v := 6) X.1 X.2.1 dX10_init_261 (by decide) ?_
    refine zr_icmp_ge (a := 3) (b := 6) (tgt := 279) X dX10_init_263 (by decide) (by decide) (by decide) (fun c9 => absurd c9 (by decide)) (fun _ => ?_)
    refine lv_aload_n X.1 X.2.1 dX10_init_266 rfl (lv_at hl 1 rfl) ?_
    refine zr_get (r := 0) (ss := [none, some (some 1), none, some (some 3), some (some 4), some (some 5), some (some 6), some (some 7), none, some (some 9), some (some 10), some (some 11), some (some 12), some (some 13), some (some 14), some (some 15), some (some 16), some (some 17), some (some 18), none, some (some 20), some (some 21), some (some 22), some (some 23), some (some 24), some (some 25), some (some 26), none, none, some (some 29)]) (v := .ref (ad_70 3)) X hW fs_X10_13_9 dX10_init_267 rfl ha_72 rfl rfl ?_
    refine lv_iload_n X.1 X.2.1 dX10_init_270 rfl (lv_at hl 0 rfl) ?_
    refine lv_iconst (v := (-1)) X.1 X.2.1 dX10_init_271 (by decide) ?_
    refine zr_iast (r := 3) X hW dX10_init_272 rfl rfl rfl (zi_vp (by decide)) (fun H locs hW => ?_)
    obtain ⟨g_165, hg_165⟩ : ∃ z : zm_T, z = zm_w g_164 3 3 ((-1)) := ⟨_, rfl⟩
    change zw_St Y N0 _ _ (zm_w g_164 3 3 ((-1))) s H locs at hW
    rw [← hg_165] at hW
    refine lv_iinc (v := 4) (lv' := [(2, .int 4), (0, .ref (ad 0)), (1, .int sk)]) X.1 X.2.1 dX10_init_273 hl (k := 0) rfl (by decide) (by decide) rfl (fun ls hl => ?_)
    refine lv_goto (tgt := 260) X.1 X.2.1 dX10_init_276 (by decide) ?_
    refine lv_iload_n X.1 X.2.1 dX10_init_260 rfl (lv_at hl 0 rfl) ?_
    refine lv_bipush (v := 6) X.1 X.2.1 dX10_init_261 (by decide) ?_
    refine zr_icmp_ge (a := 4) (b := 6) (tgt := 279) X dX10_init_263 (by decide) (by decide) (by decide) (fun c9 => absurd c9 (by decide)) (fun _ => ?_)
    refine lv_aload_n X.1 X.2.1 dX10_init_266 rfl (lv_at hl 1 rfl) ?_
    refine zr_get (r := 0) (ss := [none, some (some 1), none, some (some 3), some (some 4), some (some 5), some (some 6), some (some 7), none, some (some 9), some (some 10), some (some 11), some (some 12), some (some 13), some (some 14), some (some 15), some (some 16), some (some 17), some (some 18), none, some (some 20), some (some 21), some (some 22), some (some 23), some (some 24), some (some 25), some (some 26), none, none, some (some 29)]) (v := .ref (ad_70 3)) X hW fs_X10_13_9 dX10_init_267 rfl ha_72 rfl rfl ?_
    refine lv_iload_n X.1 X.2.1 dX10_init_270 rfl (lv_at hl 0 rfl) ?_
    refine lv_iconst (v := (-1)) X.1 X.2.1 dX10_init_271 (by decide) ?_
    refine zr_iast (r := 3) X hW dX10_init_272 rfl rfl rfl (zi_vp (by decide)) (fun H locs hW => ?_)
    obtain ⟨g_166, hg_166⟩ : ∃ z : zm_T, z = zm_w g_165 3 4 ((-1)) := ⟨_, rfl⟩
    change zw_St Y N0 _ _ (zm_w g_165 3 4 ((-1))) s H locs at hW
    rw [← hg_166] at hW
    refine lv_iinc (v := 5) (lv' := [(2, .int 5), (0, .ref (ad 0)), (1, .int sk)]) X.1 X.2.1 dX10_init_273 hl (k := 0) rfl (by decide) (by decide) rfl (fun ls hl => ?_)
    refine lv_goto (tgt := 260) X.1 X.2.1 dX10_init_276 (by decide) ?_
    refine lv_iload_n X.1 X.2.1 dX10_init_260 rfl (lv_at hl 0 rfl) ?_
    refine lv_bipush (v := 6) X.1 X.2.1 dX10_init_261 (by decide) ?_
    refine zr_icmp_ge (a := 5) (b := 6) (tgt := 279) X dX10_init_263 (by decide) (by decide) (by decide) (fun c9 => absurd c9 (by decide)) (fun _ => ?_)
    refine lv_aload_n X.1 X.2.1 dX10_init_266 rfl (lv_at hl 1 rfl) ?_
    refine zr_get (r := 0) (ss := [none, some (some 1), none, some (some 3), some (some 4), some (some 5), some (some 6), some (some 7), none, some (some 9), some (some 10), some (some 11), some (some 12), some (some 13), some (some 14), some (some 15), some (some 16), some (some 17), some (some 18), none, some (some 20), some (some 21), some (some 22), some (some 23), some (some 24), some (some 25), some (some 26), none, none, some (some 29)]) (v := .ref (ad_70 3)) X hW fs_X10_13_9 dX10_init_267 rfl ha_72 rfl rfl ?_
    refine lv_iload_n X.1 X.2.1 dX10_init_270 rfl (lv_at hl 0 rfl) ?_
    refine lv_iconst (v := (-1)) X.1 X.2.1 dX10_init_271 (by decide) ?_
    refine zr_iast (r := 3) X hW dX10_init_272 rfl rfl rfl (zi_vp (by decide)) (fun H locs hW => ?_)
    obtain ⟨g_167, hg_167⟩ : ∃ z : zm_T, z = zm_w g_166 3 5 ((-1)) := ⟨_, rfl⟩
    change zw_St Y N0 _ _ (zm_w g_166 3 5 ((-1))) s H locs at hW
    rw [← hg_167] at hW
    refine lv_iinc (v := 6) (lv' := [(2, .int 6), (0, .ref (ad 0)), (1, .int sk)]) X.1 X.2.1 dX10_init_273 hl (k := 0) rfl (by decide) (by decide) rfl (fun ls hl => ?_)
    refine lv_goto (tgt := 260) X.1 X.2.1 dX10_init_276 (by decide) ?_
    refine lv_iload_n X.1 X.2.1 dX10_init_260 rfl (lv_at hl 0 rfl) ?_
    refine lv_bipush (v := 6) X.1 X.2.1 dX10_init_261 (by decide) ?_
    refine zr_icmp_ge (a := 6) (b := 6) (tgt := 279) X dX10_init_263 (by decide) (by decide) (by decide) (fun _ => ?_) (fun c9 => absurd c9 (by decide))
    have ev : zs_sk sk = 0 := by unfold zs_sk; (repeat (first | rw [if_pos (by omega)] | rw [if_neg (by omega)]))
    have eg : g_167 = zm_mix (zs_u0 (zs_sk sk)) g := by rw [hg_167, hg_166, hg_165, hg_164, hg_163, hg_162, hg_161, hg_160, hg_159, hg_158, hg_157, hg_156, hg_155, hg_154, hg_153, hg_152, hg_151, hg_150, hg_149, hg_148, hg_147, hg_146, hg_145, hg_144, hg_143, hg_142, hg_141, hg_140, hg_139, hg_138, hg_137, hg_71, hg_68, hg_65, hg_62, hg_59, hg_56, hg_53, hg_50, hg_47, hg_44, hg_41, hg_38, hg_35, hg_32, hg_29, hg_26, hg_23, hg_20, hg_17, hg_14, hg_11, hg_8, hg_5, hg_2, ev]; exact zm_G0 g hg0 0
    rw [eg] at hW
    exact zr_vret X hW dX10_init_279 (Nat.le_of_ble_eq_true rfl) (Nat.le_of_ble_eq_true rfl) ⟨rfl, zm_S0 sh, rfl, fun r h => ((had_70 r (by omega)).trans ((had_67 r (by omega)).trans ((had_64 r (by omega)).trans ((had_61 r (by omega)).trans ((had_58 r (by omega)).trans ((had_55 r (by omega)).trans ((had_52 r (by omega)).trans ((had_49 r (by omega)).trans ((had_46 r (by omega)).trans ((had_43 r (by omega)).trans ((had_40 r (by omega)).trans ((had_37 r (by omega)).trans ((had_34 r (by omega)).trans ((had_31 r (by omega)).trans ((had_28 r (by omega)).trans ((had_25 r (by omega)).trans ((had_22 r (by omega)).trans ((had_19 r (by omega)).trans ((had_16 r (by omega)).trans ((had_13 r (by omega)).trans ((had_10 r (by omega)).trans ((had_7 r (by omega)).trans ((had_4 r (by omega)).trans (had_1 r (by omega))))))))))))))))))))))))), fun r h => zm_sh0r h⟩

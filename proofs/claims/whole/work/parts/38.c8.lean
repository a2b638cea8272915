/-- a call of the class: its answer and the memory behind it are q's; what isn't the class's stays -/
def zc_fr (ad : Nat → Nat) (sh : Nat → Option zw_Sh) (g : zm_T) (ad' : Nat → Nat) (sh' : Nat → Option zw_Sh) (g' : zm_T) : Prop := (∀ r, r ≤ 100 → ad' r = ad r) ∧ ∀ r, r < 100 → sh' r = sh r ∧ g' r = g r
def zc_Po (ad : Nat → Nat) (sh : Nat → Option zw_Sh) (g : zm_T) (q : Int32 × zm_T) : zw_Po := fun v ad' sh' g' => v = some (.int q.1) ∧ zc_R sh' g' q.2 ∧ zc_fr ad sh g ad' sh' g'
theorem zc_fr0 {ad : Nat → Nat} {sh : Nat → Option zw_Sh} {g : zm_T} : zc_fr ad sh g ad sh g := ⟨fun _ _ => rfl, fun _ _ => ⟨rfl, rfl⟩⟩
theorem zc_fr1 {ad : Nat → Nat} {sh : Nat → Option zw_Sh} {g g' : zm_T} (h : ∀ r, r < 100 → g' r = g r) : zc_fr ad sh g ad sh g' := ⟨fun _ _ => rfl, fun r hr => ⟨rfl, h r hr⟩⟩
theorem zc_Rof {sh : Nat → Option zw_Sh} {g u g' u' : zm_T} (hR : zc_R sh g u) (hN : zc_N g' u') (hu : ∀ r i : Nat, ((9 ≤ r ∧ r ≤ 18) ∨ r = 20 ∨ r = 22 ∨ r = 23 ∨ r = 24 ∨ r = 29 ∨ (r = 0 ∧ (i = 8 ∨ i = 28))) → u' r i = u r i) (hg : ∀ r : Nat, (200 ≤ r ∨ r = 134 ∨ r = 136 ∨ r = 138 ∨ r = 140) → g' r = g r) (hg2 : ∀ j : Nat, j < 4 → g' (115 + j) 2 = g (115 + j) 2) : zc_R sh g' u' := by
  obtain ⟨h1, h2, h3, h4, h5, h6, h7, cf, h8, h9⟩ := hR
  have e8 : u' 0 8 = u 0 8 := hu 0 8 (by omega)
  have e28 : u' 0 28 = u 0 28 := hu 0 28 (by omega)
  refine ⟨h1, hN, ?_, ?_, by rw [e8]; exact h5, ?_, by rw [e8]; exact h7, cf, h8, ?_⟩
  · intro j hj hn
    rw [hu 20 _ (by omega)] at hn
    rw [hg2 j hj, hu 22 _ (by omega)]
    exact h3 j hj hn
  · intro j t hj ht hn
    rw [hu 23 _ (by omega)] at hn
    rw [hg _ (by omega), hu 24 _ (by omega)]
    exact h4 j t hj ht hn
  · intro i hi
    rw [e8] at hi
    have q := h6 i hi
    unfold zc_sl at q ⊢
    rw [hu 9 i (by omega), hu 10 i (by omega), hu 11 i (by omega), hu 12 i (by omega), hu 13 i (by omega), hu 14 i (by omega), hu 15 i (by omega), hu 16 i (by omega), hu 17 i (by omega), hu 18 i (by omega), hg (200 + 2 * i) (by omega), hg (201 + 2 * i) (by omega)]
    exact q
  · intro j hj
    rw [e28] at hj
    rw [h9 j hj, hu 29 j (by omega)]

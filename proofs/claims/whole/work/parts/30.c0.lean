/-! the class: its cells by roles. 100 the realm, 101 clocks, 102 ownKeys, 103 book (109 keys, 110 limits, 111 rights, 121 .. 126 its rows), 104 savedBook (112, 113, 114, 127 .. 132), 105 users (115 .. 118, tickets 133, 135 .., sessionKeys 134, 136 ..), 106 service (119 files, 120 cache), 107 seals, 108 stolen; 200 + 2 i the seal i, 201 + 2 i its order -/
def zc_shl : List (Nat × zw_Sh) := [(100, .inl (8, [none, some (some 101), some (some 102), some (some 103), some (some 104), some (some 105), some (some 106), some (some 107), none, some (some 108), none, none])), (101, .inr (0, 6, none)), (102, .inr (0, 6, none)), (103, .inl (0, [some (some 109), some (some 110), some (some 111)])), (104, .inl (0, [some (some 112), some (some 113), some (some 114)])), (105, .inr (4, 4, some (fun i => if i < 4 then some (115 + i) else none))), (106, .inl (2, [some (some 119), some (some 120), none, none])), (108, .inr (1, 200, none)), (109, .inr (0, 6, none)), (110, .inr (0, 6, none)), (111, .inr (5, 6, some (fun i => if i < 6 then some (121 + i) else none))), (112, .inr (0, 6, none)), (113, .inr (0, 6, none)), (114, .inr (5, 6, some (fun i => if i < 6 then some (127 + i) else none))), (115, .inl (7, [none, none, none, none, some (some 133), some (some 134)])), (116, .inl (7, [none, none, none, none, some (some 135), some (some 136)])), (117, .inl (7, [none, none, none, none, some (some 137), some (some 138)])), (118, .inl (7, [none, none, none, none, some (some 139), some (some 140)])), (119, .inr (0, 3, none)), (121, .inr (0, 3, none)), (122, .inr (0, 3, none)), (123, .inr (0, 3, none)), (124, .inr (0, 3, none)), (125, .inr (0, 3, none)), (126, .inr (0, 3, none)), (127, .inr (0, 3, none)), (128, .inr (0, 3, none)), (129, .inr (0, 3, none)), (130, .inr (0, 3, none)), (131, .inr (0, 3, none)), (132, .inr (0, 3, none)), (133, .inr (0, 2, none)), (134, .inr (0, 2, none)), (135, .inr (0, 2, none)), (136, .inr (0, 2, none)), (137, .inr (0, 2, none)), (138, .inr (0, 2, none)), (139, .inr (0, 2, none)), (140, .inr (0, 2, none))]
def zc_S (sh : Nat → Option zw_Sh) : Prop := ∀ q ∈ zc_shl, sh q.1 = some q.2
theorem zc_s100 {sh : Nat → Option zw_Sh} (h : zc_S sh) : sh 100 = some (.inl (8, [none, some (some 101), some (some 102), some (some 103), some (some 104), some (some 105), some (some 106), some (some 107), none, some (some 108), none, none])) := h _ (List.mem_of_getElem? (i := 0) rfl)
theorem zc_s101 {sh : Nat → Option zw_Sh} (h : zc_S sh) : sh 101 = some (.inr (0, 6, none)) := h _ (List.mem_of_getElem? (i := 1) rfl)
theorem zc_s102 {sh : Nat → Option zw_Sh} (h : zc_S sh) : sh 102 = some (.inr (0, 6, none)) := h _ (List.mem_of_getElem? (i := 2) rfl)
theorem zc_s103 {sh : Nat → Option zw_Sh} (h : zc_S sh) : sh 103 = some (.inl (0, [some (some 109), some (some 110), some (some 111)])) := h _ (List.mem_of_getElem? (i := 3) rfl)
theorem zc_s104 {sh : Nat → Option zw_Sh} (h : zc_S sh) : sh 104 = some (.inl (0, [some (some 112), some (some 113), some (some 114)])) := h _ (List.mem_of_getElem? (i := 4) rfl)
theorem zc_s105 {sh : Nat → Option zw_Sh} (h : zc_S sh) : sh 105 = some (.inr (4, 4, some (fun i => if i < 4 then some (115 + i) else none))) := h _ (List.mem_of_getElem? (i := 5) rfl)
theorem zc_s106 {sh : Nat → Option zw_Sh} (h : zc_S sh) : sh 106 = some (.inl (2, [some (some 119), some (some 120), none, none])) := h _ (List.mem_of_getElem? (i := 6) rfl)
theorem zc_s108 {sh : Nat → Option zw_Sh} (h : zc_S sh) : sh 108 = some (.inr (1, 200, none)) := h _ (List.mem_of_getElem? (i := 7) rfl)
theorem zc_s109 {sh : Nat → Option zw_Sh} (h : zc_S sh) : sh 109 = some (.inr (0, 6, none)) := h _ (List.mem_of_getElem? (i := 8) rfl)
theorem zc_s110 {sh : Nat → Option zw_Sh} (h : zc_S sh) : sh 110 = some (.inr (0, 6, none)) := h _ (List.mem_of_getElem? (i := 9) rfl)
theorem zc_s111 {sh : Nat → Option zw_Sh} (h : zc_S sh) : sh 111 = some (.inr (5, 6, some (fun i => if i < 6 then some (121 + i) else none))) := h _ (List.mem_of_getElem? (i := 10) rfl)
theorem zc_s112 {sh : Nat → Option zw_Sh} (h : zc_S sh) : sh 112 = some (.inr (0, 6, none)) := h _ (List.mem_of_getElem? (i := 11) rfl)
theorem zc_s113 {sh : Nat → Option zw_Sh} (h : zc_S sh) : sh 113 = some (.inr (0, 6, none)) := h _ (List.mem_of_getElem? (i := 12) rfl)
theorem zc_s114 {sh : Nat → Option zw_Sh} (h : zc_S sh) : sh 114 = some (.inr (5, 6, some (fun i => if i < 6 then some (127 + i) else none))) := h _ (List.mem_of_getElem? (i := 13) rfl)
theorem zc_s115 {sh : Nat → Option zw_Sh} (h : zc_S sh) : sh 115 = some (.inl (7, [none, none, none, none, some (some 133), some (some 134)])) := h _ (List.mem_of_getElem? (i := 14) rfl)
theorem zc_s116 {sh : Nat → Option zw_Sh} (h : zc_S sh) : sh 116 = some (.inl (7, [none, none, none, none, some (some 135), some (some 136)])) := h _ (List.mem_of_getElem? (i := 15) rfl)
theorem zc_s117 {sh : Nat → Option zw_Sh} (h : zc_S sh) : sh 117 = some (.inl (7, [none, none, none, none, some (some 137), some (some 138)])) := h _ (List.mem_of_getElem? (i := 16) rfl)
theorem zc_s118 {sh : Nat → Option zw_Sh} (h : zc_S sh) : sh 118 = some (.inl (7, [none, none, none, none, some (some 139), some (some 140)])) := h _ (List.mem_of_getElem? (i := 17) rfl)
theorem zc_s119 {sh : Nat → Option zw_Sh} (h : zc_S sh) : sh 119 = some (.inr (0, 3, none)) := h _ (List.mem_of_getElem? (i := 18) rfl)
theorem zc_s121 {sh : Nat → Option zw_Sh} (h : zc_S sh) : sh 121 = some (.inr (0, 3, none)) := h _ (List.mem_of_getElem? (i := 19) rfl)
theorem zc_s122 {sh : Nat → Option zw_Sh} (h : zc_S sh) : sh 122 = some (.inr (0, 3, none)) := h _ (List.mem_of_getElem? (i := 20) rfl)
theorem zc_s123 {sh : Nat → Option zw_Sh} (h : zc_S sh) : sh 123 = some (.inr (0, 3, none)) := h _ (List.mem_of_getElem? (i := 21) rfl)
theorem zc_s124 {sh : Nat → Option zw_Sh} (h : zc_S sh) : sh 124 = some (.inr (0, 3, none)) := h _ (List.mem_of_getElem? (i := 22) rfl)
theorem zc_s125 {sh : Nat → Option zw_Sh} (h : zc_S sh) : sh 125 = some (.inr (0, 3, none)) := h _ (List.mem_of_getElem? (i := 23) rfl)
theorem zc_s126 {sh : Nat → Option zw_Sh} (h : zc_S sh) : sh 126 = some (.inr (0, 3, none)) := h _ (List.mem_of_getElem? (i := 24) rfl)
theorem zc_s127 {sh : Nat → Option zw_Sh} (h : zc_S sh) : sh 127 = some (.inr (0, 3, none)) := h _ (List.mem_of_getElem? (i := 25) rfl)
theorem zc_s128 {sh : Nat → Option zw_Sh} (h : zc_S sh) : sh 128 = some (.inr (0, 3, none)) := h _ (List.mem_of_getElem? (i := 26) rfl)
theorem zc_s129 {sh : Nat → Option zw_Sh} (h : zc_S sh) : sh 129 = some (.inr (0, 3, none)) := h _ (List.mem_of_getElem? (i := 27) rfl)
theorem zc_s130 {sh : Nat → Option zw_Sh} (h : zc_S sh) : sh 130 = some (.inr (0, 3, none)) := h _ (List.mem_of_getElem? (i := 28) rfl)
theorem zc_s131 {sh : Nat → Option zw_Sh} (h : zc_S sh) : sh 131 = some (.inr (0, 3, none)) := h _ (List.mem_of_getElem? (i := 29) rfl)
theorem zc_s132 {sh : Nat → Option zw_Sh} (h : zc_S sh) : sh 132 = some (.inr (0, 3, none)) := h _ (List.mem_of_getElem? (i := 30) rfl)
theorem zc_s133 {sh : Nat → Option zw_Sh} (h : zc_S sh) : sh 133 = some (.inr (0, 2, none)) := h _ (List.mem_of_getElem? (i := 31) rfl)
theorem zc_s134 {sh : Nat → Option zw_Sh} (h : zc_S sh) : sh 134 = some (.inr (0, 2, none)) := h _ (List.mem_of_getElem? (i := 32) rfl)
theorem zc_s135 {sh : Nat → Option zw_Sh} (h : zc_S sh) : sh 135 = some (.inr (0, 2, none)) := h _ (List.mem_of_getElem? (i := 33) rfl)
theorem zc_s136 {sh : Nat → Option zw_Sh} (h : zc_S sh) : sh 136 = some (.inr (0, 2, none)) := h _ (List.mem_of_getElem? (i := 34) rfl)
theorem zc_s137 {sh : Nat → Option zw_Sh} (h : zc_S sh) : sh 137 = some (.inr (0, 2, none)) := h _ (List.mem_of_getElem? (i := 35) rfl)
theorem zc_s138 {sh : Nat → Option zw_Sh} (h : zc_S sh) : sh 138 = some (.inr (0, 2, none)) := h _ (List.mem_of_getElem? (i := 36) rfl)
theorem zc_s139 {sh : Nat → Option zw_Sh} (h : zc_S sh) : sh 139 = some (.inr (0, 2, none)) := h _ (List.mem_of_getElem? (i := 37) rfl)
theorem zc_s140 {sh : Nat → Option zw_Sh} (h : zc_S sh) : sh 140 = some (.inr (0, 2, none)) := h _ (List.mem_of_getElem? (i := 38) rfl)
/-- where the reference keeps the number i of the cell r -/
def zc_lm (r i : Nat) : Option (Nat × Nat) := if r = 100 ∧ i = 0 then some (0, 0) else if r = 100 ∧ i = 8 then some (0, 8) else if r = 100 ∧ i = 10 then some (0, 2) else if r = 100 ∧ i = 11 then some (0, 19) else if r = 101 ∧ i < 6 then some (1, i) else if r = 102 ∧ i < 6 then some (3, i) else if r = 108 ∧ i < 200 then some (4, i) else if r = 109 ∧ i < 6 then some (5, i) else if r = 110 ∧ i < 6 then some (6, i) else if r = 112 ∧ i < 6 then some (5, (6 + i)) else if r = 113 ∧ i < 6 then some (6, (6 + i)) else if 121 ≤ r ∧ r < 127 ∧ i < 3 then some (7, (3 * (r - 121) + i)) else if 127 ≤ r ∧ r < 133 ∧ i < 3 then some (7, (3 * (r - 121) + i)) else if r = 106 ∧ i = 2 then some (0, 28) else if r = 106 ∧ i = 3 then some (0, 27) else if r = 119 ∧ i < 3 then some (26, i) else if 115 ≤ r ∧ r < 119 ∧ i = 0 then some (20, (r - 113)) else if 115 ≤ r ∧ r < 119 ∧ i = 1 then some (21, (r - 113)) else if 115 ≤ r ∧ r < 119 ∧ i = 3 then some (25, (r - 113)) else if (r = 133 ∨ r = 135 ∨ r = 137 ∨ r = 139) ∧ i < 2 then some (23, (r - 129 + i)) else none
def zc_ml (m k : Nat) : Nat × Nat := if m = 0 then (if k = 0 then (100, 0) else if k = 8 then (100, 8) else if k = 2 then (100, 10) else if k = 19 then (100, 11) else if k = 28 then (106, 2) else (106, 3)) else if m = 1 then (101, k) else if m = 3 then (102, k) else if m = 4 then (108, k) else if m = 5 then (if k < 6 then (109, k) else (112, k - 6)) else if m = 6 then (if k < 6 then (110, k) else (113, k - 6)) else if m = 7 then (121 + k / 3, k % 3) else if m = 26 then (119, k) else if m = 20 then (k + 113, 0) else if m = 21 then (k + 113, 1) else if m = 25 then (k + 113, 3) else (133 + 2 * ((k - 4) / 2), k % 2)
theorem zc_inv {r i m k : Nat} (h : zc_lm r i = some (m, k)) : zc_ml m k = (r, i) := by
  unfold zc_lm at h
  by_cases c0 : r = 100 ∧ i = 0
  · rw [if_pos c0] at h; cases h; simp [zc_ml]; first | omega | (split <;> first | omega | (simp; omega))
  rw [if_neg c0] at h
  by_cases c1 : r = 100 ∧ i = 8
  · rw [if_pos c1] at h; cases h; simp [zc_ml]; first | omega | (split <;> first | omega | (simp; omega))
  rw [if_neg c1] at h
  by_cases c2 : r = 100 ∧ i = 10
  · rw [if_pos c2] at h; cases h; simp [zc_ml]; first | omega | (split <;> first | omega | (simp; omega))
  rw [if_neg c2] at h
  by_cases c3 : r = 100 ∧ i = 11
  · rw [if_pos c3] at h; cases h; simp [zc_ml]; first | omega | (split <;> first | omega | (simp; omega))
  rw [if_neg c3] at h
  by_cases c4 : r = 101 ∧ i < 6
  · rw [if_pos c4] at h; cases h; simp [zc_ml]; first | omega | (split <;> first | omega | (simp; omega))
  rw [if_neg c4] at h
  by_cases c5 : r = 102 ∧ i < 6
  · rw [if_pos c5] at h; cases h; simp [zc_ml]; first | omega | (split <;> first | omega | (simp; omega))
  rw [if_neg c5] at h
  by_cases c6 : r = 108 ∧ i < 200
  · rw [if_pos c6] at h; cases h; simp [zc_ml]; first | omega | (split <;> first | omega | (simp; omega))
  rw [if_neg c6] at h
  by_cases c7 : r = 109 ∧ i < 6
  · rw [if_pos c7] at h; cases h; simp [zc_ml]; first | omega | (split <;> first | omega | (simp; omega))
  rw [if_neg c7] at h
  by_cases c8 : r = 110 ∧ i < 6
  · rw [if_pos c8] at h; cases h; simp [zc_ml]; first | omega | (split <;> first | omega | (simp; omega))
  rw [if_neg c8] at h
  by_cases c9 : r = 112 ∧ i < 6
  · rw [if_pos c9] at h; cases h; simp [zc_ml]; first | omega | (split <;> first | omega | (simp; omega))
  rw [if_neg c9] at h
  by_cases c10 : r = 113 ∧ i < 6
  · rw [if_pos c10] at h; cases h; simp [zc_ml]; first | omega | (split <;> first | omega | (simp; omega))
  rw [if_neg c10] at h
  by_cases c11 : 121 ≤ r ∧ r < 127 ∧ i < 3
  · rw [if_pos c11] at h; cases h; simp [zc_ml]; first | omega | (split <;> first | omega | (simp; omega))
  rw [if_neg c11] at h
  by_cases c12 : 127 ≤ r ∧ r < 133 ∧ i < 3
  · rw [if_pos c12] at h; cases h; simp [zc_ml]; first | omega | (split <;> first | omega | (simp; omega))
  rw [if_neg c12] at h
  by_cases c13 : r = 106 ∧ i = 2
  · rw [if_pos c13] at h; cases h; simp [zc_ml]; first | omega | (split <;> first | omega | (simp; omega))
  rw [if_neg c13] at h
  by_cases c14 : r = 106 ∧ i = 3
  · rw [if_pos c14] at h; cases h; simp [zc_ml]; first | omega | (split <;> first | omega | (simp; omega))
  rw [if_neg c14] at h
  by_cases c15 : r = 119 ∧ i < 3
  · rw [if_pos c15] at h; cases h; simp [zc_ml]; first | omega | (split <;> first | omega | (simp; omega))
  rw [if_neg c15] at h
  by_cases c16 : 115 ≤ r ∧ r < 119 ∧ i = 0
  · rw [if_pos c16] at h; cases h; simp [zc_ml]; first | omega | (split <;> first | omega | (simp; omega))
  rw [if_neg c16] at h
  by_cases c17 : 115 ≤ r ∧ r < 119 ∧ i = 1
  · rw [if_pos c17] at h; cases h; simp [zc_ml]; first | omega | (split <;> first | omega | (simp; omega))
  rw [if_neg c17] at h
  by_cases c18 : 115 ≤ r ∧ r < 119 ∧ i = 3
  · rw [if_pos c18] at h; cases h; simp [zc_ml]; first | omega | (split <;> first | omega | (simp; omega))
  rw [if_neg c18] at h
  by_cases c19 : (r = 133 ∨ r = 135 ∨ r = 137 ∨ r = 139) ∧ i < 2
  · rw [if_pos c19] at h; cases h; simp [zc_ml]; first | omega | (split <;> first | omega | (simp; omega))
  rw [if_neg c19] at h
  cases h
/-- the numbers agree -/
def zc_N (g u : zm_T) : Prop := ∀ r i m k, zc_lm r i = some (m, k) → g r i = u m k
theorem zc_Nw {g u : zm_T} (h : zc_N g u) {r i m k : Nat} (hl : zc_lm r i = some (m, k)) (x : Int32) : zc_N (zm_w g r i x) (zm_w u m k x) := by
  intro r' i' m' k' hl'
  by_cases hq : m' = m ∧ k' = k
  · obtain ⟨rfl, rfl⟩ := hq
    have e := (zc_inv hl).symm.trans (zc_inv hl')
    cases e
    rw [zm_ws, zm_ws]
  · have hne : r' ≠ r ∨ i' ≠ i := by
      by_cases h1 : r' = r
      · right
        intro h2
        subst h1; subst h2
        rw [hl] at hl'
        cases hl'
        exact hq ⟨rfl, rfl⟩
      · exact Or.inl h1
    rw [zm_wn _ _ hne, zm_wn _ _ (by by_cases h1 : m' = m; exact Or.inr (fun h2 => hq ⟨h1, h2⟩); exact Or.inl h1)]
    exact h r' i' m' k' hl'
theorem zc_Nc {g u : zm_T} (h : zc_N g u) {r i : Nat} (hl : zc_lm r i = none) (x : Int32) : zc_N (zm_w g r i x) u := by
  intro r' i' m' k' hl'
  have hne : r' ≠ r ∨ i' ≠ i := by
    by_cases h1 : r' = r
    · right
      intro h2
      subst h1; subst h2
      rw [hl] at hl'
      cases hl'
    · exact Or.inl h1
  rw [zm_wn _ _ hne]
  exact h r' i' m' k' hl'
theorem zc_Nm {g u : zm_T} (h : zc_N g u) {m k : Nat} (hl : ∀ r i, zc_lm r i ≠ some (m, k)) (x : Int32) : zc_N g (zm_w u m k x) := by
  intro r' i' m' k' hl'
  rw [zm_wn _ _ (by by_cases h1 : m' = m; (subst h1; exact Or.inr (fun h2 => by subst h2; exact hl _ _ hl')); exact Or.inl h1)]
  exact h r' i' m' k' hl'
/-- the seal i: its cell, its numbers -/
def zc_sl (sh : Nat → Option zw_Sh) (g u : zm_T) (i : Nat) : Prop :=
  ((u 9 i).toInt = 1 → sh (200 + 2 * i) = some (.inl (5, [none, none, none])) ∧ g (200 + 2 * i) 0 = u 10 i ∧ g (200 + 2 * i) 1 = u 11 i ∧ g (200 + 2 * i) 2 = u 13 i) ∧
  ((u 9 i).toInt = 2 → sh (200 + 2 * i) = some (.inl (6, [none, none, none, none, none, none])) ∧ g (200 + 2 * i) 0 = u 10 i ∧ g (200 + 2 * i) 1 = u 11 i ∧ g (200 + 2 * i) 2 = u 12 i ∧ g (200 + 2 * i) 3 = u 13 i ∧ g (200 + 2 * i) 4 = u 14 i ∧ g (200 + 2 * i) 5 = u 15 i) ∧
  ((u 9 i).toInt = 3 → sh (200 + 2 * i) = some (.inl (4, [none, none, none, none, none])) ∧ g (200 + 2 * i) 0 = u 10 i ∧ g (200 + 2 * i) 1 = u 12 i ∧ g (200 + 2 * i) 2 = u 13 i ∧ g (200 + 2 * i) 3 = u 14 i ∧ g (200 + 2 * i) 4 = u 15 i) ∧
  ((u 9 i).toInt = 4 → sh (200 + 2 * i) = some (.inl (1, [none, none, none, none, some (some (201 + 2 * i))])) ∧ sh (201 + 2 * i) = some (.inl (3, [none, none, none])) ∧ g (200 + 2 * i) 0 = u 10 i ∧ g (200 + 2 * i) 1 = u 11 i ∧ g (200 + 2 * i) 2 = u 13 i ∧ g (200 + 2 * i) 3 = u 14 i ∧ g (201 + 2 * i) 0 = u 16 i ∧ g (201 + 2 * i) 1 = u 17 i ∧ g (201 + 2 * i) 2 = u 18 i)
def zc_sf (n : Nat) : Nat → Option Nat := fun i => if i < n then some (200 + 2 * i) else none
/-- the class's cells and numbers are those of the reference's memory u -/
def zc_R (sh : Nat → Option zw_Sh) (g u : zm_T) : Prop := zc_S sh ∧ zc_N g u ∧
  (∀ j : Nat, j < 4 → ¬ (u 20 (j + 2)).toInt = 0 → g (115 + j) 2 = u 22 (j + 2)) ∧ (∀ j t : Nat, j < 4 → t < 2 → ¬ (u 23 (2 * j + 4 + t)).toInt = -1 → g (134 + 2 * j) t = u 24 (2 * j + 4 + t)) ∧
  sh 107 = some (.inr (3, 150, some (zc_sf (zn (u 0 8))))) ∧ (∀ i : Nat, i < zn (u 0 8) → zc_sl sh g u i) ∧ (∀ r : Nat, 200 + 2 * zn (u 0 8) ≤ r → sh r = none) ∧
  ∃ cf : Nat → Option Nat, sh 120 = some (.inr (2, 12, some cf)) ∧ ∀ j : Nat, j < zn (u 0 28) → cf j = some (200 + 2 * zn (u 29 j))
theorem zr_S {sh : Nat → Option zw_Sh} {g u : zm_T} (h : zc_R sh g u) : zc_S sh := h.1
theorem zr_N {sh : Nat → Option zw_Sh} {g u : zm_T} (h : zc_R sh g u) {r i m k : Nat} (hl : zc_lm r i = some (m, k)) : g r i = u m k := h.2.1 r i m k hl

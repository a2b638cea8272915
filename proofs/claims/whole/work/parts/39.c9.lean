theorem cu_heldKey_1 {R : Room} {s : State} {args : Array Value} {Y : zw_Y} (hR : 0 + 1 ≤ R.frames ∧ 8 + (1 + 11) + 0 ≤ R.locals) : zw_K Y s → (∀ w ∈ zt_good, w.before args s = true) → va_CU R s args RX9 "TicketRealm$Proof" "TicketRealm$Seal" 273 ⟨"TicketRealm$Seal", "heldKey", "()I"⟩ yX6_heldKey cX6_heldKey 1 (some .int) (Cond.code yX6_heldKey cX6_heldKey 1 (some .int) :: zt_good) { frames := 0, cells := 0, slots := 0, locals := 0 } 0 0 0 := by
  intro hK hts
  refine va_cwU 0 hts (zt_code (ws := [.methodLink RX9 273 ⟨"TicketRealm$Seal", "heldKey", "()I"⟩, .sameMethod "TicketRealm$Seal" "TicketRealm$Seal" "heldKey" "()I", .selects "TicketRealm$Proof" ⟨"TicketRealm$Seal", "heldKey", "()I"⟩ yX6_heldKey, .instanceMethod yX6_heldKey, .initialized (yX6_heldKey).cls]) md_X6_heldKey.1 ?_) rfl rfl rfl rfl ⟨by decide, by decide, by decide +kernel⟩ hR
  exact List.forall_mem_cons.mpr ⟨(zt_in (zt_t3 7 rfl) rfl), List.forall_mem_cons.mpr ⟨(zt_in (zt_t3 9 rfl) rfl), List.forall_mem_cons.mpr ⟨(zt_in (zt_t3 14 rfl) rfl), List.forall_mem_cons.mpr ⟨(zt_in (zt_t3 8 rfl) rfl), List.forall_mem_cons.mpr ⟨(zt_in (zt_t1 7 rfl) rfl), fun _ h => absurd h List.not_mem_nil⟩⟩⟩⟩⟩

theorem cu_heldKey_2 {R : Room} {s : State} {args : Array Value} {Y : zw_Y} (hR : 0 + 1 ≤ R.frames ∧ 8 + (1 + 11) + 0 ≤ R.locals) : zw_K Y s → (∀ w ∈ zt_good, w.before args s = true) → va_CU R s args RX9 "TicketRealm$Ticket" "TicketRealm$Seal" 273 ⟨"TicketRealm$Seal", "heldKey", "()I"⟩ yX7_heldKey cX7_heldKey 1 (some .int) (Cond.code yX7_heldKey cX7_heldKey 1 (some .int) :: zt_good) { frames := 0, cells := 0, slots := 0, locals := 0 } 0 0 0 := by
  intro hK hts
  refine va_cwO 0 hts (zt_code (ws := [.methodLink RX9 273 ⟨"TicketRealm$Seal", "heldKey", "()I"⟩, .sameMethod "TicketRealm$Seal" "TicketRealm$Seal" "heldKey" "()I", .instanceMethod ⟨"TicketRealm$Seal", "heldKey", "()I"⟩, .selects "TicketRealm$Ticket" ⟨"TicketRealm$Seal", "heldKey", "()I"⟩ yX7_heldKey, .instanceMethod yX7_heldKey, .initialized (yX7_heldKey).cls]) md_X7_heldKey.1 ?_) rfl rfl rfl md_X6_heldKey.1 ⟨by decide, by decide, by decide +kernel⟩ hR
  exact List.forall_mem_cons.mpr ⟨(zt_in (zt_t3 7 rfl) rfl), List.forall_mem_cons.mpr ⟨(zt_in (zt_t3 9 rfl) rfl), List.forall_mem_cons.mpr ⟨(zt_in (zt_t3 8 rfl) rfl), List.forall_mem_cons.mpr ⟨(zt_in (zt_t3 15 rfl) rfl), List.forall_mem_cons.mpr ⟨(zt_in (zt_t3 16 rfl) rfl), List.forall_mem_cons.mpr ⟨(zt_in (zt_t1 11 rfl) rfl), fun _ h => absurd h List.not_mem_nil⟩⟩⟩⟩⟩⟩

theorem cu_heldKey_3 {R : Room} {s : State} {args : Array Value} {Y : zw_Y} (hR : 0 + 1 ≤ R.frames ∧ 8 + (1 + 11) + 0 ≤ R.locals) : zw_K Y s → (∀ w ∈ zt_good, w.before args s = true) → va_CU R s args RX9 "TicketRealm$Part" "TicketRealm$Seal" 273 ⟨"TicketRealm$Seal", "heldKey", "()I"⟩ yX4_heldKey cX4_heldKey 1 (some .int) (Cond.code yX4_heldKey cX4_heldKey 1 (some .int) :: zt_good) { frames := 0, cells := 0, slots := 0, locals := 0 } 0 0 0 := by
  intro hK hts
  refine va_cwO 0 hts (zt_code (ws := [.methodLink RX9 273 ⟨"TicketRealm$Seal", "heldKey", "()I"⟩, .sameMethod "TicketRealm$Seal" "TicketRealm$Seal" "heldKey" "()I", .instanceMethod ⟨"TicketRealm$Seal", "heldKey", "()I"⟩, .selects "TicketRealm$Part" ⟨"TicketRealm$Seal", "heldKey", "()I"⟩ yX4_heldKey, .instanceMethod yX4_heldKey, .initialized (yX4_heldKey).cls]) md_X4_heldKey.1 ?_) rfl rfl rfl md_X6_heldKey.1 ⟨by decide, by decide, by decide +kernel⟩ hR
  exact List.forall_mem_cons.mpr ⟨(zt_in (zt_t3 7 rfl) rfl), List.forall_mem_cons.mpr ⟨(zt_in (zt_t3 9 rfl) rfl), List.forall_mem_cons.mpr ⟨(zt_in (zt_t3 8 rfl) rfl), List.forall_mem_cons.mpr ⟨(zt_in (zt_t3 11 rfl) rfl), List.forall_mem_cons.mpr ⟨(zt_in (zt_t3 12 rfl) rfl), List.forall_mem_cons.mpr ⟨(zt_in (zt_t1 12 rfl) rfl), fun _ h => absurd h List.not_mem_nil⟩⟩⟩⟩⟩⟩

theorem cu_heldKey_4 {R : Room} {s : State} {args : Array Value} {Y : zw_Y} (hR : 0 + 1 ≤ R.frames ∧ 8 + (1 + 11) + 0 ≤ R.locals) : zw_K Y s → (∀ w ∈ zt_good, w.before args s = true) → va_CU R s args RX9 "TicketRealm$Claim" "TicketRealm$Seal" 273 ⟨"TicketRealm$Seal", "heldKey", "()I"⟩ yX6_heldKey cX6_heldKey 1 (some .int) (Cond.code yX6_heldKey cX6_heldKey 1 (some .int) :: zt_good) { frames := 0, cells := 0, slots := 0, locals := 0 } 0 0 0 := by
  intro hK hts
  refine va_cwU 0 hts (zt_code (ws := [.methodLink RX9 273 ⟨"TicketRealm$Seal", "heldKey", "()I"⟩, .sameMethod "TicketRealm$Seal" "TicketRealm$Seal" "heldKey" "()I", .selects "TicketRealm$Claim" ⟨"TicketRealm$Seal", "heldKey", "()I"⟩ yX6_heldKey, .instanceMethod yX6_heldKey, .initialized (yX6_heldKey).cls]) md_X6_heldKey.1 ?_) rfl rfl rfl rfl ⟨by decide, by decide, by decide +kernel⟩ hR
  exact List.forall_mem_cons.mpr ⟨(zt_in (zt_t3 7 rfl) rfl), List.forall_mem_cons.mpr ⟨(zt_in (zt_t3 9 rfl) rfl), List.forall_mem_cons.mpr ⟨(zt_in (zt_t3 10 rfl) rfl), List.forall_mem_cons.mpr ⟨(zt_in (zt_t3 8 rfl) rfl), List.forall_mem_cons.mpr ⟨(zt_in (zt_t1 7 rfl) rfl), fun _ h => absurd h List.not_mem_nil⟩⟩⟩⟩⟩

theorem cu_kind_1 {R : Room} {s : State} {args : Array Value} {Y : zw_Y} (hR : 0 + 1 ≤ R.frames ∧ 8 + (1 + 11) + 0 ≤ R.locals) : zw_K Y s → (∀ w ∈ zt_good, w.before args s = true) → va_CU R s args RX9 "TicketRealm$Proof" "TicketRealm$Seal" 280 ⟨"TicketRealm$Seal", "kind", "()I"⟩ yX5_kind cX5_kind 1 (some .int) (Cond.code yX5_kind cX5_kind 1 (some .int) :: zt_good) { frames := 0, cells := 0, slots := 0, locals := 0 } 0 0 0 := by
  intro hK hts
  refine va_cwA 0 hts (zt_code (ws := [.methodLink RX9 280 ⟨"TicketRealm$Seal", "kind", "()I"⟩, .sameMethod "TicketRealm$Seal" "TicketRealm$Seal" "kind" "()I", .selects "TicketRealm$Proof" ⟨"TicketRealm$Seal", "kind", "()I"⟩ yX5_kind, .instanceMethod yX5_kind, .initialized (yX5_kind).cls]) md_X5_kind.1 ?_) rfl rfl rfl hK.2.2.2.1 ⟨by decide, by decide, by decide +kernel⟩ hR
  exact List.forall_mem_cons.mpr ⟨(zt_in (zt_t3 31 rfl) rfl), List.forall_mem_cons.mpr ⟨(zt_in (zt_t3 33 rfl) rfl), List.forall_mem_cons.mpr ⟨(zt_in (zt_t3 40 rfl) rfl), List.forall_mem_cons.mpr ⟨(zt_in (zt_t3 41 rfl) rfl), List.forall_mem_cons.mpr ⟨(zt_in (zt_t1 8 rfl) rfl), fun _ h => absurd h List.not_mem_nil⟩⟩⟩⟩⟩

theorem cu_kind_2 {R : Room} {s : State} {args : Array Value} {Y : zw_Y} (hR : 0 + 1 ≤ R.frames ∧ 8 + (1 + 11) + 0 ≤ R.locals) : zw_K Y s → (∀ w ∈ zt_good, w.before args s = true) → va_CU R s args RX9 "TicketRealm$Ticket" "TicketRealm$Seal" 280 ⟨"TicketRealm$Seal", "kind", "()I"⟩ yX7_kind cX7_kind 1 (some .int) (Cond.code yX7_kind cX7_kind 1 (some .int) :: zt_good) { frames := 0, cells := 0, slots := 0, locals := 0 } 0 0 0 := by
  intro hK hts
  refine va_cwA 0 hts (zt_code (ws := [.methodLink RX9 280 ⟨"TicketRealm$Seal", "kind", "()I"⟩, .sameMethod "TicketRealm$Seal" "TicketRealm$Seal" "kind" "()I", .selects "TicketRealm$Ticket" ⟨"TicketRealm$Seal", "kind", "()I"⟩ yX7_kind, .instanceMethod yX7_kind, .initialized (yX7_kind).cls]) md_X7_kind.1 ?_) rfl rfl rfl hK.2.2.2.1 ⟨by decide, by decide, by decide +kernel⟩ hR
  exact List.forall_mem_cons.mpr ⟨(zt_in (zt_t3 31 rfl) rfl), List.forall_mem_cons.mpr ⟨(zt_in (zt_t3 33 rfl) rfl), List.forall_mem_cons.mpr ⟨(zt_in (zt_t3 43 rfl) rfl), List.forall_mem_cons.mpr ⟨(zt_in (zt_t3 44 rfl) rfl), List.forall_mem_cons.mpr ⟨(zt_in (zt_t1 11 rfl) rfl), fun _ h => absurd h List.not_mem_nil⟩⟩⟩⟩⟩

theorem cu_kind_3 {R : Room} {s : State} {args : Array Value} {Y : zw_Y} (hR : 0 + 1 ≤ R.frames ∧ 8 + (1 + 11) + 0 ≤ R.locals) : zw_K Y s → (∀ w ∈ zt_good, w.before args s = true) → va_CU R s args RX9 "TicketRealm$Part" "TicketRealm$Seal" 280 ⟨"TicketRealm$Seal", "kind", "()I"⟩ yX4_kind cX4_kind 1 (some .int) (Cond.code yX4_kind cX4_kind 1 (some .int) :: zt_good) { frames := 0, cells := 0, slots := 0, locals := 0 } 0 0 0 := by
  intro hK hts
  refine va_cwA 0 hts (zt_code (ws := [.methodLink RX9 280 ⟨"TicketRealm$Seal", "kind", "()I"⟩, .sameMethod "TicketRealm$Seal" "TicketRealm$Seal" "kind" "()I", .selects "TicketRealm$Part" ⟨"TicketRealm$Seal", "kind", "()I"⟩ yX4_kind, .instanceMethod yX4_kind, .initialized (yX4_kind).cls]) md_X4_kind.1 ?_) rfl rfl rfl hK.2.2.2.1 ⟨by decide, by decide, by decide +kernel⟩ hR
  exact List.forall_mem_cons.mpr ⟨(zt_in (zt_t3 31 rfl) rfl), List.forall_mem_cons.mpr ⟨(zt_in (zt_t3 33 rfl) rfl), List.forall_mem_cons.mpr ⟨(zt_in (zt_t3 37 rfl) rfl), List.forall_mem_cons.mpr ⟨(zt_in (zt_t3 38 rfl) rfl), List.forall_mem_cons.mpr ⟨(zt_in (zt_t1 12 rfl) rfl), fun _ h => absurd h List.not_mem_nil⟩⟩⟩⟩⟩

theorem cu_kind_4 {R : Room} {s : State} {args : Array Value} {Y : zw_Y} (hR : 0 + 1 ≤ R.frames ∧ 8 + (1 + 11) + 0 ≤ R.locals) : zw_K Y s → (∀ w ∈ zt_good, w.before args s = true) → va_CU R s args RX9 "TicketRealm$Claim" "TicketRealm$Seal" 280 ⟨"TicketRealm$Seal", "kind", "()I"⟩ yX1_kind cX1_kind 1 (some .int) (Cond.code yX1_kind cX1_kind 1 (some .int) :: zt_good) { frames := 0, cells := 0, slots := 0, locals := 0 } 0 0 0 := by
  intro hK hts
  refine va_cwA 0 hts (zt_code (ws := [.methodLink RX9 280 ⟨"TicketRealm$Seal", "kind", "()I"⟩, .sameMethod "TicketRealm$Seal" "TicketRealm$Seal" "kind" "()I", .selects "TicketRealm$Claim" ⟨"TicketRealm$Seal", "kind", "()I"⟩ yX1_kind, .instanceMethod yX1_kind, .initialized (yX1_kind).cls]) md_X1_kind.1 ?_) rfl rfl rfl hK.2.2.2.1 ⟨by decide, by decide, by decide +kernel⟩ hR
  exact List.forall_mem_cons.mpr ⟨(zt_in (zt_t3 31 rfl) rfl), List.forall_mem_cons.mpr ⟨(zt_in (zt_t3 33 rfl) rfl), List.forall_mem_cons.mpr ⟨(zt_in (zt_t3 34 rfl) rfl), List.forall_mem_cons.mpr ⟨(zt_in (zt_t3 35 rfl) rfl), List.forall_mem_cons.mpr ⟨(zt_in (zt_t1 9 rfl) rfl), fun _ h => absurd h List.not_mem_nil⟩⟩⟩⟩⟩

theorem cu_shownEnd_1 {R : Room} {s : State} {args : Array Value} {Y : zw_Y} (hR : 0 + 1 ≤ R.frames ∧ 8 + (1 + 11) + 0 ≤ R.locals) : zw_K Y s → (∀ w ∈ zt_good, w.before args s = true) → va_CU R s args RX9 "TicketRealm$Proof" "TicketRealm$Seal" 283 ⟨"TicketRealm$Seal", "shownEnd", "()I"⟩ yX6_shownEnd cX6_shownEnd 1 (some .int) (Cond.code yX6_shownEnd cX6_shownEnd 1 (some .int) :: zt_good) { frames := 0, cells := 0, slots := 0, locals := 0 } 0 0 0 := by
  intro hK hts
  refine va_cwU 0 hts (zt_code (ws := [.methodLink RX9 283 ⟨"TicketRealm$Seal", "shownEnd", "()I"⟩, .sameMethod "TicketRealm$Seal" "TicketRealm$Seal" "shownEnd" "()I", .selects "TicketRealm$Proof" ⟨"TicketRealm$Seal", "shownEnd", "()I"⟩ yX6_shownEnd, .instanceMethod yX6_shownEnd, .initialized (yX6_shownEnd).cls]) md_X6_shownEnd.1 ?_) rfl rfl rfl rfl ⟨by decide, by decide, by decide +kernel⟩ hR
  exact List.forall_mem_cons.mpr ⟨(zt_in (zt_t3 46 rfl) rfl), List.forall_mem_cons.mpr ⟨(zt_in (zt_t3 48 rfl) rfl), List.forall_mem_cons.mpr ⟨(zt_in (zt_t3 53 rfl) rfl), List.forall_mem_cons.mpr ⟨(zt_in (zt_t3 47 rfl) rfl), List.forall_mem_cons.mpr ⟨(zt_in (zt_t1 7 rfl) rfl), fun _ h => absurd h List.not_mem_nil⟩⟩⟩⟩⟩

theorem cu_shownEnd_2 {R : Room} {s : State} {args : Array Value} {Y : zw_Y} (hR : 0 + 1 ≤ R.frames ∧ 8 + (1 + 11) + 0 ≤ R.locals) : zw_K Y s → (∀ w ∈ zt_good, w.before args s = true) → va_CU R s args RX9 "TicketRealm$Ticket" "TicketRealm$Seal" 283 ⟨"TicketRealm$Seal", "shownEnd", "()I"⟩ yX7_shownEnd cX7_shownEnd 1 (some .int) (Cond.code yX7_shownEnd cX7_shownEnd 1 (some .int) :: zt_good) { frames := 0, cells := 0, slots := 0, locals := 0 } 0 0 0 := by
  intro hK hts
  refine va_cwO 0 hts (zt_code (ws := [.methodLink RX9 283 ⟨"TicketRealm$Seal", "shownEnd", "()I"⟩, .sameMethod "TicketRealm$Seal" "TicketRealm$Seal" "shownEnd" "()I", .instanceMethod ⟨"TicketRealm$Seal", "shownEnd", "()I"⟩, .selects "TicketRealm$Ticket" ⟨"TicketRealm$Seal", "shownEnd", "()I"⟩ yX7_shownEnd, .instanceMethod yX7_shownEnd, .initialized (yX7_shownEnd).cls]) md_X7_shownEnd.1 ?_) rfl rfl rfl md_X6_shownEnd.1 ⟨by decide, by decide, by decide +kernel⟩ hR
  exact List.forall_mem_cons.mpr ⟨(zt_in (zt_t3 46 rfl) rfl), List.forall_mem_cons.mpr ⟨(zt_in (zt_t3 48 rfl) rfl), List.forall_mem_cons.mpr ⟨(zt_in (zt_t3 47 rfl) rfl), List.forall_mem_cons.mpr ⟨(zt_in (zt_t3 54 rfl) rfl), List.forall_mem_cons.mpr ⟨(zt_in (zt_t3 55 rfl) rfl), List.forall_mem_cons.mpr ⟨(zt_in (zt_t1 11 rfl) rfl), fun _ h => absurd h List.not_mem_nil⟩⟩⟩⟩⟩⟩

theorem cu_shownEnd_3 {R : Room} {s : State} {args : Array Value} {Y : zw_Y} (hR : 0 + 1 ≤ R.frames ∧ 8 + (1 + 11) + 0 ≤ R.locals) : zw_K Y s → (∀ w ∈ zt_good, w.before args s = true) → va_CU R s args RX9 "TicketRealm$Part" "TicketRealm$Seal" 283 ⟨"TicketRealm$Seal", "shownEnd", "()I"⟩ yX4_shownEnd cX4_shownEnd 1 (some .int) (Cond.code yX4_shownEnd cX4_shownEnd 1 (some .int) :: zt_good) { frames := 0, cells := 0, slots := 0, locals := 0 } 0 0 0 := by
  intro hK hts
  refine va_cwO 0 hts (zt_code (ws := [.methodLink RX9 283 ⟨"TicketRealm$Seal", "shownEnd", "()I"⟩, .sameMethod "TicketRealm$Seal" "TicketRealm$Seal" "shownEnd" "()I", .instanceMethod ⟨"TicketRealm$Seal", "shownEnd", "()I"⟩, .selects "TicketRealm$Part" ⟨"TicketRealm$Seal", "shownEnd", "()I"⟩ yX4_shownEnd, .instanceMethod yX4_shownEnd, .initialized (yX4_shownEnd).cls]) md_X4_shownEnd.1 ?_) rfl rfl rfl md_X6_shownEnd.1 ⟨by decide, by decide, by decide +kernel⟩ hR
  exact List.forall_mem_cons.mpr ⟨(zt_in (zt_t3 46 rfl) rfl), List.forall_mem_cons.mpr ⟨(zt_in (zt_t3 48 rfl) rfl), List.forall_mem_cons.mpr ⟨(zt_in (zt_t3 47 rfl) rfl), List.forall_mem_cons.mpr ⟨(zt_in (zt_t3 50 rfl) rfl), List.forall_mem_cons.mpr ⟨(zt_in (zt_t3 51 rfl) rfl), List.forall_mem_cons.mpr ⟨(zt_in (zt_t1 12 rfl) rfl), fun _ h => absurd h List.not_mem_nil⟩⟩⟩⟩⟩⟩

theorem cu_shownEnd_4 {R : Room} {s : State} {args : Array Value} {Y : zw_Y} (hR : 0 + 1 ≤ R.frames ∧ 8 + (1 + 11) + 0 ≤ R.locals) : zw_K Y s → (∀ w ∈ zt_good, w.before args s = true) → va_CU R s args RX9 "TicketRealm$Claim" "TicketRealm$Seal" 283 ⟨"TicketRealm$Seal", "shownEnd", "()I"⟩ yX6_shownEnd cX6_shownEnd 1 (some .int) (Cond.code yX6_shownEnd cX6_shownEnd 1 (some .int) :: zt_good) { frames := 0, cells := 0, slots := 0, locals := 0 } 0 0 0 := by
  intro hK hts
  refine va_cwU 0 hts (zt_code (ws := [.methodLink RX9 283 ⟨"TicketRealm$Seal", "shownEnd", "()I"⟩, .sameMethod "TicketRealm$Seal" "TicketRealm$Seal" "shownEnd" "()I", .selects "TicketRealm$Claim" ⟨"TicketRealm$Seal", "shownEnd", "()I"⟩ yX6_shownEnd, .instanceMethod yX6_shownEnd, .initialized (yX6_shownEnd).cls]) md_X6_shownEnd.1 ?_) rfl rfl rfl rfl ⟨by decide, by decide, by decide +kernel⟩ hR
  exact List.forall_mem_cons.mpr ⟨(zt_in (zt_t3 46 rfl) rfl), List.forall_mem_cons.mpr ⟨(zt_in (zt_t3 48 rfl) rfl), List.forall_mem_cons.mpr ⟨(zt_in (zt_t3 49 rfl) rfl), List.forall_mem_cons.mpr ⟨(zt_in (zt_t3 47 rfl) rfl), List.forall_mem_cons.mpr ⟨(zt_in (zt_t1 7 rfl) rfl), fun _ h => absurd h List.not_mem_nil⟩⟩⟩⟩⟩

theorem cu_shownTime_1 {R : Room} {s : State} {args : Array Value} {Y : zw_Y} (hR : 0 + 1 ≤ R.frames ∧ 8 + (1 + 11) + 0 ≤ R.locals) : zw_K Y s → (∀ w ∈ zt_good, w.before args s = true) → va_CU R s args RX9 "TicketRealm$Proof" "TicketRealm$Seal" 286 ⟨"TicketRealm$Seal", "shownTime", "()I"⟩ yX5_shownTime cX5_shownTime 1 (some .int) (Cond.code yX5_shownTime cX5_shownTime 1 (some .int) :: zt_good) { frames := 0, cells := 0, slots := 0, locals := 0 } 0 0 0 := by
  intro hK hts
  refine va_cwO 0 hts (zt_code (ws := [.methodLink RX9 286 ⟨"TicketRealm$Seal", "shownTime", "()I"⟩, .sameMethod "TicketRealm$Seal" "TicketRealm$Seal" "shownTime" "()I", .instanceMethod ⟨"TicketRealm$Seal", "shownTime", "()I"⟩, .selects "TicketRealm$Proof" ⟨"TicketRealm$Seal", "shownTime", "()I"⟩ yX5_shownTime, .instanceMethod yX5_shownTime, .initialized (yX5_shownTime).cls]) md_X5_shownTime.1 ?_) rfl rfl rfl md_X6_shownTime.1 ⟨by decide, by decide, by decide +kernel⟩ hR
  exact List.forall_mem_cons.mpr ⟨(zt_in (zt_t3 58 rfl) rfl), List.forall_mem_cons.mpr ⟨(zt_in (zt_t3 60 rfl) rfl), List.forall_mem_cons.mpr ⟨(zt_in (zt_t3 59 rfl) rfl), List.forall_mem_cons.mpr ⟨(zt_in (zt_t3 65 rfl) rfl), List.forall_mem_cons.mpr ⟨(zt_in (zt_t3 66 rfl) rfl), List.forall_mem_cons.mpr ⟨(zt_in (zt_t1 8 rfl) rfl), fun _ h => absurd h List.not_mem_nil⟩⟩⟩⟩⟩⟩

theorem cu_shownTime_2 {R : Room} {s : State} {args : Array Value} {Y : zw_Y} (hR : 0 + 1 ≤ R.frames ∧ 8 + (1 + 11) + 0 ≤ R.locals) : zw_K Y s → (∀ w ∈ zt_good, w.before args s = true) → va_CU R s args RX9 "TicketRealm$Ticket" "TicketRealm$Seal" 286 ⟨"TicketRealm$Seal", "shownTime", "()I"⟩ yX6_shownTime cX6_shownTime 1 (some .int) (Cond.code yX6_shownTime cX6_shownTime 1 (some .int) :: zt_good) { frames := 0, cells := 0, slots := 0, locals := 0 } 0 0 0 := by
  intro hK hts
  refine va_cwU 0 hts (zt_code (ws := [.methodLink RX9 286 ⟨"TicketRealm$Seal", "shownTime", "()I"⟩, .sameMethod "TicketRealm$Seal" "TicketRealm$Seal" "shownTime" "()I", .selects "TicketRealm$Ticket" ⟨"TicketRealm$Seal", "shownTime", "()I"⟩ yX6_shownTime, .instanceMethod yX6_shownTime, .initialized (yX6_shownTime).cls]) md_X6_shownTime.1 ?_) rfl rfl rfl rfl ⟨by decide, by decide, by decide +kernel⟩ hR
  exact List.forall_mem_cons.mpr ⟨(zt_in (zt_t3 58 rfl) rfl), List.forall_mem_cons.mpr ⟨(zt_in (zt_t3 60 rfl) rfl), List.forall_mem_cons.mpr ⟨(zt_in (zt_t3 68 rfl) rfl), List.forall_mem_cons.mpr ⟨(zt_in (zt_t3 59 rfl) rfl), List.forall_mem_cons.mpr ⟨(zt_in (zt_t1 7 rfl) rfl), fun _ h => absurd h List.not_mem_nil⟩⟩⟩⟩⟩

theorem cu_shownTime_3 {R : Room} {s : State} {args : Array Value} {Y : zw_Y} (hR : 0 + 1 ≤ R.frames ∧ 8 + (1 + 11) + 0 ≤ R.locals) : zw_K Y s → (∀ w ∈ zt_good, w.before args s = true) → va_CU R s args RX9 "TicketRealm$Part" "TicketRealm$Seal" 286 ⟨"TicketRealm$Seal", "shownTime", "()I"⟩ yX6_shownTime cX6_shownTime 1 (some .int) (Cond.code yX6_shownTime cX6_shownTime 1 (some .int) :: zt_good) { frames := 0, cells := 0, slots := 0, locals := 0 } 0 0 0 := by
  intro hK hts
  refine va_cwU 0 hts (zt_code (ws := [.methodLink RX9 286 ⟨"TicketRealm$Seal", "shownTime", "()I"⟩, .sameMethod "TicketRealm$Seal" "TicketRealm$Seal" "shownTime" "()I", .selects "TicketRealm$Part" ⟨"TicketRealm$Seal", "shownTime", "()I"⟩ yX6_shownTime, .instanceMethod yX6_shownTime, .initialized (yX6_shownTime).cls]) md_X6_shownTime.1 ?_) rfl rfl rfl rfl ⟨by decide, by decide, by decide +kernel⟩ hR
  exact List.forall_mem_cons.mpr ⟨(zt_in (zt_t3 58 rfl) rfl), List.forall_mem_cons.mpr ⟨(zt_in (zt_t3 60 rfl) rfl), List.forall_mem_cons.mpr ⟨(zt_in (zt_t3 64 rfl) rfl), List.forall_mem_cons.mpr ⟨(zt_in (zt_t3 59 rfl) rfl), List.forall_mem_cons.mpr ⟨(zt_in (zt_t1 7 rfl) rfl), fun _ h => absurd h List.not_mem_nil⟩⟩⟩⟩⟩

theorem cu_shownTime_4 {R : Room} {s : State} {args : Array Value} {Y : zw_Y} (hR : 0 + 1 ≤ R.frames ∧ 8 + (1 + 11) + 0 ≤ R.locals) : zw_K Y s → (∀ w ∈ zt_good, w.before args s = true) → va_CU R s args RX9 "TicketRealm$Claim" "TicketRealm$Seal" 286 ⟨"TicketRealm$Seal", "shownTime", "()I"⟩ yX1_shownTime cX1_shownTime 1 (some .int) (Cond.code yX1_shownTime cX1_shownTime 1 (some .int) :: zt_good) { frames := 0, cells := 0, slots := 0, locals := 0 } 0 0 0 := by
  intro hK hts
  refine va_cwO 0 hts (zt_code (ws := [.methodLink RX9 286 ⟨"TicketRealm$Seal", "shownTime", "()I"⟩, .sameMethod "TicketRealm$Seal" "TicketRealm$Seal" "shownTime" "()I", .instanceMethod ⟨"TicketRealm$Seal", "shownTime", "()I"⟩, .selects "TicketRealm$Claim" ⟨"TicketRealm$Seal", "shownTime", "()I"⟩ yX1_shownTime, .instanceMethod yX1_shownTime, .initialized (yX1_shownTime).cls]) md_X1_shownTime.1 ?_) rfl rfl rfl md_X6_shownTime.1 ⟨by decide, by decide, by decide +kernel⟩ hR
  exact List.forall_mem_cons.mpr ⟨(zt_in (zt_t3 58 rfl) rfl), List.forall_mem_cons.mpr ⟨(zt_in (zt_t3 60 rfl) rfl), List.forall_mem_cons.mpr ⟨(zt_in (zt_t3 59 rfl) rfl), List.forall_mem_cons.mpr ⟨(zt_in (zt_t3 61 rfl) rfl), List.forall_mem_cons.mpr ⟨(zt_in (zt_t3 62 rfl) rfl), List.forall_mem_cons.mpr ⟨(zt_in (zt_t1 9 rfl) rfl), fun _ h => absurd h List.not_mem_nil⟩⟩⟩⟩⟩⟩

set_option maxHeartbeats 4000000 in
set_option maxRecDepth 100000 in
theorem c_X9_remove (l : Launch) (Y : zw_Y) (N0 : Nat) (ad : Nat → Nat) (sh : Nat → Option zw_Sh) (g u : zm_T) (hR : zc_R sh g u) (hI : zm_I u) (a : Int32) : zw_Met l Y N0 yX9_remove cX9_remove 2 (some .boolean) 2 41 0 0 ad sh g [.ref (ad 100), .int a] (zc_Po ad sh g (sp_remove a u)) := by
  refine zw_meth (by decide) (Nat.le_of_ble_eq_true rfl) ?_
  intro p e s m below meth c ls X hnm hl hW
  have hl : lv_has ls 2 [(0, .ref (ad 100)), (1, .int a)] := hl
  have hS := hR.1
  have hN0 := hR.2.1
  have hN := hR.2.1
  have hB : ∀ i : Nat, i < 12 → -1 ≤ (u 5 i).toInt := fun i hi => (zI_bk hI i hi).1
  have hT : ∀ i : Nat, i < 12 → -1 ≤ (u 23 i).toInt := fun i hi => (zI_tk hI i hi).1
  refine lv_aload_n X.1 X.2.1 dX9_remove_0 rfl (lv_at hl 0 rfl) ?_
  refine zr_get (r := 100) (v := .ref (ad 103)) X hW fs_X9_19_8 dX9_remove_1 (zc_s100 hS) rfl rfl rfl ?_
  refine lv_iload_n X.1 X.2.1 dX9_remove_4 rfl (lv_at hl 1 rfl) ?_
  refine zr_callV (As := [.int a]) (rest := []) X hW hl.1 md_X0_holds ms_X9_88 dX9_remove_5 (zc_s103 hS) rfl rfl rfl rfl (Nat.le_of_ble_eq_true rfl) ⟨Nat.le_of_ble_eq_true rfl, Nat.le_of_ble_eq_true rfl⟩ ⟨Nat.le_of_ble_eq_true rfl, Nat.le_of_ble_eq_true rfl⟩ (c_X0_holds_b l Y N0 ad sh g u hS hN hB a) (fun v9 ad9 sh9 g9 H locs hp hW => ?_)
  rcases hp with ⟨rfl, rfl, rfl, ⟨h_1, h9⟩ | ⟨h_1, h9⟩⟩
  · subst h9
    have h_1 : zs_bk u a := h_1
    refine zr_if_ne (a := 1) (tgt := 13) X dX9_remove_8 (by decide) (by decide) (fun _ => ?_) (fun c9 => absurd c9 (by decide))
    refine lv_aload_n X.1 X.2.1 dX9_remove_13 rfl (lv_at hl 0 rfl) ?_
    refine zr_get (r := 100) (v := .ref (ad 103)) X hW fs_X9_19_8 dX9_remove_14 (zc_s100 hS) rfl rfl rfl ?_
    refine lv_iload_n X.1 X.2.1 dX9_remove_17 rfl (lv_at hl 1 rfl) ?_
    refine zr_callV (As := [.int a]) (rest := []) X hW hl.1 md_X0_strike ms_X9_91 dX9_remove_18 (zc_s103 hS) rfl rfl rfl rfl (Nat.le_of_ble_eq_true rfl) ⟨Nat.le_of_ble_eq_true rfl, Nat.le_of_ble_eq_true rfl⟩ ⟨Nat.le_of_ble_eq_true rfl, Nat.le_of_ble_eq_true rfl⟩ (c_X0_strike l Y N0 ad sh g hS a (by omega)) (fun v9 ad9 sh9 g9 H locs hp hW => ?_)
    obtain ⟨rfl, rfl, rfl, rfl⟩ := hp
    obtain ⟨g_2, hg_2⟩ : ∃ z : zm_T, z = zm_w g 109 (zn a) ((-1)) := ⟨_, rfl⟩
    rw [← hg_2] at hW
    obtain ⟨u_3, hu_3⟩ : ∃ z : zm_T, z = zm_w u 5 (zn a) ((-1)) := ⟨_, rfl⟩
    have hN : zc_N g_2 u_3 := by rw [hg_2, hu_3]; exact zc_Nw hN (zc_l109 (zi_nl (by omega) (by decide))) _
    refine lv_iconst (v := 1) X.1 X.2.1 dX9_remove_21 (by decide) ?_
    have e9 : sp_remove a u = (1, u_3) := (by rw [hu_3]; unfold sp_remove; (repeat (first | refine (if_pos (by omega)).trans ?_ | refine (if_neg (by omega)).trans ?_)); rfl)
    have hR9 : zc_R sh g_2 u_3 := zc_Rof hR hN (fun r i h => by rw [hu_3, zm_wn _ _ (by omega)]) (fun r h => by rw [hg_2, zm_wr (by omega)]) (fun j hj => by rw [hg_2, zm_wn _ _ (by omega)])
    exact zr_zret X hW dX9_remove_22 (Nat.le_refl _) (Nat.le_refl _) rfl ⟨by rw [e9], by rw [e9]; exact hR9, zc_fr1 (fun r h => by rw [hg_2, zm_wr (by omega)])⟩
  · subst h9
    have h_1 : ¬ (zs_bk u a) := h_1
    refine zr_if_ne (a := 0) (tgt := 13) X dX9_remove_8 (by decide) (by decide) (fun c9 => absurd c9 (by decide)) (fun _ => ?_)
    refine lv_iconst (v := 0) X.1 X.2.1 dX9_remove_11 (by decide) ?_
    have e9 : sp_remove a u = (0, u) := (by unfold sp_remove; (repeat (first | refine (if_pos (by omega)).trans ?_ | refine (if_neg (by omega)).trans ?_)); rfl)
    exact zr_zret X hW dX9_remove_12 (Nat.le_refl _) (Nat.le_refl _) rfl ⟨by rw [e9], by rw [e9]; exact hR, zc_fr0⟩

set_option maxHeartbeats 4000000 in
set_option maxRecDepth 100000 in
theorem c_X9_limit (l : Launch) (Y : zw_Y) (N0 : Nat) (ad : Nat → Nat) (sh : Nat → Option zw_Sh) (g u : zm_T) (hR : zc_R sh g u) (hI : zm_I u) (a n : Int32) : zw_Met l Y N0 yX9_limit cX9_limit 3 (some .boolean) 2 41 0 0 ad sh g [.ref (ad 100), .int a, .int n] (zc_Po ad sh g (sp_limit a n u)) := by
  refine zw_meth (by decide) (Nat.le_of_ble_eq_true rfl) ?_
  intro p e s m below meth c ls X hnm hl hW
  have hl : lv_has ls 3 [(0, .ref (ad 100)), (1, .int a), (2, .int n)] := hl
  have hS := hR.1
  have hN0 := hR.2.1
  have hN := hR.2.1
  have hB : ∀ i : Nat, i < 12 → -1 ≤ (u 5 i).toInt := fun i hi => (zI_bk hI i hi).1
  have hT : ∀ i : Nat, i < 12 → -1 ≤ (u 23 i).toInt := fun i hi => (zI_tk hI i hi).1
  refine lv_aload_n X.1 X.2.1 dX9_limit_0 rfl (lv_at hl 0 rfl) ?_
  refine zr_get (r := 100) (v := .ref (ad 103)) X hW fs_X9_19_8 dX9_limit_1 (zc_s100 hS) rfl rfl rfl ?_
  refine lv_iload_n X.1 X.2.1 dX9_limit_4 rfl (lv_at hl 1 rfl) ?_
  refine zr_callV (As := [.int a]) (rest := []) X hW hl.1 md_X0_holds ms_X9_88 dX9_limit_5 (zc_s103 hS) rfl rfl rfl rfl (Nat.le_of_ble_eq_true rfl) ⟨Nat.le_of_ble_eq_true rfl, Nat.le_of_ble_eq_true rfl⟩ ⟨Nat.le_of_ble_eq_true rfl, Nat.le_of_ble_eq_true rfl⟩ (c_X0_holds_b l Y N0 ad sh g u hS hN hB a) (fun v9 ad9 sh9 g9 H locs hp hW => ?_)
  rcases hp with ⟨rfl, rfl, rfl, ⟨h_1, h9⟩ | ⟨h_1, h9⟩⟩
  · subst h9
    have h_1 : zs_bk u a := h_1
    refine zr_if_eq (a := 1) (tgt := 23) X dX9_limit_8 (by decide) (by decide) (fun c9 => absurd c9 (by decide)) (fun _ => ?_)
    refine lv_iload_n X.1 X.2.1 dX9_limit_11 rfl (lv_at hl 2 rfl) ?_
    refine lv_iconst (v := 1) X.1 X.2.1 dX9_limit_12 (by decide) ?_
    refine zr_icmp_lt (a := (n).toInt) (b := 1) (tgt := 23) X dX9_limit_13 (by decide) rfl (by decide) (fun c_2 => ?_) (fun c_2 => ?_)
    · refine lv_iconst (v := 0) X.1 X.2.1 dX9_limit_23 (by decide) ?_
      have e9 : sp_limit a n u = (0, u) := (by unfold sp_limit; (repeat (first | refine (if_pos (by omega)).trans ?_ | refine (if_neg (by omega)).trans ?_)); rfl)
      exact zr_zret X hW dX9_limit_24 (Nat.le_refl _) (Nat.le_refl _) rfl ⟨by rw [e9], by rw [e9]; exact hR, zc_fr0⟩
    · refine lv_iload_n X.1 X.2.1 dX9_limit_16 rfl (lv_at hl 2 rfl) ?_
      refine lv_sipush (v := 1000) X.1 X.2.1 dX9_limit_17 (by decide) ?_
      refine zr_icmp_le (a := (n).toInt) (b := 1000) (tgt := 25) X dX9_limit_20 (by decide) rfl (by decide) (fun c_3 => ?_) (fun c_3 => ?_)
      · refine lv_aload_n X.1 X.2.1 dX9_limit_25 rfl (lv_at hl 0 rfl) ?_
        refine zr_get (r := 100) (v := .ref (ad 103)) X hW fs_X9_19_8 dX9_limit_26 (zc_s100 hS) rfl rfl rfl ?_
        refine zr_get (r := 103) (v := .ref (ad 110)) X hW fs_X9_95_0 dX9_limit_29 (zc_s103 hS) rfl rfl rfl ?_
        refine lv_iload_n X.1 X.2.1 dX9_limit_32 rfl (lv_at hl 1 rfl) ?_
        refine lv_iload_n X.1 X.2.1 dX9_limit_33 rfl (lv_at hl 2 rfl) ?_
        refine zr_iast (r := 110) X hW dX9_limit_34 (zc_s110 hS) rfl rfl (zi_vp (by omega)) (fun H locs hW => ?_)
        obtain ⟨g_4, hg_4⟩ : ∃ z : zm_T, z = zm_w g 110 (zn a) n := ⟨_, rfl⟩
        have hW : zw_St Y N0 ad sh g_4 s H locs := by rw [hg_4]; exact hW
        obtain ⟨u_5, hu_5⟩ : ∃ z : zm_T, z = zm_w u 6 (zn a) n := ⟨_, rfl⟩
        have hN : zc_N g_4 u_5 := by rw [hg_4, hu_5]; exact zc_Nw hN (zc_l110 (zi_nl (by omega) (by decide))) _
        refine lv_iconst (v := 1) X.1 X.2.1 dX9_limit_35 (by decide) ?_
        have e9 : sp_limit a n u = (1, u_5) := (by rw [hu_5]; unfold sp_limit; (repeat (first | refine (if_pos (by omega)).trans ?_ | refine (if_neg (by omega)).trans ?_)); rfl)
        have hR9 : zc_R sh g_4 u_5 := zc_Rof hR hN (fun r i h => by rw [hu_5, zm_wn _ _ (by omega)]) (fun r h => by rw [hg_4, zm_wr (by omega)]) (fun j hj => by rw [hg_4, zm_wn _ _ (by omega)])
        exact zr_zret X hW dX9_limit_36 (Nat.le_refl _) (Nat.le_refl _) rfl ⟨by rw [e9], by rw [e9]; exact hR9, zc_fr1 (fun r h => by rw [hg_4, zm_wr (by omega)])⟩
      · refine lv_iconst (v := 0) X.1 X.2.1 dX9_limit_23 (by decide) ?_
        have e9 : sp_limit a n u = (0, u) := (by unfold sp_limit; (repeat (first | refine (if_pos (by omega)).trans ?_ | refine (if_neg (by omega)).trans ?_)); rfl)
        exact zr_zret X hW dX9_limit_24 (Nat.le_refl _) (Nat.le_refl _) rfl ⟨by rw [e9], by rw [e9]; exact hR, zc_fr0⟩
  · subst h9
    have h_1 : ¬ (zs_bk u a) := h_1
    refine zr_if_eq (a := 0) (tgt := 23) X dX9_limit_8 (by decide) (by decide) (fun _ => ?_) (fun c9 => absurd c9 (by decide))
    refine lv_iconst (v := 0) X.1 X.2.1 dX9_limit_23 (by decide) ?_
    have e9 : sp_limit a n u = (0, u) := (by unfold sp_limit; (repeat (first | refine (if_pos (by omega)).trans ?_ | refine (if_neg (by omega)).trans ?_)); rfl)
    exact zr_zret X hW dX9_limit_24 (Nat.le_refl _) (Nat.le_refl _) rfl ⟨by rw [e9], by rw [e9]; exact hR, zc_fr0⟩

set_option maxHeartbeats 4000000 in
set_option maxRecDepth 100000 in
theorem c_X9_tick (l : Launch) (Y : zw_Y) (N0 : Nat) (ad : Nat → Nat) (sh : Nat → Option zw_Sh) (g u : zm_T) (hR : zc_R sh g u) (hI : zm_I u) (a n : Int32) : zw_Met l Y N0 yX9_tick cX9_tick 3 (some .int) 1 20 0 0 ad sh g [.ref (ad 100), .int a, .int n] (zc_Po ad sh g (sp_tick a n u)) := by
  refine zw_meth (by decide) (Nat.le_of_ble_eq_true rfl) ?_
  intro p e s m below meth c ls X hnm hl hW
  have hl : lv_has ls 3 [(0, .ref (ad 100)), (1, .int a), (2, .int n)] := hl
  have hS := hR.1
  have hN0 := hR.2.1
  have hN := hR.2.1
  have hB : ∀ i : Nat, i < 12 → -1 ≤ (u 5 i).toInt := fun i hi => (zI_bk hI i hi).1
  have hT : ∀ i : Nat, i < 12 → -1 ≤ (u 23 i).toInt := fun i hi => (zI_tk hI i hi).1
  refine lv_iload_n X.1 X.2.1 dX9_tick_0 rfl (lv_at hl 1 rfl) ?_
  refine zr_callS (As := [.int a]) (rest := []) X hW hl.1 md_X9_isPrincipal ms_X9_72 dX9_tick_1 rfl rfl (Nat.le_of_ble_eq_true rfl) ⟨Nat.le_of_ble_eq_true rfl, Nat.le_of_ble_eq_true rfl⟩ ⟨Nat.le_of_ble_eq_true rfl, Nat.le_of_ble_eq_true rfl⟩ (c_X9_isPrincipal l Y N0 ad sh g a) (fun v9 ad9 sh9 g9 H locs hp hW => ?_)
  rcases hp with ⟨rfl, rfl, rfl, ⟨h_1, h9⟩ | ⟨h_1, h9⟩⟩
  · subst h9
    have h_1 : zi_in a 0 5 := h_1
    refine zr_if_eq (a := 1) (tgt := 19) X dX9_tick_4 (by decide) (by decide) (fun c9 => absurd c9 (by decide)) (fun _ => ?_)
    refine lv_iload_n X.1 X.2.1 dX9_tick_7 rfl (lv_at hl 2 rfl) ?_
    refine lv_iconst (v := 1) X.1 X.2.1 dX9_tick_8 (by decide) ?_
    refine zr_icmp_lt (a := (n).toInt) (b := 1) (tgt := 19) X dX9_tick_9 (by decide) rfl (by decide) (fun c_2 => ?_) (fun c_2 => ?_)
    · refine lv_iconst (v := (-1)) X.1 X.2.1 dX9_tick_19 (by decide) ?_
      have e9 : sp_tick a n u = ((-1), u) := (by unfold sp_tick; (repeat (first | refine (if_pos (by omega)).trans ?_ | refine (if_neg (by omega)).trans ?_)); rfl)
      exact zr_iret X hW dX9_tick_20 (Nat.le_refl _) (Nat.le_refl _) ⟨by rw [e9], by rw [e9]; exact hR, zc_fr0⟩
    · refine lv_iload_n X.1 X.2.1 dX9_tick_12 rfl (lv_at hl 2 rfl) ?_
      refine lv_sipush (v := 1000) X.1 X.2.1 dX9_tick_13 (by decide) ?_
      refine zr_icmp_le (a := (n).toInt) (b := 1000) (tgt := 21) X dX9_tick_16 (by decide) rfl (by decide) (fun c_3 => ?_) (fun c_3 => ?_)
      · refine lv_aload_n X.1 X.2.1 dX9_tick_21 rfl (lv_at hl 0 rfl) ?_
        refine zr_get (r := 100) (v := .ref (ad 101)) X hW fs_X9_9_8 dX9_tick_22 (zc_s100 hS) rfl rfl rfl ?_
        refine lv_iload_n X.1 X.2.1 dX9_tick_25 rfl (lv_at hl 1 rfl) ?_
        refine lv_dup2_11 X.1 X.2.1 dX9_tick_26 rfl rfl ?_
        refine zr_iald (r := 101) (v := u 1 (zn a)) X hW dX9_tick_27 (zc_s101 hS) rfl rfl (zi_vp (by omega)) (hN0 _ _ _ _ (zc_l101 (zi_nl (by omega) (by decide)))) ?_
        refine lv_iload_n X.1 X.2.1 dX9_tick_28 rfl (lv_at hl 2 rfl) ?_
        refine lv_iadd X.1 X.2.1 dX9_tick_29 ?_
        refine zr_iast (r := 101) X hW dX9_tick_30 (zc_s101 hS) rfl rfl (zi_vp (by omega)) (fun H locs hW => ?_)
        obtain ⟨g_4, hg_4⟩ : ∃ z : zm_T, z = zm_w g 101 (zn a) ((u 1 (zn a)) + n) := ⟨_, rfl⟩
        have hW : zw_St Y N0 ad sh g_4 s H locs := by rw [hg_4]; exact hW
        obtain ⟨u_5, hu_5⟩ : ∃ z : zm_T, z = zm_w u 1 (zn a) ((u 1 (zn a)) + n) := ⟨_, rfl⟩
        have hN : zc_N g_4 u_5 := by rw [hg_4, hu_5]; exact zc_Nw hN (zc_l101 (zi_nl (by omega) (by decide))) _
        refine lv_aload_n X.1 X.2.1 dX9_tick_31 rfl (lv_at hl 0 rfl) ?_
        refine zr_get (r := 100) (v := .ref (ad 101)) X hW fs_X9_9_8 dX9_tick_32 (zc_s100 hS) rfl rfl rfl ?_
        refine lv_iload_n X.1 X.2.1 dX9_tick_35 rfl (lv_at hl 1 rfl) ?_
        refine zr_iald (r := 101) (v := (u 1 (zn a)) + n) X hW dX9_tick_36 (zc_s101 hS) rfl rfl (zi_vp (by omega)) (show g_4 101 (zn a) = (u 1 (zn a)) + n from (by rw [hg_4]; exact zm_ws _ _ _ _)) ?_
        have e9 : sp_tick a n u = ((u 1 (zn a)) + n, u_5) := (by rw [hu_5]; unfold sp_tick; (repeat (first | refine (if_pos (by omega)).trans ?_ | refine (if_neg (by omega)).trans ?_)); rfl)
        have hR9 : zc_R sh g_4 u_5 := zc_Rof hR hN (fun r i h => by rw [hu_5, zm_wn _ _ (by omega)]) (fun r h => by rw [hg_4, zm_wr (by omega)]) (fun j hj => by rw [hg_4, zm_wn _ _ (by omega)])
        exact zr_iret X hW dX9_tick_37 (Nat.le_refl _) (Nat.le_refl _) ⟨by rw [e9], by rw [e9]; exact hR9, zc_fr1 (fun r h => by rw [hg_4, zm_wr (by omega)])⟩
      · refine lv_iconst (v := (-1)) X.1 X.2.1 dX9_tick_19 (by decide) ?_
        have e9 : sp_tick a n u = ((-1), u) := (by unfold sp_tick; (repeat (first | refine (if_pos (by omega)).trans ?_ | refine (if_neg (by omega)).trans ?_)); rfl)
        exact zr_iret X hW dX9_tick_20 (Nat.le_refl _) (Nat.le_refl _) ⟨by rw [e9], by rw [e9]; exact hR, zc_fr0⟩
  · subst h9
    have h_1 : ¬ (zi_in a 0 5) := h_1
    refine zr_if_eq (a := 0) (tgt := 19) X dX9_tick_4 (by decide) (by decide) (fun _ => ?_) (fun c9 => absurd c9 (by decide))
    refine lv_iconst (v := (-1)) X.1 X.2.1 dX9_tick_19 (by decide) ?_
    have e9 : sp_tick a n u = ((-1), u) := (by unfold sp_tick; (repeat (first | refine (if_pos (by omega)).trans ?_ | refine (if_neg (by omega)).trans ?_)); rfl)
    exact zr_iret X hW dX9_tick_20 (Nat.le_refl _) (Nat.le_refl _) ⟨by rw [e9], by rw [e9]; exact hR, zc_fr0⟩

set_option maxHeartbeats 4000000 in
set_option maxRecDepth 100000 in
theorem c_X9_answer (l : Launch) (Y : zw_Y) (N0 : Nat) (ad : Nat → Nat) (sh : Nat → Option zw_Sh) (g u : zm_T) (hR : zc_R sh g u) (hI : zm_I u) : zw_Met l Y N0 yX9_answer cX9_answer 1 (some .int) 0 0 0 0 ad sh g [.ref (ad 100)] (zc_Po ad sh g (sp_answer u)) := by
  refine zw_meth (by decide) (Nat.le_of_ble_eq_true rfl) ?_
  intro p e s m below meth c ls X hnm hl hW
  have hl : lv_has ls 1 [(0, .ref (ad 100))] := hl
  have hS := hR.1
  have hN0 := hR.2.1
  have hN := hR.2.1
  have hB : ∀ i : Nat, i < 12 → -1 ≤ (u 5 i).toInt := fun i hi => (zI_bk hI i hi).1
  have hT : ∀ i : Nat, i < 12 → -1 ≤ (u 23 i).toInt := fun i hi => (zI_tk hI i hi).1
  refine lv_aload_n X.1 X.2.1 dX9_answer_0 rfl (lv_at hl 0 rfl) ?_
  refine zr_get (r := 100) (v := .ref (ad 106)) X hW fs_X9_35_8 dX9_answer_1 (zc_s100 hS) rfl rfl rfl ?_
  refine zr_get (r := 106) (v := .int (u 0 27)) X hW fs_X9_264_2 dX9_answer_4 (zc_s106 hS) rfl rfl (congrArg Value.int (hN0 _ _ _ _ rfl)) ?_
  have e9 : sp_answer  u = (u 0 27, u) := (by unfold sp_answer; (repeat (first | refine (if_pos (by omega)).trans ?_ | refine (if_neg (by omega)).trans ?_)); rfl)
  exact zr_iret X hW dX9_answer_7 (Nat.le_refl _) (Nat.le_refl _) ⟨by rw [e9], by rw [e9]; exact hR, zc_fr0⟩

set_option maxHeartbeats 4000000 in
set_option maxRecDepth 100000 in
theorem c_X9_allow (l : Launch) (Y : zw_Y) (N0 : Nat) (ad : Nat → Nat) (sh : Nat → Option zw_Sh) (g u : zm_T) (hR : zc_R sh g u) (hI : zm_I u) (a f r : Int32) : zw_Met l Y N0 yX9_allow cX9_allow 4 (some .boolean) 2 41 0 0 ad sh g [.ref (ad 100), .int a, .int f, .int r] (zc_Po ad sh g (sp_allow a f r u)) := by
  refine zw_meth (by decide) (Nat.le_of_ble_eq_true rfl) ?_
  intro p e s m below meth c ls X hnm hl hW
  have hl : lv_has ls 4 [(0, .ref (ad 100)), (1, .int a), (2, .int f), (3, .int r)] := hl
  have hS := hR.1
  have hN0 := hR.2.1
  have hN := hR.2.1
  have hB : ∀ i : Nat, i < 12 → -1 ≤ (u 5 i).toInt := fun i hi => (zI_bk hI i hi).1
  have hT : ∀ i : Nat, i < 12 → -1 ≤ (u 23 i).toInt := fun i hi => (zI_tk hI i hi).1
  refine lv_aload_n X.1 X.2.1 dX9_allow_0 rfl (lv_at hl 0 rfl) ?_
  refine zr_get (r := 100) (v := .ref (ad 103)) X hW fs_X9_19_8 dX9_allow_1 (zc_s100 hS) rfl rfl rfl ?_
  refine lv_iload_n X.1 X.2.1 dX9_allow_4 rfl (lv_at hl 1 rfl) ?_
  refine zr_callV (As := [.int a]) (rest := []) X hW hl.1 md_X0_holds ms_X9_88 dX9_allow_5 (zc_s103 hS) rfl rfl rfl rfl (Nat.le_of_ble_eq_true rfl) ⟨Nat.le_of_ble_eq_true rfl, Nat.le_of_ble_eq_true rfl⟩ ⟨Nat.le_of_ble_eq_true rfl, Nat.le_of_ble_eq_true rfl⟩ (c_X0_holds_b l Y N0 ad sh g u hS hN hB a) (fun v9 ad9 sh9 g9 H locs hp hW => ?_)
  rcases hp with ⟨rfl, rfl, rfl, ⟨h_1, h9⟩ | ⟨h_1, h9⟩⟩
  · subst h9
    have h_1 : zs_bk u a := h_1
    refine zr_if_eq (a := 1) (tgt := 27) X dX9_allow_8 (by decide) (by decide) (fun c9 => absurd c9 (by decide)) (fun _ => ?_)
    refine lv_iload_n X.1 X.2.1 dX9_allow_11 rfl (lv_at hl 2 rfl) ?_
    refine zr_callS (As := [.int f]) (rest := []) X hW hl.1 md_X9_isFile ms_X9_98 dX9_allow_12 rfl rfl (Nat.le_of_ble_eq_true rfl) ⟨Nat.le_of_ble_eq_true rfl, Nat.le_of_ble_eq_true rfl⟩ ⟨Nat.le_of_ble_eq_true rfl, Nat.le_of_ble_eq_true rfl⟩ (c_X9_isFile l Y N0 ad sh g f) (fun v9 ad9 sh9 g9 H locs hp hW => ?_)
    rcases hp with ⟨rfl, rfl, rfl, ⟨h_2, h9⟩ | ⟨h_2, h9⟩⟩
    · subst h9
      have h_2 : zi_in f 0 2 := h_2
      refine zr_if_eq (a := 1) (tgt := 27) X dX9_allow_15 (by decide) (by decide) (fun c9 => absurd c9 (by decide)) (fun _ => ?_)
      refine lv_iload_n X.1 X.2.1 dX9_allow_18 rfl (lv_at hl 3 rfl) ?_
      refine zr_if_lt (a := (r).toInt) (tgt := 27) X dX9_allow_19 (by decide) rfl (fun c_3 => ?_) (fun c_3 => ?_)
      · refine lv_iconst (v := 0) X.1 X.2.1 dX9_allow_27 (by decide) ?_
        have e9 : sp_allow a f r u = (0, u) := (by unfold sp_allow; (repeat (first | refine (if_pos (by omega)).trans ?_ | refine (if_neg (by omega)).trans ?_)); rfl)
        exact zr_zret X hW dX9_allow_28 (Nat.le_refl _) (Nat.le_refl _) rfl ⟨by rw [e9], by rw [e9]; exact hR, zc_fr0⟩
      · refine lv_iload_n X.1 X.2.1 dX9_allow_22 rfl (lv_at hl 3 rfl) ?_
        refine lv_iconst (v := 3) X.1 X.2.1 dX9_allow_23 (by decide) ?_
        refine zr_icmp_le (a := (r).toInt) (b := 3) (tgt := 29) X dX9_allow_24 (by decide) rfl (by decide) (fun c_4 => ?_) (fun c_4 => ?_)
        · obtain hc9 | hc9 | hc9 | hc9 | hc9 | hc9 : a.toInt = 0 ∨ a.toInt = 1 ∨ a.toInt = 2 ∨ a.toInt = 3 ∨ a.toInt = 4 ∨ a.toInt = 5 := by omega
          · have hc9 : a = 0 := zi_ext hc9
            subst hc9
            refine lv_aload_n X.1 X.2.1 dX9_allow_29 rfl (lv_at hl 0 rfl) ?_
            refine zr_get (r := 100) (v := .ref (ad 103)) X hW fs_X9_19_8 dX9_allow_30 (zc_s100 hS) rfl rfl rfl ?_
            refine zr_get (r := 103) (v := .ref (ad 111)) X hW fs_X9_101_0 dX9_allow_33 (zc_s103 hS) rfl rfl rfl ?_
            refine lv_iload_n X.1 X.2.1 dX9_allow_36 rfl (lv_at hl 1 rfl) ?_
            refine zr_aald (r := 111) (v := .ref (ad 121)) X hW dX9_allow_37 (zc_s111 hS) rfl rfl rfl (zi_vp (by decide)) rfl ?_
            refine lv_iload_n X.1 X.2.1 dX9_allow_38 rfl (lv_at hl 2 rfl) ?_
            refine lv_iload_n X.1 X.2.1 dX9_allow_39 rfl (lv_at hl 3 rfl) ?_
            refine zr_iast (r := 121) X hW dX9_allow_40 (zc_s121 hS) rfl rfl (zi_vp (by omega)) (fun H locs hW => ?_)
            obtain ⟨g_5, hg_5⟩ : ∃ z : zm_T, z = zm_w g 121 (zn f) r := ⟨_, rfl⟩
            have hW : zw_St Y N0 ad sh g_5 s H locs := by rw [hg_5]; exact hW
            obtain ⟨u_6, hu_6⟩ : ∃ z : zm_T, z = zm_w u 7 (0 + (zn f)) r := ⟨_, rfl⟩
            have hN : zc_N g_5 u_6 := by rw [hg_5, hu_6]; exact zc_Nw hN (zc_l121 (zi_nl (by omega) (by decide))) _
            refine lv_iconst (v := 1) X.1 X.2.1 dX9_allow_41 (by decide) ?_
            have e9 : sp_allow 0 f r u = (1, u_6) := (by rw [hu_6]; unfold sp_allow; (repeat (first | refine (if_pos (by omega)).trans ?_ | refine (if_neg (by omega)).trans ?_)); rfl)
            have hR9 : zc_R sh g_5 u_6 := zc_Rof hR hN (fun r i h => by rw [hu_6, zm_wn _ _ (by omega)]) (fun r h => by rw [hg_5, zm_wr (by omega)]) (fun j hj => by rw [hg_5, zm_wn _ _ (by omega)])
            exact zr_zret X hW dX9_allow_42 (Nat.le_refl _) (Nat.le_refl _) rfl ⟨by rw [e9], by rw [e9]; exact hR9, zc_fr1 (fun r h => by rw [hg_5, zm_wr (by omega)])⟩
          · have hc9 : a = 1 := zi_ext hc9
            subst hc9
            refine lv_aload_n X.1 X.2.1 dX9_allow_29 rfl (lv_at hl 0 rfl) ?_
            refine zr_get (r := 100) (v := .ref (ad 103)) X hW fs_X9_19_8 dX9_allow_30 (zc_s100 hS) rfl rfl rfl ?_
            refine zr_get (r := 103) (v := .ref (ad 111)) X hW fs_X9_101_0 dX9_allow_33 (zc_s103 hS) rfl rfl rfl ?_
            refine lv_iload_n X.1 X.2.1 dX9_allow_36 rfl (lv_at hl 1 rfl) ?_
            refine zr_aald (r := 111) (v := .ref (ad 122)) X hW dX9_allow_37 (zc_s111 hS) rfl rfl rfl (zi_vp (by decide)) rfl ?_
            refine lv_iload_n X.1 X.2.1 dX9_allow_38 rfl (lv_at hl 2 rfl) ?_
            refine lv_iload_n X.1 X.2.1 dX9_allow_39 rfl (lv_at hl 3 rfl) ?_
            refine zr_iast (r := 122) X hW dX9_allow_40 (zc_s122 hS) rfl rfl (zi_vp (by omega)) (fun H locs hW => ?_)
            obtain ⟨g_7, hg_7⟩ : ∃ z : zm_T, z = zm_w g 122 (zn f) r := ⟨_, rfl⟩
            have hW : zw_St Y N0 ad sh g_7 s H locs := by rw [hg_7]; exact hW
            obtain ⟨u_8, hu_8⟩ : ∃ z : zm_T, z = zm_w u 7 (3 + (zn f)) r := ⟨_, rfl⟩
            have hN : zc_N g_7 u_8 := by rw [hg_7, hu_8]; exact zc_Nw hN (zc_l122 (zi_nl (by omega) (by decide))) _
            refine lv_iconst (v := 1) X.1 X.2.1 dX9_allow_41 (by decide) ?_
            have e9 : sp_allow 1 f r u = (1, u_8) := (by rw [hu_8]; unfold sp_allow; (repeat (first | refine (if_pos (by omega)).trans ?_ | refine (if_neg (by omega)).trans ?_)); rfl)
            have hR9 : zc_R sh g_7 u_8 := zc_Rof hR hN (fun r i h => by rw [hu_8, zm_wn _ _ (by omega)]) (fun r h => by rw [hg_7, zm_wr (by omega)]) (fun j hj => by rw [hg_7, zm_wn _ _ (by omega)])
            exact zr_zret X hW dX9_allow_42 (Nat.le_refl _) (Nat.le_refl _) rfl ⟨by rw [e9], by rw [e9]; exact hR9, zc_fr1 (fun r h => by rw [hg_7, zm_wr (by omega)])⟩
          · have hc9 : a = 2 := zi_ext hc9
            subst hc9
            refine lv_aload_n X.1 X.2.1 dX9_allow_29 rfl (lv_at hl 0 rfl) ?_
            refine zr_get (r := 100) (v := .ref (ad 103)) X hW fs_X9_19_8 dX9_allow_30 (zc_s100 hS) rfl rfl rfl ?_
            refine zr_get (r := 103) (v := .ref (ad 111)) X hW fs_X9_101_0 dX9_allow_33 (zc_s103 hS) rfl rfl rfl ?_
            refine lv_iload_n X.1 X.2.1 dX9_allow_36 rfl (lv_at hl 1 rfl) ?_
            refine zr_aald (r := 111) (v := .ref (ad 123)) X hW dX9_allow_37 (zc_s111 hS) rfl rfl rfl (zi_vp (by decide)) rfl ?_
            refine lv_iload_n X.1 X.2.1 dX9_allow_38 rfl (lv_at hl 2 rfl) ?_
            refine lv_iload_n X.1 X.2.1 dX9_allow_39 rfl (lv_at hl 3 rfl) ?_
            refine zr_iast (r := 123) X hW dX9_allow_40 (zc_s123 hS) rfl rfl (zi_vp (by omega)) (fun H locs hW => ?_)
            obtain ⟨g_9, hg_9⟩ : ∃ z : zm_T, z = zm_w g 123 (zn f) r := ⟨_, rfl⟩
            have hW : zw_St Y N0 ad sh g_9 s H locs := by rw [hg_9]; exact hW
            obtain ⟨u_10, hu_10⟩ : ∃ z : zm_T, z = zm_w u 7 (6 + (zn f)) r := ⟨_, rfl⟩
            have hN : zc_N g_9 u_10 := by rw [hg_9, hu_10]; exact zc_Nw hN (zc_l123 (zi_nl (by omega) (by decide))) _
            refine lv_iconst (v := 1) X.1 X.2.1 dX9_allow_41 (by decide) ?_
            have e9 : sp_allow 2 f r u = (1, u_10) := (by rw [hu_10]; unfold sp_allow; (repeat (first | refine (if_pos (by omega)).trans ?_ | refine (if_neg (by omega)).trans ?_)); rfl)
            have hR9 : zc_R sh g_9 u_10 := zc_Rof hR hN (fun r i h => by rw [hu_10, zm_wn _ _ (by omega)]) (fun r h => by rw [hg_9, zm_wr (by omega)]) (fun j hj => by rw [hg_9, zm_wn _ _ (by omega)])
            exact zr_zret X hW dX9_allow_42 (Nat.le_refl _) (Nat.le_refl _) rfl ⟨by rw [e9], by rw [e9]; exact hR9, zc_fr1 (fun r h => by rw [hg_9, zm_wr (by omega)])⟩
          · have hc9 : a = 3 := zi_ext hc9
            subst hc9
            refine lv_aload_n X.1 X.2.1 dX9_allow_29 rfl (lv_at hl 0 rfl) ?_
            refine zr_get (r := 100) (v := .ref (ad 103)) X hW fs_X9_19_8 dX9_allow_30 (zc_s100 hS) rfl rfl rfl ?_
            refine zr_get (r := 103) (v := .ref (ad 111)) X hW fs_X9_101_0 dX9_allow_33 (zc_s103 hS) rfl rfl rfl ?_
            refine lv_iload_n X.1 X.2.1 dX9_allow_36 rfl (lv_at hl 1 rfl) ?_
            refine zr_aald (r := 111) (v := .ref (ad 124)) X hW dX9_allow_37 (zc_s111 hS) rfl rfl rfl (zi_vp (by decide)) rfl ?_
            refine lv_iload_n X.1 X.2.1 dX9_allow_38 rfl (lv_at hl 2 rfl) ?_
            refine lv_iload_n X.1 X.2.1 dX9_allow_39 rfl (lv_at hl 3 rfl) ?_
            refine zr_iast (r := 124) X hW dX9_allow_40 (zc_s124 hS) rfl rfl (zi_vp (by omega)) (fun H locs hW => ?_)
            obtain ⟨g_11, hg_11⟩ : ∃ z : zm_T, z = zm_w g 124 (zn f) r := ⟨_, rfl⟩
            have hW : zw_St Y N0 ad sh g_11 s H locs := by rw [hg_11]; exact hW
            obtain ⟨u_12, hu_12⟩ : ∃ z : zm_T, z = zm_w u 7 (9 + (zn f)) r := ⟨_, rfl⟩
            have hN : zc_N g_11 u_12 := by rw [hg_11, hu_12]; exact zc_Nw hN (zc_l124 (zi_nl (by omega) (by decide))) _
            refine lv_iconst (v := 1) X.1 X.2.1 dX9_allow_41 (by decide) ?_
            have e9 : sp_allow 3 f r u = (1, u_12) := (by rw [hu_12]; unfold sp_allow; (repeat (first | refine (if_pos (by omega)).trans ?_ | refine (if_neg (by omega)).trans ?_)); rfl)
            have hR9 : zc_R sh g_11 u_12 := zc_Rof hR hN (fun r i h => by rw [hu_12, zm_wn _ _ (by omega)]) (fun r h => by rw [hg_11, zm_wr (by omega)]) (fun j hj => by rw [hg_11, zm_wn _ _ (by omega)])
            exact zr_zret X hW dX9_allow_42 (Nat.le_refl _) (Nat.le_refl _) rfl ⟨by rw [e9], by rw [e9]; exact hR9, zc_fr1 (fun r h => by rw [hg_11, zm_wr (by omega)])⟩
          · have hc9 : a = 4 := zi_ext hc9
            subst hc9
            refine lv_aload_n X.1 X.2.1 dX9_allow_29 rfl (lv_at hl 0 rfl) ?_
            refine zr_get (r := 100) (v := .ref (ad 103)) X hW fs_X9_19_8 dX9_allow_30 (zc_s100 hS) rfl rfl rfl ?_
            refine zr_get (r := 103) (v := .ref (ad 111)) X hW fs_X9_101_0 dX9_allow_33 (zc_s103 hS) rfl rfl rfl ?_
            refine lv_iload_n X.1 X.2.1 dX9_allow_36 rfl (lv_at hl 1 rfl) ?_
            refine zr_aald (r := 111) (v := .ref (ad 125)) X hW dX9_allow_37 (zc_s111 hS) rfl rfl rfl (zi_vp (by decide)) rfl ?_
            refine lv_iload_n X.1 X.2.1 dX9_allow_38 rfl (lv_at hl 2 rfl) ?_
            refine lv_iload_n X.1 X.2.1 dX9_allow_39 rfl (lv_at hl 3 rfl) ?_
            refine zr_iast (r := 125) X hW dX9_allow_40 (zc_s125 hS) rfl rfl (zi_vp (by omega)) (fun H locs hW => ?_)
            obtain ⟨g_13, hg_13⟩ : ∃ z : zm_T, z = zm_w g 125 (zn f) r := ⟨_, rfl⟩
            have hW : zw_St Y N0 ad sh g_13 s H locs := by rw [hg_13]; exact hW
            obtain ⟨u_14, hu_14⟩ : ∃ z : zm_T, z = zm_w u 7 (12 + (zn f)) r := ⟨_, rfl⟩
            have hN : zc_N g_13 u_14 := by rw [hg_13, hu_14]; exact zc_Nw hN (zc_l125 (zi_nl (by omega) (by decide))) _
            refine lv_iconst (v := 1) X.1 X.2.1 dX9_allow_41 (by decide) ?_
            have e9 : sp_allow 4 f r u = (1, u_14) := (by rw [hu_14]; unfold sp_allow; (repeat (first | refine (if_pos (by omega)).trans ?_ | refine (if_neg (by omega)).trans ?_)); rfl)
            have hR9 : zc_R sh g_13 u_14 := zc_Rof hR hN (fun r i h => by rw [hu_14, zm_wn _ _ (by omega)]) (fun r h => by rw [hg_13, zm_wr (by omega)]) (fun j hj => by rw [hg_13, zm_wn _ _ (by omega)])
            exact zr_zret X hW dX9_allow_42 (Nat.le_refl _) (Nat.le_refl _) rfl ⟨by rw [e9], by rw [e9]; exact hR9, zc_fr1 (fun r h => by rw [hg_13, zm_wr (by omega)])⟩
          · have hc9 : a = 5 := zi_ext hc9
            subst hc9
            refine lv_aload_n X.1 X.2.1 dX9_allow_29 rfl (lv_at hl 0 rfl) ?_
            refine zr_get (r := 100) (v := .ref (ad 103)) X hW fs_X9_19_8 dX9_allow_30 (zc_s100 hS) rfl rfl rfl ?_
            refine zr_get (r := 103) (v := .ref (ad 111)) X hW fs_X9_101_0 dX9_allow_33 (zc_s103 hS) rfl rfl rfl ?_
            refine lv_iload_n X.1 X.2.1 dX9_allow_36 rfl (lv_at hl 1 rfl) ?_
            refine zr_aald (r := 111) (v := .ref (ad 126)) X hW dX9_allow_37 (zc_s111 hS) rfl rfl rfl (zi_vp (by decide)) rfl ?_
            refine lv_iload_n X.1 X.2.1 dX9_allow_38 rfl (lv_at hl 2 rfl) ?_
            refine lv_iload_n X.1 X.2.1 dX9_allow_39 rfl (lv_at hl 3 rfl) ?_
            refine zr_iast (r := 126) X hW dX9_allow_40 (zc_s126 hS) rfl rfl (zi_vp (by omega)) (fun H locs hW => ?_)
            obtain ⟨g_15, hg_15⟩ : ∃ z : zm_T, z = zm_w g 126 (zn f) r := ⟨_, rfl⟩
            have hW : zw_St Y N0 ad sh g_15 s H locs := by rw [hg_15]; exact hW
            obtain ⟨u_16, hu_16⟩ : ∃ z : zm_T, z = zm_w u 7 (15 + (zn f)) r := ⟨_, rfl⟩
            have hN : zc_N g_15 u_16 := by rw [hg_15, hu_16]; exact zc_Nw hN (zc_l126 (zi_nl (by omega) (by decide))) _
            refine lv_iconst (v := 1) X.1 X.2.1 dX9_allow_41 (by decide) ?_
            have e9 : sp_allow 5 f r u = (1, u_16) := (by rw [hu_16]; unfold sp_allow; (repeat (first | refine (if_pos (by omega)).trans ?_ | refine (if_neg (by omega)).trans ?_)); rfl)
            have hR9 : zc_R sh g_15 u_16 := zc_Rof hR hN (fun r i h => by rw [hu_16, zm_wn _ _ (by omega)]) (fun r h => by rw [hg_15, zm_wr (by omega)]) (fun j hj => by rw [hg_15, zm_wn _ _ (by omega)])
            exact zr_zret X hW dX9_allow_42 (Nat.le_refl _) (Nat.le_refl _) rfl ⟨by rw [e9], by rw [e9]; exact hR9, zc_fr1 (fun r h => by rw [hg_15, zm_wr (by omega)])⟩
        · refine lv_iconst (v := 0) X.1 X.2.1 dX9_allow_27 (by decide) ?_
          have e9 : sp_allow a f r u = (0, u) := (by unfold sp_allow; (repeat (first | refine (if_pos (by omega)).trans ?_ | refine (if_neg (by omega)).trans ?_)); rfl)
          exact zr_zret X hW dX9_allow_28 (Nat.le_refl _) (Nat.le_refl _) rfl ⟨by rw [e9], by rw [e9]; exact hR, zc_fr0⟩
    · subst h9
      have h_2 : ¬ (zi_in f 0 2) := h_2
      refine zr_if_eq (a := 0) (tgt := 27) X dX9_allow_15 (by decide) (by decide) (fun _ => ?_) (fun c9 => absurd c9 (by decide))
      refine lv_iconst (v := 0) X.1 X.2.1 dX9_allow_27 (by decide) ?_
      have e9 : sp_allow a f r u = (0, u) := (by unfold sp_allow; (repeat (first | refine (if_pos (by omega)).trans ?_ | refine (if_neg (by omega)).trans ?_)); rfl)
      exact zr_zret X hW dX9_allow_28 (Nat.le_refl _) (Nat.le_refl _) rfl ⟨by rw [e9], by rw [e9]; exact hR, zc_fr0⟩
  · subst h9
    have h_1 : ¬ (zs_bk u a) := h_1
    refine zr_if_eq (a := 0) (tgt := 27) X dX9_allow_8 (by decide) (by decide) (fun _ => ?_) (fun c9 => absurd c9 (by decide))
    refine lv_iconst (v := 0) X.1 X.2.1 dX9_allow_27 (by decide) ?_
    have e9 : sp_allow a f r u = (0, u) := (by unfold sp_allow; (repeat (first | refine (if_pos (by omega)).trans ?_ | refine (if_neg (by omega)).trans ?_)); rfl)
    exact zr_zret X hW dX9_allow_28 (Nat.le_refl _) (Nat.le_refl _) rfl ⟨by rw [e9], by rw [e9]; exact hR, zc_fr0⟩

set_option maxHeartbeats 4000000 in
set_option maxRecDepth 100000 in
theorem c_X9_steal (l : Launch) (Y : zw_Y) (N0 : Nat) (ad : Nat → Nat) (sh : Nat → Option zw_Sh) (g u : zm_T) (hR : zc_R sh g u) (hI : zm_I u) (a : Int32) : zw_Met l Y N0 yX9_steal cX9_steal 2 (some .int) 1 20 0 0 ad sh g [.ref (ad 100), .int a] (zc_Po ad sh g (sp_steal a u)) := by
  refine zw_meth (by decide) (Nat.le_of_ble_eq_true rfl) ?_
  intro p e s m below meth c ls X hnm hl hW
  have hl : lv_has ls 2 [(0, .ref (ad 100)), (1, .int a)] := hl
  have hS := hR.1
  have hN0 := hR.2.1
  have hN := hR.2.1
  have hB : ∀ i : Nat, i < 12 → -1 ≤ (u 5 i).toInt := fun i hi => (zI_bk hI i hi).1
  have hT : ∀ i : Nat, i < 12 → -1 ≤ (u 23 i).toInt := fun i hi => (zI_tk hI i hi).1
  refine lv_iload_n X.1 X.2.1 dX9_steal_0 rfl (lv_at hl 1 rfl) ?_
  refine zr_callS (As := [.int a]) (rest := []) X hW hl.1 md_X9_isPrincipal ms_X9_72 dX9_steal_1 rfl rfl (Nat.le_of_ble_eq_true rfl) ⟨Nat.le_of_ble_eq_true rfl, Nat.le_of_ble_eq_true rfl⟩ ⟨Nat.le_of_ble_eq_true rfl, Nat.le_of_ble_eq_true rfl⟩ (c_X9_isPrincipal l Y N0 ad sh g a) (fun v9 ad9 sh9 g9 H locs hp hW => ?_)
  rcases hp with ⟨rfl, rfl, rfl, ⟨h_1, h9⟩ | ⟨h_1, h9⟩⟩
  · subst h9
    have h_1 : zi_in a 0 5 := h_1
    refine zr_if_eq (a := 1) (tgt := 17) X dX9_steal_4 (by decide) (by decide) (fun c9 => absurd c9 (by decide)) (fun _ => ?_)
    have hke := zI_ke hI
    have how := zI_ow hI (zn a) (by rw [zi_n]; omega)
    refine lv_aload_n X.1 X.2.1 dX9_steal_7 rfl (lv_at hl 0 rfl) ?_
    refine zr_get (r := 100) (v := .ref (ad 102)) X hW fs_X9_13_8 dX9_steal_8 (zc_s100 hS) rfl rfl rfl ?_
    refine lv_iload_n X.1 X.2.1 dX9_steal_11 rfl (lv_at hl 1 rfl) ?_
    refine zr_iald (r := 102) (v := u 3 (zn a)) X hW dX9_steal_12 (zc_s102 hS) rfl rfl (zi_vp (by omega)) (hN0 _ _ _ _ (zc_l102 (zi_nl (by omega) (by decide)))) ?_
    refine lv_iconst (v := (-1)) X.1 X.2.1 dX9_steal_13 (by decide) ?_
    refine zr_icmp_ne (a := (u 3 (zn a)).toInt) (b := (-1)) (tgt := 19) X dX9_steal_14 (by decide) rfl (by decide) (fun c_2 => ?_) (fun c_2 => ?_)
    · refine lv_aload_n X.1 X.2.1 dX9_steal_19 rfl (lv_at hl 0 rfl) ?_
      refine zr_get (r := 100) (v := .ref (ad 108)) X hW fs_X9_49_8 dX9_steal_20 (zc_s100 hS) rfl rfl rfl ?_
      refine lv_aload_n X.1 X.2.1 dX9_steal_23 rfl (lv_at hl 0 rfl) ?_
      refine zr_get (r := 100) (v := .ref (ad 102)) X hW fs_X9_13_8 dX9_steal_24 (zc_s100 hS) rfl rfl rfl ?_
      refine lv_iload_n X.1 X.2.1 dX9_steal_27 rfl (lv_at hl 1 rfl) ?_
      refine zr_iald (r := 102) (v := u 3 (zn a)) X hW dX9_steal_28 (zc_s102 hS) rfl rfl (zi_vp (by omega)) (hN0 _ _ _ _ (zc_l102 (zi_nl (by omega) (by decide)))) ?_
      refine lv_iconst (v := 1) X.1 X.2.1 dX9_steal_29 (by decide) ?_
      refine zr_zast (r := 108) X hW dX9_steal_30 (zc_s108 hS) rfl rfl (zi_vp (by omega)) rfl (fun H locs hW => ?_)
      obtain ⟨g_3, hg_3⟩ : ∃ z : zm_T, z = zm_w g 108 (zn (u 3 (zn a))) 1 := ⟨_, rfl⟩
      have hW : zw_St Y N0 ad sh g_3 s H locs := by rw [hg_3]; exact hW
      obtain ⟨u_4, hu_4⟩ : ∃ z : zm_T, z = zm_w u 4 (zn (u 3 (zn a))) 1 := ⟨_, rfl⟩
      have hN : zc_N g_3 u_4 := by rw [hg_3, hu_4]; exact zc_Nw hN (zc_l108 (zi_nl (by omega) (by decide))) _
      refine lv_aload_n X.1 X.2.1 dX9_steal_31 rfl (lv_at hl 0 rfl) ?_
      refine zr_get (r := 100) (v := .ref (ad 102)) X hW fs_X9_13_8 dX9_steal_32 (zc_s100 hS) rfl rfl rfl ?_
      refine lv_iload_n X.1 X.2.1 dX9_steal_35 rfl (lv_at hl 1 rfl) ?_
      refine zr_iald (r := 102) (v := u 3 (zn a)) X hW dX9_steal_36 (zc_s102 hS) rfl rfl (zi_vp (by omega)) ((show g_3 102 (zn a) = g 102 (zn a) from (by rw [hg_3]; rfl)).trans (hN0 _ _ _ _ (zc_l102 (zi_nl (by omega) (by decide))))) ?_
      have e9 : sp_steal a u = (u 3 (zn a), u_4) := (by rw [hu_4]; unfold sp_steal; (repeat (first | refine (if_pos (by omega)).trans ?_ | refine (if_neg (by omega)).trans ?_)); rfl)
      have hR9 : zc_R sh g_3 u_4 := zc_Rof hR hN (fun r i h => by rw [hu_4, zm_wn _ _ (by omega)]) (fun r h => by rw [hg_3, zm_wr (by omega)]) (fun j hj => by rw [hg_3, zm_wn _ _ (by omega)])
      exact zr_iret X hW dX9_steal_37 (Nat.le_refl _) (Nat.le_refl _) ⟨by rw [e9], by rw [e9]; exact hR9, zc_fr1 (fun r h => by rw [hg_3, zm_wr (by omega)])⟩
    · refine lv_iconst (v := (-1)) X.1 X.2.1 dX9_steal_17 (by decide) ?_
      have e9 : sp_steal a u = ((-1), u) := (by unfold sp_steal; (repeat (first | refine (if_pos (by omega)).trans ?_ | refine (if_neg (by omega)).trans ?_)); rfl)
      exact zr_iret X hW dX9_steal_18 (Nat.le_refl _) (Nat.le_refl _) ⟨by rw [e9], by rw [e9]; exact hR, zc_fr0⟩
  · subst h9
    have h_1 : ¬ (zi_in a 0 5) := h_1
    refine zr_if_eq (a := 0) (tgt := 17) X dX9_steal_4 (by decide) (by decide) (fun _ => ?_) (fun c9 => absurd c9 (by decide))
    refine lv_iconst (v := (-1)) X.1 X.2.1 dX9_steal_17 (by decide) ?_
    have e9 : sp_steal a u = ((-1), u) := (by unfold sp_steal; (repeat (first | refine (if_pos (by omega)).trans ?_ | refine (if_neg (by omega)).trans ?_)); rfl)
    exact zr_iret X hW dX9_steal_18 (Nat.le_refl _) (Nat.le_refl _) ⟨by rw [e9], by rw [e9]; exact hR, zc_fr0⟩

set_option maxHeartbeats 4000000 in
set_option maxRecDepth 100000 in
theorem c_X9_learn (l : Launch) (Y : zw_Y) (N0 : Nat) (ad : Nat → Nat) (sh : Nat → Option zw_Sh) (g u : zm_T) (hR : zc_R sh g u) (hI : zm_I u) (q : Int32) : zw_Met l Y N0 yX9_learn cX9_learn 4 (some .int) 1 21 0 0 ad sh g [.ref (ad 100), .int q] (zc_Po ad sh g (sp_learn q u)) := by
  refine zw_meth (by decide) (Nat.le_of_ble_eq_true rfl) ?_
  intro p e s m below meth c ls X hnm hl hW
  have hl : lv_has ls 4 [(0, .ref (ad 100)), (1, .int q)] := hl
  have hS := hR.1
  have hN0 := hR.2.1
  have hN := hR.2.1
  have hB : ∀ i : Nat, i < 12 → -1 ≤ (u 5 i).toInt := fun i hi => (zI_bk hI i hi).1
  have hT : ∀ i : Nat, i < 12 → -1 ≤ (u 23 i).toInt := fun i hi => (zI_tk hI i hi).1
  have hse := zI_se hI
  have hke := zI_ke hI
  refine lv_aload_n X.1 X.2.1 dX9_learn_0 rfl (lv_at hl 0 rfl) ?_
  refine lv_iload_n X.1 X.2.1 dX9_learn_1 rfl (lv_at hl 1 rfl) ?_
  refine zr_callV (As := [.int q]) (rest := []) X hW hl.1 md_X9_sealAt ms_X9_155 dX9_learn_2 (zc_s100 hS) rfl rfl rfl rfl (Nat.le_of_ble_eq_true rfl) ⟨Nat.le_of_ble_eq_true rfl, Nat.le_of_ble_eq_true rfl⟩ ⟨Nat.le_of_ble_eq_true rfl, Nat.le_of_ble_eq_true rfl⟩ (c_X9_sealAt l Y N0 ad sh g u hR hI q) (fun v9 ad9 sh9 g9 H locs hp hW => ?_)
  rcases hp with ⟨rfl, rfl, rfl, ⟨h_1, h8⟩ | ⟨h_1, h8⟩⟩
  · subst h8
    have h_1 : zs_sl u q := h_1
    refine lv_astore_n (lv' := [(2, .ref (ad (200 + 2 * (zn q)))), (0, .ref (ad 100)), (1, .int q)]) X.1 X.2.1 dX9_learn_5 rfl hl (by decide) rfl (fun ls hl => ?_)
    refine lv_aload_n X.1 X.2.1 dX9_learn_6 rfl (lv_at hl 0 rfl) ?_
    refine lv_ifnonnull (tgt := 12) X.1 X.2.1 dX9_learn_7 (by decide) ?_
    have hsl := zI_sl hI (zn q) (by simp only [zi_n]; omega)
    have hln : zn q < zn (u 0 8) := by simp only [zi_n]; omega
    have hki := (zI_sl hI (zn q) (by simp only [zi_n]; omega)).1
    obtain hkd | hkd | hkd | hkd : (u 9 (zn q)).toInt = 1 ∨ (u 9 (zn q)).toInt = 2 ∨ (u 9 (zn q)).toInt = 3 ∨ (u 9 (zn q)).toInt = 4 := by omega
    · have hq := (hR.2.2.2.2.2.1 (zn q) hln).1 hkd
      refine lv_aload_n X.1 X.2.1 dX9_learn_12 rfl (lv_at hl 1 rfl) ?_
      refine lv_aload_n X.1 X.2.1 dX9_learn_13 rfl (lv_at hl 0 rfl) ?_
      refine zr_get (r := (200 + 2 * (zn q))) (v := .int (u 10 ((zn q)))) X hW fs_X9_267_5 dX9_learn_14 hq.1 rfl rfl (congrArg Value.int hq.2.1) ?_
      refine zr_callV (As := [.int (u 10 ((zn q)))]) (rest := []) X hW hl.1 md_X9_isStolen ms_X9_270 dX9_learn_17 (zc_s100 hS) rfl rfl rfl rfl (Nat.le_of_ble_eq_true rfl) ⟨Nat.le_of_ble_eq_true rfl, Nat.le_of_ble_eq_true rfl⟩ ⟨Nat.le_of_ble_eq_true rfl, Nat.le_of_ble_eq_true rfl⟩ (c_X9_isStolen l Y N0 ad sh g u hS hN hI (u 10 ((zn q)))) (fun v9 ad9 sh9 g9 H locs hp hW => ?_)
      rcases hp with ⟨rfl, rfl, rfl, ⟨h_2, h9⟩ | ⟨h_2, h9⟩⟩
      · subst h9
        have h_2 : zs_st u (u 10 ((zn q))) := h_2
        have hst := zI_st hI (zn (u 10 (zn q))) (by simp only [zi_n] at *; omega)
        refine zr_if_ne (a := 1) (tgt := 26) X dX9_learn_20 (by decide) (by decide) (fun _ => ?_) (fun c9 => absurd c9 (by decide))
        refine lv_aload_n X.1 X.2.1 dX9_learn_26 rfl (lv_at hl 0 rfl) ?_
        refine zr_callU (As := []) (rest := []) X hW hl.1 hq.1 rfl rfl dX9_learn_27 rfl rfl (Nat.le_of_ble_eq_true rfl) ⟨Nat.le_of_ble_eq_true rfl, Nat.le_of_ble_eq_true rfl⟩ (cu_heldKey_1 ⟨Nat.le_of_ble_eq_true rfl, Nat.le_of_ble_eq_true rfl⟩) (c_X6_heldKey l Y N0 ad sh g ((200 + 2 * (zn q)))) (fun v9 ad9 sh9 g9 H locs hp hW => ?_)
        obtain ⟨rfl, rfl, rfl, _, rfl, rfl⟩ := hp
        refine lv_istore_n (lv' := [(3, .int ((-1))), (2, .ref (ad (200 + 2 * (zn q)))), (0, .ref (ad 100)), (1, .int q)]) X.1 X.2.1 dX9_learn_30 rfl hl (by decide) rfl (fun ls hl => ?_)
        refine lv_iload_n X.1 X.2.1 dX9_learn_31 rfl (lv_at hl 0 rfl) ?_
        refine lv_iconst (v := (-1)) X.1 X.2.1 dX9_learn_32 (by decide) ?_
        refine zr_icmp_ne (a := (-1)) (b := (-1)) (tgt := 38) X dX9_learn_33 (by decide) (by decide) (by decide) (fun c9 => absurd c9 (by decide)) (fun _ => ?_)
        refine lv_iconst (v := 0) X.1 X.2.1 dX9_learn_36 (by decide) ?_
        have e9 : sp_learn q u = (0, u) := (by unfold sp_learn; (repeat (first | refine (if_pos (by omega)).trans ?_ | refine (if_neg (by omega)).trans ?_)); rfl)
        exact zr_iret X hW dX9_learn_37 (Nat.le_refl _) (Nat.le_refl _) ⟨by rw [e9], by rw [e9]; exact hR, zc_fr0⟩
      · subst h9
        have h_2 : ¬ (zs_st u (u 10 ((zn q)))) := h_2
        have hst := zI_st hI (zn (u 10 (zn q))) (by simp only [zi_n] at *; omega)
        refine zr_if_ne (a := 0) (tgt := 26) X dX9_learn_20 (by decide) (by decide) (fun c9 => absurd c9 (by decide)) (fun _ => ?_)
        refine lv_bipush (v := (-2)) X.1 X.2.1 dX9_learn_23 (by decide) ?_
        have e9 : sp_learn q u = ((-2), u) := (by unfold sp_learn; (repeat (first | refine (if_pos (by omega)).trans ?_ | refine (if_neg (by omega)).trans ?_)); rfl)
        exact zr_iret X hW dX9_learn_25 (Nat.le_refl _) (Nat.le_refl _) ⟨by rw [e9], by rw [e9]; exact hR, zc_fr0⟩
    · have hq := (hR.2.2.2.2.2.1 (zn q) hln).2.1 hkd
      refine lv_aload_n X.1 X.2.1 dX9_learn_12 rfl (lv_at hl 1 rfl) ?_
      refine lv_aload_n X.1 X.2.1 dX9_learn_13 rfl (lv_at hl 0 rfl) ?_
      refine zr_get (r := (200 + 2 * (zn q))) (v := .int (u 10 ((zn q)))) X hW fs_X9_267_6 dX9_learn_14 hq.1 rfl rfl (congrArg Value.int hq.2.1) ?_
      refine zr_callV (As := [.int (u 10 ((zn q)))]) (rest := []) X hW hl.1 md_X9_isStolen ms_X9_270 dX9_learn_17 (zc_s100 hS) rfl rfl rfl rfl (Nat.le_of_ble_eq_true rfl) ⟨Nat.le_of_ble_eq_true rfl, Nat.le_of_ble_eq_true rfl⟩ ⟨Nat.le_of_ble_eq_true rfl, Nat.le_of_ble_eq_true rfl⟩ (c_X9_isStolen l Y N0 ad sh g u hS hN hI (u 10 ((zn q)))) (fun v9 ad9 sh9 g9 H locs hp hW => ?_)
      rcases hp with ⟨rfl, rfl, rfl, ⟨h_3, h9⟩ | ⟨h_3, h9⟩⟩
      · subst h9
        have h_3 : zs_st u (u 10 ((zn q))) := h_3
        have hst := zI_st hI (zn (u 10 (zn q))) (by simp only [zi_n] at *; omega)
        refine zr_if_ne (a := 1) (tgt := 26) X dX9_learn_20 (by decide) (by decide) (fun _ => ?_) (fun c9 => absurd c9 (by decide))
        refine lv_aload_n X.1 X.2.1 dX9_learn_26 rfl (lv_at hl 0 rfl) ?_
        refine zr_callU (As := []) (rest := []) X hW hl.1 hq.1 rfl rfl dX9_learn_27 rfl rfl (Nat.le_of_ble_eq_true rfl) ⟨Nat.le_of_ble_eq_true rfl, Nat.le_of_ble_eq_true rfl⟩ (cu_heldKey_2 ⟨Nat.le_of_ble_eq_true rfl, Nat.le_of_ble_eq_true rfl⟩) (c_X7_heldKey l Y N0 ad sh g ((200 + 2 * (zn q))) hq.1) (fun v9 ad9 sh9 g9 H locs hp hW => ?_)
        obtain ⟨rfl, rfl, rfl, _, rfl, rfl⟩ := hp
        rw [hq.2.2.2.1]
        refine lv_istore_n (lv' := [(3, .int (u 12 ((zn q)))), (2, .ref (ad (200 + 2 * (zn q)))), (0, .ref (ad 100)), (1, .int q)]) X.1 X.2.1 dX9_learn_30 rfl hl (by decide) rfl (fun ls hl => ?_)
        refine lv_iload_n X.1 X.2.1 dX9_learn_31 rfl (lv_at hl 0 rfl) ?_
        refine lv_iconst (v := (-1)) X.1 X.2.1 dX9_learn_32 (by decide) ?_
        refine zr_icmp_ne (a := (u 12 ((zn q))).toInt) (b := (-1)) (tgt := 38) X dX9_learn_33 (by decide) rfl (by decide) (fun _ => ?_) (fun c9 => absurd c9 (by omega))
        refine lv_aload_n X.1 X.2.1 dX9_learn_38 rfl (lv_at hl 2 rfl) ?_
        refine zr_get (r := 100) (v := .ref (ad 108)) X hW fs_X9_49_8 dX9_learn_39 (zc_s100 hS) rfl rfl rfl ?_
        refine lv_iload_n X.1 X.2.1 dX9_learn_42 rfl (lv_at hl 0 rfl) ?_
        refine lv_iconst (v := 1) X.1 X.2.1 dX9_learn_43 (by decide) ?_
        refine zr_zast (r := 108) X hW dX9_learn_44 (zc_s108 hS) rfl rfl (zi_vp (by omega)) rfl (fun H locs hW => ?_)
        obtain ⟨g_4, hg_4⟩ : ∃ z : zm_T, z = zm_w g 108 (zn (u 12 ((zn q)))) 1 := ⟨_, rfl⟩
        have hW : zw_St Y N0 ad sh g_4 s H locs := by rw [hg_4]; exact hW
        obtain ⟨u_5, hu_5⟩ : ∃ z : zm_T, z = zm_w u 4 (zn (u 12 ((zn q)))) 1 := ⟨_, rfl⟩
        have hN : zc_N g_4 u_5 := by rw [hg_4, hu_5]; exact zc_Nw hN (zc_l108 (zi_nl (by omega) (by decide))) _
        refine lv_iload_n X.1 X.2.1 dX9_learn_45 rfl (lv_at hl 0 rfl) ?_
        have e9 : sp_learn q u = (u 12 ((zn q)), u_5) := (by rw [hu_5]; unfold sp_learn; (repeat (first | refine (if_pos (by omega)).trans ?_ | refine (if_neg (by omega)).trans ?_)); rfl)
        have hR9 : zc_R sh g_4 u_5 := zc_Rof hR hN (fun r i h => by rw [hu_5, zm_wn _ _ (by omega)]) (fun r h => by rw [hg_4, zm_wr (by omega)]) (fun j hj => by rw [hg_4, zm_wn _ _ (by omega)])
        exact zr_iret X hW dX9_learn_46 (Nat.le_refl _) (Nat.le_refl _) ⟨by rw [e9], by rw [e9]; exact hR9, zc_fr1 (fun r h => by rw [hg_4, zm_wr (by omega)])⟩
      · subst h9
        have h_3 : ¬ (zs_st u (u 10 ((zn q)))) := h_3
        have hst := zI_st hI (zn (u 10 (zn q))) (by simp only [zi_n] at *; omega)
        refine zr_if_ne (a := 0) (tgt := 26) X dX9_learn_20 (by decide) (by decide) (fun c9 => absurd c9 (by decide)) (fun _ => ?_)
        refine lv_bipush (v := (-2)) X.1 X.2.1 dX9_learn_23 (by decide) ?_
        have e9 : sp_learn q u = ((-2), u) := (by unfold sp_learn; (repeat (first | refine (if_pos (by omega)).trans ?_ | refine (if_neg (by omega)).trans ?_)); rfl)
        exact zr_iret X hW dX9_learn_25 (Nat.le_refl _) (Nat.le_refl _) ⟨by rw [e9], by rw [e9]; exact hR, zc_fr0⟩
    · have hq := (hR.2.2.2.2.2.1 (zn q) hln).2.2.1 hkd
      refine lv_aload_n X.1 X.2.1 dX9_learn_12 rfl (lv_at hl 1 rfl) ?_
      refine lv_aload_n X.1 X.2.1 dX9_learn_13 rfl (lv_at hl 0 rfl) ?_
      refine zr_get (r := (200 + 2 * (zn q))) (v := .int (u 10 ((zn q)))) X hW fs_X9_267_4 dX9_learn_14 hq.1 rfl rfl (congrArg Value.int hq.2.1) ?_
      refine zr_callV (As := [.int (u 10 ((zn q)))]) (rest := []) X hW hl.1 md_X9_isStolen ms_X9_270 dX9_learn_17 (zc_s100 hS) rfl rfl rfl rfl (Nat.le_of_ble_eq_true rfl) ⟨Nat.le_of_ble_eq_true rfl, Nat.le_of_ble_eq_true rfl⟩ ⟨Nat.le_of_ble_eq_true rfl, Nat.le_of_ble_eq_true rfl⟩ (c_X9_isStolen l Y N0 ad sh g u hS hN hI (u 10 ((zn q)))) (fun v9 ad9 sh9 g9 H locs hp hW => ?_)
      rcases hp with ⟨rfl, rfl, rfl, ⟨h_6, h9⟩ | ⟨h_6, h9⟩⟩
      · subst h9
        have h_6 : zs_st u (u 10 ((zn q))) := h_6
        have hst := zI_st hI (zn (u 10 (zn q))) (by simp only [zi_n] at *; omega)
        refine zr_if_ne (a := 1) (tgt := 26) X dX9_learn_20 (by decide) (by decide) (fun _ => ?_) (fun c9 => absurd c9 (by decide))
        refine lv_aload_n X.1 X.2.1 dX9_learn_26 rfl (lv_at hl 0 rfl) ?_
        refine zr_callU (As := []) (rest := []) X hW hl.1 hq.1 rfl rfl dX9_learn_27 rfl rfl (Nat.le_of_ble_eq_true rfl) ⟨Nat.le_of_ble_eq_true rfl, Nat.le_of_ble_eq_true rfl⟩ (cu_heldKey_3 ⟨Nat.le_of_ble_eq_true rfl, Nat.le_of_ble_eq_true rfl⟩) (c_X4_heldKey l Y N0 ad sh g ((200 + 2 * (zn q))) hq.1) (fun v9 ad9 sh9 g9 H locs hp hW => ?_)
        obtain ⟨rfl, rfl, rfl, _, rfl, rfl⟩ := hp
        rw [hq.2.2.1]
        refine lv_istore_n (lv' := [(3, .int (u 12 ((zn q)))), (2, .ref (ad (200 + 2 * (zn q)))), (0, .ref (ad 100)), (1, .int q)]) X.1 X.2.1 dX9_learn_30 rfl hl (by decide) rfl (fun ls hl => ?_)
        refine lv_iload_n X.1 X.2.1 dX9_learn_31 rfl (lv_at hl 0 rfl) ?_
        refine lv_iconst (v := (-1)) X.1 X.2.1 dX9_learn_32 (by decide) ?_
        refine zr_icmp_ne (a := (u 12 ((zn q))).toInt) (b := (-1)) (tgt := 38) X dX9_learn_33 (by decide) rfl (by decide) (fun _ => ?_) (fun c9 => absurd c9 (by omega))
        refine lv_aload_n X.1 X.2.1 dX9_learn_38 rfl (lv_at hl 2 rfl) ?_
        refine zr_get (r := 100) (v := .ref (ad 108)) X hW fs_X9_49_8 dX9_learn_39 (zc_s100 hS) rfl rfl rfl ?_
        refine lv_iload_n X.1 X.2.1 dX9_learn_42 rfl (lv_at hl 0 rfl) ?_
        refine lv_iconst (v := 1) X.1 X.2.1 dX9_learn_43 (by decide) ?_
        refine zr_zast (r := 108) X hW dX9_learn_44 (zc_s108 hS) rfl rfl (zi_vp (by omega)) rfl (fun H locs hW => ?_)
        obtain ⟨g_7, hg_7⟩ : ∃ z : zm_T, z = zm_w g 108 (zn (u 12 ((zn q)))) 1 := ⟨_, rfl⟩
        have hW : zw_St Y N0 ad sh g_7 s H locs := by rw [hg_7]; exact hW
        obtain ⟨u_8, hu_8⟩ : ∃ z : zm_T, z = zm_w u 4 (zn (u 12 ((zn q)))) 1 := ⟨_, rfl⟩
        have hN : zc_N g_7 u_8 := by rw [hg_7, hu_8]; exact zc_Nw hN (zc_l108 (zi_nl (by omega) (by decide))) _
        refine lv_iload_n X.1 X.2.1 dX9_learn_45 rfl (lv_at hl 0 rfl) ?_
        have e9 : sp_learn q u = (u 12 ((zn q)), u_8) := (by rw [hu_8]; unfold sp_learn; (repeat (first | refine (if_pos (by omega)).trans ?_ | refine (if_neg (by omega)).trans ?_)); rfl)
        have hR9 : zc_R sh g_7 u_8 := zc_Rof hR hN (fun r i h => by rw [hu_8, zm_wn _ _ (by omega)]) (fun r h => by rw [hg_7, zm_wr (by omega)]) (fun j hj => by rw [hg_7, zm_wn _ _ (by omega)])
        exact zr_iret X hW dX9_learn_46 (Nat.le_refl _) (Nat.le_refl _) ⟨by rw [e9], by rw [e9]; exact hR9, zc_fr1 (fun r h => by rw [hg_7, zm_wr (by omega)])⟩
      · subst h9
        have h_6 : ¬ (zs_st u (u 10 ((zn q)))) := h_6
        have hst := zI_st hI (zn (u 10 (zn q))) (by simp only [zi_n] at *; omega)
        refine zr_if_ne (a := 0) (tgt := 26) X dX9_learn_20 (by decide) (by decide) (fun c9 => absurd c9 (by decide)) (fun _ => ?_)
        refine lv_bipush (v := (-2)) X.1 X.2.1 dX9_learn_23 (by decide) ?_
        have e9 : sp_learn q u = ((-2), u) := (by unfold sp_learn; (repeat (first | refine (if_pos (by omega)).trans ?_ | refine (if_neg (by omega)).trans ?_)); rfl)
        exact zr_iret X hW dX9_learn_25 (Nat.le_refl _) (Nat.le_refl _) ⟨by rw [e9], by rw [e9]; exact hR, zc_fr0⟩
    · have hq := (hR.2.2.2.2.2.1 (zn q) hln).2.2.2 hkd
      refine lv_aload_n X.1 X.2.1 dX9_learn_12 rfl (lv_at hl 1 rfl) ?_
      refine lv_aload_n X.1 X.2.1 dX9_learn_13 rfl (lv_at hl 0 rfl) ?_
      refine zr_get (r := (200 + 2 * (zn q))) (v := .int (u 10 ((zn q)))) X hW fs_X9_267_1 dX9_learn_14 hq.1 rfl rfl (congrArg Value.int hq.2.2.1) ?_
      refine zr_callV (As := [.int (u 10 ((zn q)))]) (rest := []) X hW hl.1 md_X9_isStolen ms_X9_270 dX9_learn_17 (zc_s100 hS) rfl rfl rfl rfl (Nat.le_of_ble_eq_true rfl) ⟨Nat.le_of_ble_eq_true rfl, Nat.le_of_ble_eq_true rfl⟩ ⟨Nat.le_of_ble_eq_true rfl, Nat.le_of_ble_eq_true rfl⟩ (c_X9_isStolen l Y N0 ad sh g u hS hN hI (u 10 ((zn q)))) (fun v9 ad9 sh9 g9 H locs hp hW => ?_)
      rcases hp with ⟨rfl, rfl, rfl, ⟨h_9, h9⟩ | ⟨h_9, h9⟩⟩
      · subst h9
        have h_9 : zs_st u (u 10 ((zn q))) := h_9
        have hst := zI_st hI (zn (u 10 (zn q))) (by simp only [zi_n] at *; omega)
        refine zr_if_ne (a := 1) (tgt := 26) X dX9_learn_20 (by decide) (by decide) (fun _ => ?_) (fun c9 => absurd c9 (by decide))
        refine lv_aload_n X.1 X.2.1 dX9_learn_26 rfl (lv_at hl 0 rfl) ?_
        refine zr_callU (As := []) (rest := []) X hW hl.1 hq.1 rfl rfl dX9_learn_27 rfl rfl (Nat.le_of_ble_eq_true rfl) ⟨Nat.le_of_ble_eq_true rfl, Nat.le_of_ble_eq_true rfl⟩ (cu_heldKey_4 ⟨Nat.le_of_ble_eq_true rfl, Nat.le_of_ble_eq_true rfl⟩) (c_X6_heldKey l Y N0 ad sh g ((200 + 2 * (zn q)))) (fun v9 ad9 sh9 g9 H locs hp hW => ?_)
        obtain ⟨rfl, rfl, rfl, _, rfl, rfl⟩ := hp
        refine lv_istore_n (lv' := [(3, .int ((-1))), (2, .ref (ad (200 + 2 * (zn q)))), (0, .ref (ad 100)), (1, .int q)]) X.1 X.2.1 dX9_learn_30 rfl hl (by decide) rfl (fun ls hl => ?_)
        refine lv_iload_n X.1 X.2.1 dX9_learn_31 rfl (lv_at hl 0 rfl) ?_
        refine lv_iconst (v := (-1)) X.1 X.2.1 dX9_learn_32 (by decide) ?_
        refine zr_icmp_ne (a := (-1)) (b := (-1)) (tgt := 38) X dX9_learn_33 (by decide) (by decide) (by decide) (fun c9 => absurd c9 (by decide)) (fun _ => ?_)
        refine lv_iconst (v := 0) X.1 X.2.1 dX9_learn_36 (by decide) ?_
        have e9 : sp_learn q u = (0, u) := (by unfold sp_learn; (repeat (first | refine (if_pos (by omega)).trans ?_ | refine (if_neg (by omega)).trans ?_)); rfl)
        exact zr_iret X hW dX9_learn_37 (Nat.le_refl _) (Nat.le_refl _) ⟨by rw [e9], by rw [e9]; exact hR, zc_fr0⟩
      · subst h9
        have h_9 : ¬ (zs_st u (u 10 ((zn q)))) := h_9
        have hst := zI_st hI (zn (u 10 (zn q))) (by simp only [zi_n] at *; omega)
        refine zr_if_ne (a := 0) (tgt := 26) X dX9_learn_20 (by decide) (by decide) (fun c9 => absurd c9 (by decide)) (fun _ => ?_)
        refine lv_bipush (v := (-2)) X.1 X.2.1 dX9_learn_23 (by decide) ?_
        have e9 : sp_learn q u = ((-2), u) := (by unfold sp_learn; (repeat (first | refine (if_pos (by omega)).trans ?_ | refine (if_neg (by omega)).trans ?_)); rfl)
        exact zr_iret X hW dX9_learn_25 (Nat.le_refl _) (Nat.le_refl _) ⟨by rw [e9], by rw [e9]; exact hR, zc_fr0⟩
  · subst h8
    have h_1 : ¬ zs_sl u q := h_1
    refine lv_astore_nN (lv' := [(2, .null), (0, .ref (ad 100)), (1, .int q)]) X.1 X.2.1 dX9_learn_5 rfl hl (by decide) rfl (fun ls hl => ?_)
    refine lv_aload_nN X.1 X.2.1 dX9_learn_6 rfl (lv_at hl 0 rfl) ?_
    refine lv_ifnonnullN X.1 X.2.1 dX9_learn_7 ?_
    refine lv_iconst (v := (-1)) X.1 X.2.1 dX9_learn_10 (by decide) ?_
    have e9 : sp_learn q u = ((-1), u) := (by unfold sp_learn; (repeat (first | refine (if_pos (by omega)).trans ?_ | refine (if_neg (by omega)).trans ?_)); rfl)
    exact zr_iret X hW dX9_learn_11 (Nat.le_refl _) (Nat.le_refl _) ⟨by rw [e9], by rw [e9]; exact hR, zc_fr0⟩

set_option maxHeartbeats 4000000 in
set_option maxRecDepth 100000 in
theorem c_X9_seal (l : Launch) (Y : zw_Y) (N0 : Nat) (ad : Nat → Nat) (sh : Nat → Option zw_Sh) (g u : zm_T) (hR : zc_R sh g u) (hI : zm_I u) (q w : Int32) : zw_Met l Y N0 yX9_seal cX9_seal 4 (some .int) 1 21 0 0 ad sh g [.ref (ad 100), .int q, .int w] (zc_Po ad sh g (sp_seal q w u)) := by
  refine zw_meth (by decide) (Nat.le_of_ble_eq_true rfl) ?_
  intro p e s m below meth c ls X hnm hl hW
  have hl : lv_has ls 4 [(0, .ref (ad 100)), (1, .int q), (2, .int w)] := hl
  have hS := hR.1
  have hN0 := hR.2.1
  have hN := hR.2.1
  have hB : ∀ i : Nat, i < 12 → -1 ≤ (u 5 i).toInt := fun i hi => (zI_bk hI i hi).1
  have hT : ∀ i : Nat, i < 12 → -1 ≤ (u 23 i).toInt := fun i hi => (zI_tk hI i hi).1
  have hse := zI_se hI
  have hke := zI_ke hI
  refine lv_aload_n X.1 X.2.1 dX9_seal_0 rfl (lv_at hl 0 rfl) ?_
  refine lv_iload_n X.1 X.2.1 dX9_seal_1 rfl (lv_at hl 1 rfl) ?_
  refine zr_callV (As := [.int q]) (rest := []) X hW hl.1 md_X9_sealAt ms_X9_155 dX9_seal_2 (zc_s100 hS) rfl rfl rfl rfl (Nat.le_of_ble_eq_true rfl) ⟨Nat.le_of_ble_eq_true rfl, Nat.le_of_ble_eq_true rfl⟩ ⟨Nat.le_of_ble_eq_true rfl, Nat.le_of_ble_eq_true rfl⟩ (c_X9_sealAt l Y N0 ad sh g u hR hI q) (fun v9 ad9 sh9 g9 H locs hp hW => ?_)
  rcases hp with ⟨rfl, rfl, rfl, ⟨h_1, h8⟩ | ⟨h_1, h8⟩⟩
  · subst h8
    have h_1 : zs_sl u q := h_1
    refine lv_astore_n (lv' := [(3, .ref (ad (200 + 2 * (zn q)))), (0, .ref (ad 100)), (1, .int q), (2, .int w)]) X.1 X.2.1 dX9_seal_5 rfl hl (by decide) rfl (fun ls hl => ?_)
    refine lv_aload_n X.1 X.2.1 dX9_seal_6 rfl (lv_at hl 0 rfl) ?_
    refine lv_ifnonnull (tgt := 12) X.1 X.2.1 dX9_seal_7 (by decide) ?_
    have hln : zn q < zn (u 0 8) := by simp only [zi_n]; omega
    have hki := (zI_sl hI (zn q) (by simp only [zi_n]; omega)).1
    obtain hkd | hkd | hkd | hkd : (u 9 (zn q)).toInt = 1 ∨ (u 9 (zn q)).toInt = 2 ∨ (u 9 (zn q)).toInt = 3 ∨ (u 9 (zn q)).toInt = 4 := by omega
    · have hq := (hR.2.2.2.2.2.1 (zn q) hln).1 hkd
      refine lv_iload_n X.1 X.2.1 dX9_seal_12 rfl (lv_at hl 3 rfl) ?_
      by_cases c_2 : (w).toInt < 0 ∨ 2 < (w).toInt
      · refine lv_tableOut (tgt := 55) X.1 X.2.1 dX9_seal_13 c_2 (by decide) ?_
        refine lv_iconst (v := (-1)) X.1 X.2.1 dX9_seal_55 (by decide) ?_
        have e9 : sp_seal q w u = ((-1), u) := (by unfold sp_seal; (repeat (first | refine (if_pos (by omega)).trans ?_ | refine (if_neg (by omega)).trans ?_)); first | rfl | (refine Prod.ext ?_ rfl; (repeat (first | refine (if_pos (by omega)).trans ?_ | refine (if_neg (by omega)).trans ?_)); first | rfl | exact zi_ext hkd | exact zi_ext (by omega)))
        exact zr_iret X hW dX9_seal_56 (Nat.le_refl _) (Nat.le_refl _) ⟨by rw [e9], by rw [e9]; exact hR, zc_fr0⟩
      · obtain c_2 | c_2 | c_2 : (w).toInt = 0 ∨ (w).toInt = 1 ∨ (w).toInt = 2 := by omega
        · refine lv_tableIn (off := 27) (tgt := 40) X.1 X.2.1 dX9_seal_13 (by omega) (by omega) (by rw [c_2]; rfl) (by decide) ?_
          refine lv_aload_n X.1 X.2.1 dX9_seal_40 rfl (lv_at hl 0 rfl) ?_
          refine zr_callU (As := []) (rest := []) X hW hl.1 hq.1 rfl rfl dX9_seal_41 rfl rfl (Nat.le_of_ble_eq_true rfl) ⟨Nat.le_of_ble_eq_true rfl, Nat.le_of_ble_eq_true rfl⟩ (cu_kind_1 ⟨Nat.le_of_ble_eq_true rfl, Nat.le_of_ble_eq_true rfl⟩) (c_X5_kind l Y N0 ad sh g ((200 + 2 * (zn q)))) (fun v9 ad9 sh9 g9 H locs hp hW => ?_)
          obtain ⟨rfl, rfl, rfl, _, rfl, rfl⟩ := hp
          have e9 : sp_seal q w u = (1, u) := (by unfold sp_seal; (repeat (first | refine (if_pos (by omega)).trans ?_ | refine (if_neg (by omega)).trans ?_)); first | rfl | (refine Prod.ext ?_ rfl; (repeat (first | refine (if_pos (by omega)).trans ?_ | refine (if_neg (by omega)).trans ?_)); first | rfl | exact zi_ext hkd | exact zi_ext (by omega)))
          exact zr_iret X hW dX9_seal_44 (Nat.le_refl _) (Nat.le_refl _) ⟨by rw [e9], by rw [e9]; exact hR, zc_fr0⟩
        · refine lv_tableIn (off := 32) (tgt := 45) X.1 X.2.1 dX9_seal_13 (by omega) (by omega) (by rw [c_2]; rfl) (by decide) ?_
          refine lv_aload_n X.1 X.2.1 dX9_seal_45 rfl (lv_at hl 0 rfl) ?_
          refine zr_callU (As := []) (rest := []) X hW hl.1 hq.1 rfl rfl dX9_seal_46 rfl rfl (Nat.le_of_ble_eq_true rfl) ⟨Nat.le_of_ble_eq_true rfl, Nat.le_of_ble_eq_true rfl⟩ (cu_shownEnd_1 ⟨Nat.le_of_ble_eq_true rfl, Nat.le_of_ble_eq_true rfl⟩) (c_X6_shownEnd l Y N0 ad sh g ((200 + 2 * (zn q)))) (fun v9 ad9 sh9 g9 H locs hp hW => ?_)
          obtain ⟨rfl, rfl, rfl, _, rfl, rfl⟩ := hp
          have e9 : sp_seal q w u = (0, u) := (by unfold sp_seal; (repeat (first | refine (if_pos (by omega)).trans ?_ | refine (if_neg (by omega)).trans ?_)); first | rfl | (refine Prod.ext ?_ rfl; (repeat (first | refine (if_pos (by omega)).trans ?_ | refine (if_neg (by omega)).trans ?_)); first | rfl | exact zi_ext hkd | exact zi_ext (by omega)))
          exact zr_iret X hW dX9_seal_49 (Nat.le_refl _) (Nat.le_refl _) ⟨by rw [e9], by rw [e9]; exact hR, zc_fr0⟩
        · refine lv_tableIn (off := 37) (tgt := 50) X.1 X.2.1 dX9_seal_13 (by omega) (by omega) (by rw [c_2]; rfl) (by decide) ?_
          refine lv_aload_n X.1 X.2.1 dX9_seal_50 rfl (lv_at hl 0 rfl) ?_
          refine zr_callU (As := []) (rest := []) X hW hl.1 hq.1 rfl rfl dX9_seal_51 rfl rfl (Nat.le_of_ble_eq_true rfl) ⟨Nat.le_of_ble_eq_true rfl, Nat.le_of_ble_eq_true rfl⟩ (cu_shownTime_1 ⟨Nat.le_of_ble_eq_true rfl, Nat.le_of_ble_eq_true rfl⟩) (c_X5_shownTime l Y N0 ad sh g ((200 + 2 * (zn q))) hq.1) (fun v9 ad9 sh9 g9 H locs hp hW => ?_)
          obtain ⟨rfl, rfl, rfl, _, rfl, rfl⟩ := hp
          rw [hq.2.2.2]
          have e9 : sp_seal q w u = (u 13 ((zn q)), u) := (by unfold sp_seal; (repeat (first | refine (if_pos (by omega)).trans ?_ | refine (if_neg (by omega)).trans ?_)); first | rfl | (refine Prod.ext ?_ rfl; (repeat (first | refine (if_pos (by omega)).trans ?_ | refine (if_neg (by omega)).trans ?_)); first | rfl | exact zi_ext hkd | exact zi_ext (by omega)))
          exact zr_iret X hW dX9_seal_54 (Nat.le_refl _) (Nat.le_refl _) ⟨by rw [e9], by rw [e9]; exact hR, zc_fr0⟩
    · have hq := (hR.2.2.2.2.2.1 (zn q) hln).2.1 hkd
      refine lv_iload_n X.1 X.2.1 dX9_seal_12 rfl (lv_at hl 3 rfl) ?_
      by_cases c_3 : (w).toInt < 0 ∨ 2 < (w).toInt
      · refine lv_tableOut (tgt := 55) X.1 X.2.1 dX9_seal_13 c_3 (by decide) ?_
        refine lv_iconst (v := (-1)) X.1 X.2.1 dX9_seal_55 (by decide) ?_
        have e9 : sp_seal q w u = ((-1), u) := (by unfold sp_seal; (repeat (first | refine (if_pos (by omega)).trans ?_ | refine (if_neg (by omega)).trans ?_)); first | rfl | (refine Prod.ext ?_ rfl; (repeat (first | refine (if_pos (by omega)).trans ?_ | refine (if_neg (by omega)).trans ?_)); first | rfl | exact zi_ext hkd | exact zi_ext (by omega)))
        exact zr_iret X hW dX9_seal_56 (Nat.le_refl _) (Nat.le_refl _) ⟨by rw [e9], by rw [e9]; exact hR, zc_fr0⟩
      · obtain c_3 | c_3 | c_3 : (w).toInt = 0 ∨ (w).toInt = 1 ∨ (w).toInt = 2 := by omega
        · refine lv_tableIn (off := 27) (tgt := 40) X.1 X.2.1 dX9_seal_13 (by omega) (by omega) (by rw [c_3]; rfl) (by decide) ?_
          refine lv_aload_n X.1 X.2.1 dX9_seal_40 rfl (lv_at hl 0 rfl) ?_
          refine zr_callU (As := []) (rest := []) X hW hl.1 hq.1 rfl rfl dX9_seal_41 rfl rfl (Nat.le_of_ble_eq_true rfl) ⟨Nat.le_of_ble_eq_true rfl, Nat.le_of_ble_eq_true rfl⟩ (cu_kind_2 ⟨Nat.le_of_ble_eq_true rfl, Nat.le_of_ble_eq_true rfl⟩) (c_X7_kind l Y N0 ad sh g ((200 + 2 * (zn q)))) (fun v9 ad9 sh9 g9 H locs hp hW => ?_)
          obtain ⟨rfl, rfl, rfl, _, rfl, rfl⟩ := hp
          have e9 : sp_seal q w u = (2, u) := (by unfold sp_seal; (repeat (first | refine (if_pos (by omega)).trans ?_ | refine (if_neg (by omega)).trans ?_)); first | rfl | (refine Prod.ext ?_ rfl; (repeat (first | refine (if_pos (by omega)).trans ?_ | refine (if_neg (by omega)).trans ?_)); first | rfl | exact zi_ext hkd | exact zi_ext (by omega)))
          exact zr_iret X hW dX9_seal_44 (Nat.le_refl _) (Nat.le_refl _) ⟨by rw [e9], by rw [e9]; exact hR, zc_fr0⟩
        · refine lv_tableIn (off := 32) (tgt := 45) X.1 X.2.1 dX9_seal_13 (by omega) (by omega) (by rw [c_3]; rfl) (by decide) ?_
          refine lv_aload_n X.1 X.2.1 dX9_seal_45 rfl (lv_at hl 0 rfl) ?_
          refine zr_callU (As := []) (rest := []) X hW hl.1 hq.1 rfl rfl dX9_seal_46 rfl rfl (Nat.le_of_ble_eq_true rfl) ⟨Nat.le_of_ble_eq_true rfl, Nat.le_of_ble_eq_true rfl⟩ (cu_shownEnd_2 ⟨Nat.le_of_ble_eq_true rfl, Nat.le_of_ble_eq_true rfl⟩) (c_X7_shownEnd l Y N0 ad sh g ((200 + 2 * (zn q))) hq.1) (fun v9 ad9 sh9 g9 H locs hp hW => ?_)
          obtain ⟨rfl, rfl, rfl, _, rfl, rfl⟩ := hp
          rw [hq.2.2.2.2.2.1]
          have e9 : sp_seal q w u = (u 14 ((zn q)), u) := (by unfold sp_seal; (repeat (first | refine (if_pos (by omega)).trans ?_ | refine (if_neg (by omega)).trans ?_)); first | rfl | (refine Prod.ext ?_ rfl; (repeat (first | refine (if_pos (by omega)).trans ?_ | refine (if_neg (by omega)).trans ?_)); first | rfl | exact zi_ext hkd | exact zi_ext (by omega)))
          exact zr_iret X hW dX9_seal_49 (Nat.le_refl _) (Nat.le_refl _) ⟨by rw [e9], by rw [e9]; exact hR, zc_fr0⟩
        · refine lv_tableIn (off := 37) (tgt := 50) X.1 X.2.1 dX9_seal_13 (by omega) (by omega) (by rw [c_3]; rfl) (by decide) ?_
          refine lv_aload_n X.1 X.2.1 dX9_seal_50 rfl (lv_at hl 0 rfl) ?_
          refine zr_callU (As := []) (rest := []) X hW hl.1 hq.1 rfl rfl dX9_seal_51 rfl rfl (Nat.le_of_ble_eq_true rfl) ⟨Nat.le_of_ble_eq_true rfl, Nat.le_of_ble_eq_true rfl⟩ (cu_shownTime_2 ⟨Nat.le_of_ble_eq_true rfl, Nat.le_of_ble_eq_true rfl⟩) (c_X6_shownTime l Y N0 ad sh g ((200 + 2 * (zn q)))) (fun v9 ad9 sh9 g9 H locs hp hW => ?_)
          obtain ⟨rfl, rfl, rfl, _, rfl, rfl⟩ := hp
          have e9 : sp_seal q w u = (0, u) := (by unfold sp_seal; (repeat (first | refine (if_pos (by omega)).trans ?_ | refine (if_neg (by omega)).trans ?_)); first | rfl | (refine Prod.ext ?_ rfl; (repeat (first | refine (if_pos (by omega)).trans ?_ | refine (if_neg (by omega)).trans ?_)); first | rfl | exact zi_ext hkd | exact zi_ext (by omega)))
          exact zr_iret X hW dX9_seal_54 (Nat.le_refl _) (Nat.le_refl _) ⟨by rw [e9], by rw [e9]; exact hR, zc_fr0⟩
    · have hq := (hR.2.2.2.2.2.1 (zn q) hln).2.2.1 hkd
      refine lv_iload_n X.1 X.2.1 dX9_seal_12 rfl (lv_at hl 3 rfl) ?_
      by_cases c_4 : (w).toInt < 0 ∨ 2 < (w).toInt
      · refine lv_tableOut (tgt := 55) X.1 X.2.1 dX9_seal_13 c_4 (by decide) ?_
        refine lv_iconst (v := (-1)) X.1 X.2.1 dX9_seal_55 (by decide) ?_
        have e9 : sp_seal q w u = ((-1), u) := (by unfold sp_seal; (repeat (first | refine (if_pos (by omega)).trans ?_ | refine (if_neg (by omega)).trans ?_)); first | rfl | (refine Prod.ext ?_ rfl; (repeat (first | refine (if_pos (by omega)).trans ?_ | refine (if_neg (by omega)).trans ?_)); first | rfl | exact zi_ext hkd | exact zi_ext (by omega)))
        exact zr_iret X hW dX9_seal_56 (Nat.le_refl _) (Nat.le_refl _) ⟨by rw [e9], by rw [e9]; exact hR, zc_fr0⟩
      · obtain c_4 | c_4 | c_4 : (w).toInt = 0 ∨ (w).toInt = 1 ∨ (w).toInt = 2 := by omega
        · refine lv_tableIn (off := 27) (tgt := 40) X.1 X.2.1 dX9_seal_13 (by omega) (by omega) (by rw [c_4]; rfl) (by decide) ?_
          refine lv_aload_n X.1 X.2.1 dX9_seal_40 rfl (lv_at hl 0 rfl) ?_
          refine zr_callU (As := []) (rest := []) X hW hl.1 hq.1 rfl rfl dX9_seal_41 rfl rfl (Nat.le_of_ble_eq_true rfl) ⟨Nat.le_of_ble_eq_true rfl, Nat.le_of_ble_eq_true rfl⟩ (cu_kind_3 ⟨Nat.le_of_ble_eq_true rfl, Nat.le_of_ble_eq_true rfl⟩) (c_X4_kind l Y N0 ad sh g ((200 + 2 * (zn q)))) (fun v9 ad9 sh9 g9 H locs hp hW => ?_)
          obtain ⟨rfl, rfl, rfl, _, rfl, rfl⟩ := hp
          have e9 : sp_seal q w u = (3, u) := (by unfold sp_seal; (repeat (first | refine (if_pos (by omega)).trans ?_ | refine (if_neg (by omega)).trans ?_)); first | rfl | (refine Prod.ext ?_ rfl; (repeat (first | refine (if_pos (by omega)).trans ?_ | refine (if_neg (by omega)).trans ?_)); first | rfl | exact zi_ext hkd | exact zi_ext (by omega)))
          exact zr_iret X hW dX9_seal_44 (Nat.le_refl _) (Nat.le_refl _) ⟨by rw [e9], by rw [e9]; exact hR, zc_fr0⟩
        · refine lv_tableIn (off := 32) (tgt := 45) X.1 X.2.1 dX9_seal_13 (by omega) (by omega) (by rw [c_4]; rfl) (by decide) ?_
          refine lv_aload_n X.1 X.2.1 dX9_seal_45 rfl (lv_at hl 0 rfl) ?_
          refine zr_callU (As := []) (rest := []) X hW hl.1 hq.1 rfl rfl dX9_seal_46 rfl rfl (Nat.le_of_ble_eq_true rfl) ⟨Nat.le_of_ble_eq_true rfl, Nat.le_of_ble_eq_true rfl⟩ (cu_shownEnd_3 ⟨Nat.le_of_ble_eq_true rfl, Nat.le_of_ble_eq_true rfl⟩) (c_X4_shownEnd l Y N0 ad sh g ((200 + 2 * (zn q))) hq.1) (fun v9 ad9 sh9 g9 H locs hp hW => ?_)
          obtain ⟨rfl, rfl, rfl, _, rfl, rfl⟩ := hp
          rw [hq.2.2.2.2.2]
          have e9 : sp_seal q w u = (u 15 ((zn q)), u) := (by unfold sp_seal; (repeat (first | refine (if_pos (by omega)).trans ?_ | refine (if_neg (by omega)).trans ?_)); first | rfl | (refine Prod.ext ?_ rfl; (repeat (first | refine (if_pos (by omega)).trans ?_ | refine (if_neg (by omega)).trans ?_)); first | rfl | exact zi_ext hkd | exact zi_ext (by omega)))
          exact zr_iret X hW dX9_seal_49 (Nat.le_refl _) (Nat.le_refl _) ⟨by rw [e9], by rw [e9]; exact hR, zc_fr0⟩
        · refine lv_tableIn (off := 37) (tgt := 50) X.1 X.2.1 dX9_seal_13 (by omega) (by omega) (by rw [c_4]; rfl) (by decide) ?_
          refine lv_aload_n X.1 X.2.1 dX9_seal_50 rfl (lv_at hl 0 rfl) ?_
          refine zr_callU (As := []) (rest := []) X hW hl.1 hq.1 rfl rfl dX9_seal_51 rfl rfl (Nat.le_of_ble_eq_true rfl) ⟨Nat.le_of_ble_eq_true rfl, Nat.le_of_ble_eq_true rfl⟩ (cu_shownTime_3 ⟨Nat.le_of_ble_eq_true rfl, Nat.le_of_ble_eq_true rfl⟩) (c_X6_shownTime l Y N0 ad sh g ((200 + 2 * (zn q)))) (fun v9 ad9 sh9 g9 H locs hp hW => ?_)
          obtain ⟨rfl, rfl, rfl, _, rfl, rfl⟩ := hp
          have e9 : sp_seal q w u = (0, u) := (by unfold sp_seal; (repeat (first | refine (if_pos (by omega)).trans ?_ | refine (if_neg (by omega)).trans ?_)); first | rfl | (refine Prod.ext ?_ rfl; (repeat (first | refine (if_pos (by omega)).trans ?_ | refine (if_neg (by omega)).trans ?_)); first | rfl | exact zi_ext hkd | exact zi_ext (by omega)))
          exact zr_iret X hW dX9_seal_54 (Nat.le_refl _) (Nat.le_refl _) ⟨by rw [e9], by rw [e9]; exact hR, zc_fr0⟩
    · have hq := (hR.2.2.2.2.2.1 (zn q) hln).2.2.2 hkd
      refine lv_iload_n X.1 X.2.1 dX9_seal_12 rfl (lv_at hl 3 rfl) ?_
      by_cases c_5 : (w).toInt < 0 ∨ 2 < (w).toInt
      · refine lv_tableOut (tgt := 55) X.1 X.2.1 dX9_seal_13 c_5 (by decide) ?_
        refine lv_iconst (v := (-1)) X.1 X.2.1 dX9_seal_55 (by decide) ?_
        have e9 : sp_seal q w u = ((-1), u) := (by unfold sp_seal; (repeat (first | refine (if_pos (by omega)).trans ?_ | refine (if_neg (by omega)).trans ?_)); first | rfl | (refine Prod.ext ?_ rfl; (repeat (first | refine (if_pos (by omega)).trans ?_ | refine (if_neg (by omega)).trans ?_)); first | rfl | exact zi_ext hkd | exact zi_ext (by omega)))
        exact zr_iret X hW dX9_seal_56 (Nat.le_refl _) (Nat.le_refl _) ⟨by rw [e9], by rw [e9]; exact hR, zc_fr0⟩
      · obtain c_5 | c_5 | c_5 : (w).toInt = 0 ∨ (w).toInt = 1 ∨ (w).toInt = 2 := by omega
        · refine lv_tableIn (off := 27) (tgt := 40) X.1 X.2.1 dX9_seal_13 (by omega) (by omega) (by rw [c_5]; rfl) (by decide) ?_
          refine lv_aload_n X.1 X.2.1 dX9_seal_40 rfl (lv_at hl 0 rfl) ?_
          refine zr_callU (As := []) (rest := []) X hW hl.1 hq.1 rfl rfl dX9_seal_41 rfl rfl (Nat.le_of_ble_eq_true rfl) ⟨Nat.le_of_ble_eq_true rfl, Nat.le_of_ble_eq_true rfl⟩ (cu_kind_4 ⟨Nat.le_of_ble_eq_true rfl, Nat.le_of_ble_eq_true rfl⟩) (c_X1_kind l Y N0 ad sh g ((200 + 2 * (zn q)))) (fun v9 ad9 sh9 g9 H locs hp hW => ?_)
          obtain ⟨rfl, rfl, rfl, _, rfl, rfl⟩ := hp
          have e9 : sp_seal q w u = (4, u) := (by unfold sp_seal; (repeat (first | refine (if_pos (by omega)).trans ?_ | refine (if_neg (by omega)).trans ?_)); first | rfl | (refine Prod.ext ?_ rfl; (repeat (first | refine (if_pos (by omega)).trans ?_ | refine (if_neg (by omega)).trans ?_)); first | rfl | exact zi_ext hkd | exact zi_ext (by omega)))
          exact zr_iret X hW dX9_seal_44 (Nat.le_refl _) (Nat.le_refl _) ⟨by rw [e9], by rw [e9]; exact hR, zc_fr0⟩
        · refine lv_tableIn (off := 32) (tgt := 45) X.1 X.2.1 dX9_seal_13 (by omega) (by omega) (by rw [c_5]; rfl) (by decide) ?_
          refine lv_aload_n X.1 X.2.1 dX9_seal_45 rfl (lv_at hl 0 rfl) ?_
          refine zr_callU (As := []) (rest := []) X hW hl.1 hq.1 rfl rfl dX9_seal_46 rfl rfl (Nat.le_of_ble_eq_true rfl) ⟨Nat.le_of_ble_eq_true rfl, Nat.le_of_ble_eq_true rfl⟩ (cu_shownEnd_4 ⟨Nat.le_of_ble_eq_true rfl, Nat.le_of_ble_eq_true rfl⟩) (c_X6_shownEnd l Y N0 ad sh g ((200 + 2 * (zn q)))) (fun v9 ad9 sh9 g9 H locs hp hW => ?_)
          obtain ⟨rfl, rfl, rfl, _, rfl, rfl⟩ := hp
          have e9 : sp_seal q w u = (0, u) := (by unfold sp_seal; (repeat (first | refine (if_pos (by omega)).trans ?_ | refine (if_neg (by omega)).trans ?_)); first | rfl | (refine Prod.ext ?_ rfl; (repeat (first | refine (if_pos (by omega)).trans ?_ | refine (if_neg (by omega)).trans ?_)); first | rfl | exact zi_ext hkd | exact zi_ext (by omega)))
          exact zr_iret X hW dX9_seal_49 (Nat.le_refl _) (Nat.le_refl _) ⟨by rw [e9], by rw [e9]; exact hR, zc_fr0⟩
        · refine lv_tableIn (off := 37) (tgt := 50) X.1 X.2.1 dX9_seal_13 (by omega) (by omega) (by rw [c_5]; rfl) (by decide) ?_
          refine lv_aload_n X.1 X.2.1 dX9_seal_50 rfl (lv_at hl 0 rfl) ?_
          refine zr_callU (As := []) (rest := []) X hW hl.1 hq.1 rfl rfl dX9_seal_51 rfl rfl (Nat.le_of_ble_eq_true rfl) ⟨Nat.le_of_ble_eq_true rfl, Nat.le_of_ble_eq_true rfl⟩ (cu_shownTime_4 ⟨Nat.le_of_ble_eq_true rfl, Nat.le_of_ble_eq_true rfl⟩) (c_X1_shownTime l Y N0 ad sh g ((200 + 2 * (zn q))) (201 + 2 * (zn q)) hq.1) (fun v9 ad9 sh9 g9 H locs hp hW => ?_)
          obtain ⟨rfl, rfl, rfl, _, rfl, rfl⟩ := hp
          rw [hq.2.2.2.2.1]
          have e9 : sp_seal q w u = (u 13 ((zn q)), u) := (by unfold sp_seal; (repeat (first | refine (if_pos (by omega)).trans ?_ | refine (if_neg (by omega)).trans ?_)); first | rfl | (refine Prod.ext ?_ rfl; (repeat (first | refine (if_pos (by omega)).trans ?_ | refine (if_neg (by omega)).trans ?_)); first | rfl | exact zi_ext hkd | exact zi_ext (by omega)))
          exact zr_iret X hW dX9_seal_54 (Nat.le_refl _) (Nat.le_refl _) ⟨by rw [e9], by rw [e9]; exact hR, zc_fr0⟩
  · subst h8
    have h_1 : ¬ zs_sl u q := h_1
    refine lv_astore_nN (lv' := [(3, .null), (0, .ref (ad 100)), (1, .int q), (2, .int w)]) X.1 X.2.1 dX9_seal_5 rfl hl (by decide) rfl (fun ls hl => ?_)
    refine lv_aload_nN X.1 X.2.1 dX9_seal_6 rfl (lv_at hl 0 rfl) ?_
    refine lv_ifnonnullN X.1 X.2.1 dX9_seal_7 ?_
    refine lv_iconst (v := (-1)) X.1 X.2.1 dX9_seal_10 (by decide) ?_
    have e9 : sp_seal q w u = ((-1), u) := (by unfold sp_seal; (repeat (first | refine (if_pos (by omega)).trans ?_ | refine (if_neg (by omega)).trans ?_)); first | rfl | (refine Prod.ext ?_ rfl; (repeat (first | refine (if_pos (by omega)).trans ?_ | refine (if_neg (by omega)).trans ?_)); first | rfl | exact zi_ext hkd | exact zi_ext (by omega)))
    exact zr_iret X hW dX9_seal_11 (Nat.le_refl _) (Nat.le_refl _) ⟨by rw [e9], by rw [e9]; exact hR, zc_fr0⟩

set_option maxHeartbeats 4000000 in
set_option maxRecDepth 100000 in
theorem c_X9_look (l : Launch) (Y : zw_Y) (N0 : Nat) (ad : Nat → Nat) (sh : Nat → Option zw_Sh) (g u : zm_T) (hR : zc_R sh g u) (hI : zm_I u) (w i : Int32) : zw_Met l Y N0 yX9_look cX9_look 3 (some .int) 3 64 0 0 ad sh g [.ref (ad 100), .int w, .int i] (zc_Po ad sh g (sp_look w i u)) := by
  refine zw_meth (by decide) (Nat.le_of_ble_eq_true rfl) ?_
  intro p e s m below meth c ls X hnm hl hW
  have hl : lv_has ls 3 [(0, .ref (ad 100)), (1, .int w), (2, .int i)] := hl
  have hS := hR.1
  have hN0 := hR.2.1
  have hN := hR.2.1
  have hB : ∀ i : Nat, i < 12 → -1 ≤ (u 5 i).toInt := fun i hi => (zI_bk hI i hi).1
  have hT : ∀ i : Nat, i < 12 → -1 ≤ (u 23 i).toInt := fun i hi => (zI_tk hI i hi).1
  refine lv_iload_n X.1 X.2.1 dX9_look_0 rfl (lv_at hl 1 rfl) ?_
  by_cases c_1 : (w).toInt < 0 ∨ 7 < (w).toInt
  · refine lv_tableOut (tgt := 125) X.1 X.2.1 dX9_look_1 c_1 (by decide) ?_
    refine lv_iconst (v := (-1)) X.1 X.2.1 dX9_look_125 (by decide) ?_
    have e9 : sp_look w i u = ((-1), u) := (by unfold sp_look; (repeat (first | refine (if_pos (by omega)).trans ?_ | refine (if_neg (by omega)).trans ?_)); first | rfl | (refine Prod.ext ?_ rfl; (repeat (first | refine (if_pos (by omega)).trans ?_ | refine (if_neg (by omega)).trans ?_)); first | rfl | exact zi_ext hkd | exact zi_ext (by omega)))
    exact zr_iret X hW dX9_look_126 (Nat.le_refl _) (Nat.le_refl _) ⟨by rw [e9], by rw [e9]; exact hR, zc_fr0⟩
  · obtain c_1 | c_1 | c_1 | c_1 | c_1 | c_1 | c_1 | c_1 : (w).toInt = 0 ∨ (w).toInt = 1 ∨ (w).toInt = 2 ∨ (w).toInt = 3 ∨ (w).toInt = 4 ∨ (w).toInt = 5 ∨ (w).toInt = 6 ∨ (w).toInt = 7 := by omega
    · refine lv_tableIn (off := 47) (tgt := 48) X.1 X.2.1 dX9_look_1 (by omega) (by omega) (by rw [c_1]; rfl) (by decide) ?_
      refine lv_iload_n X.1 X.2.1 dX9_look_48 rfl (lv_at hl 2 rfl) ?_
      refine zr_callS (As := [.int i]) (rest := []) X hW hl.1 md_X9_isFile ms_X9_98 dX9_look_49 rfl rfl (Nat.le_of_ble_eq_true rfl) ⟨Nat.le_of_ble_eq_true rfl, Nat.le_of_ble_eq_true rfl⟩ ⟨Nat.le_of_ble_eq_true rfl, Nat.le_of_ble_eq_true rfl⟩ (c_X9_isFile l Y N0 ad sh g i) (fun v9 ad9 sh9 g9 H locs hp hW => ?_)
      rcases hp with ⟨rfl, rfl, rfl, ⟨h_2, h9⟩ | ⟨h_2, h9⟩⟩
      · subst h9
        have h_2 : zi_in i 0 2 := h_2
        refine zr_if_eq (a := 1) (tgt := 67) X dX9_look_52 (by decide) (by decide) (fun c9 => absurd c9 (by decide)) (fun _ => ?_)
        refine lv_aload_n X.1 X.2.1 dX9_look_55 rfl (lv_at hl 0 rfl) ?_
        refine zr_get (r := 100) (v := .ref (ad 106)) X hW fs_X9_35_8 dX9_look_56 (zc_s100 hS) rfl rfl rfl ?_
        refine zr_get (r := 106) (v := .ref (ad 119)) X hW fs_X9_289_2 dX9_look_59 (zc_s106 hS) rfl rfl rfl ?_
        refine lv_iload_n X.1 X.2.1 dX9_look_62 rfl (lv_at hl 2 rfl) ?_
        refine zr_iald (r := 119) (v := u 26 (zn i)) X hW dX9_look_63 (zc_s119 hS) rfl rfl (zi_vp (by omega)) (hN0 _ _ _ _ (zc_l119 (zi_nl (by omega) (by decide)))) ?_
        refine lv_goto (tgt := 68) X.1 X.2.1 dX9_look_64 (by decide) ?_
        have e9 : sp_look w i u = (u 26 (zn i), u) := (by unfold sp_look; (repeat (first | refine (if_pos (by omega)).trans ?_ | refine (if_neg (by omega)).trans ?_)); first | rfl | (refine Prod.ext ?_ rfl; (repeat (first | refine (if_pos (by omega)).trans ?_ | refine (if_neg (by omega)).trans ?_)); first | rfl | exact zi_ext hkd | exact zi_ext (by omega)))
        exact zr_iret X hW dX9_look_68 (Nat.le_refl _) (Nat.le_refl _) ⟨by rw [e9], by rw [e9]; exact hR, zc_fr0⟩
      · subst h9
        have h_2 : ¬ (zi_in i 0 2) := h_2
        refine zr_if_eq (a := 0) (tgt := 67) X dX9_look_52 (by decide) (by decide) (fun _ => ?_) (fun c9 => absurd c9 (by decide))
        refine lv_iconst (v := (-1)) X.1 X.2.1 dX9_look_67 (by decide) ?_
        have e9 : sp_look w i u = ((-1), u) := (by unfold sp_look; (repeat (first | refine (if_pos (by omega)).trans ?_ | refine (if_neg (by omega)).trans ?_)); first | rfl | (refine Prod.ext ?_ rfl; (repeat (first | refine (if_pos (by omega)).trans ?_ | refine (if_neg (by omega)).trans ?_)); first | rfl | exact zi_ext hkd | exact zi_ext (by omega)))
        exact zr_iret X hW dX9_look_68 (Nat.le_refl _) (Nat.le_refl _) ⟨by rw [e9], by rw [e9]; exact hR, zc_fr0⟩
    · refine lv_tableIn (off := 68) (tgt := 69) X.1 X.2.1 dX9_look_1 (by omega) (by omega) (by rw [c_1]; rfl) (by decide) ?_
      refine lv_iload_n X.1 X.2.1 dX9_look_69 rfl (lv_at hl 2 rfl) ?_
      refine zr_callS (As := [.int i]) (rest := []) X hW hl.1 md_X9_isPrincipal ms_X9_72 dX9_look_70 rfl rfl (Nat.le_of_ble_eq_true rfl) ⟨Nat.le_of_ble_eq_true rfl, Nat.le_of_ble_eq_true rfl⟩ ⟨Nat.le_of_ble_eq_true rfl, Nat.le_of_ble_eq_true rfl⟩ (c_X9_isPrincipal l Y N0 ad sh g i) (fun v9 ad9 sh9 g9 H locs hp hW => ?_)
      rcases hp with ⟨rfl, rfl, rfl, ⟨h_3, h9⟩ | ⟨h_3, h9⟩⟩
      · subst h9
        have h_3 : zi_in i 0 5 := h_3
        refine zr_if_eq (a := 1) (tgt := 85) X dX9_look_73 (by decide) (by decide) (fun c9 => absurd c9 (by decide)) (fun _ => ?_)
        refine lv_aload_n X.1 X.2.1 dX9_look_76 rfl (lv_at hl 0 rfl) ?_
        refine zr_get (r := 100) (v := .ref (ad 101)) X hW fs_X9_9_8 dX9_look_77 (zc_s100 hS) rfl rfl rfl ?_
        refine lv_iload_n X.1 X.2.1 dX9_look_80 rfl (lv_at hl 2 rfl) ?_
        refine zr_iald (r := 101) (v := u 1 (zn i)) X hW dX9_look_81 (zc_s101 hS) rfl rfl (zi_vp (by omega)) (hN0 _ _ _ _ (zc_l101 (zi_nl (by omega) (by decide)))) ?_
        refine lv_goto (tgt := 86) X.1 X.2.1 dX9_look_82 (by decide) ?_
        have e9 : sp_look w i u = (u 1 (zn i), u) := (by unfold sp_look; (repeat (first | refine (if_pos (by omega)).trans ?_ | refine (if_neg (by omega)).trans ?_)); first | rfl | (refine Prod.ext ?_ rfl; (repeat (first | refine (if_pos (by omega)).trans ?_ | refine (if_neg (by omega)).trans ?_)); first | rfl | exact zi_ext hkd | exact zi_ext (by omega)))
        exact zr_iret X hW dX9_look_86 (Nat.le_refl _) (Nat.le_refl _) ⟨by rw [e9], by rw [e9]; exact hR, zc_fr0⟩
      · subst h9
        have h_3 : ¬ (zi_in i 0 5) := h_3
        refine zr_if_eq (a := 0) (tgt := 85) X dX9_look_73 (by decide) (by decide) (fun _ => ?_) (fun c9 => absurd c9 (by decide))
        refine lv_iconst (v := (-1)) X.1 X.2.1 dX9_look_85 (by decide) ?_
        have e9 : sp_look w i u = ((-1), u) := (by unfold sp_look; (repeat (first | refine (if_pos (by omega)).trans ?_ | refine (if_neg (by omega)).trans ?_)); first | rfl | (refine Prod.ext ?_ rfl; (repeat (first | refine (if_pos (by omega)).trans ?_ | refine (if_neg (by omega)).trans ?_)); first | rfl | exact zi_ext hkd | exact zi_ext (by omega)))
        exact zr_iret X hW dX9_look_86 (Nat.le_refl _) (Nat.le_refl _) ⟨by rw [e9], by rw [e9]; exact hR, zc_fr0⟩
    · refine lv_tableIn (off := 86) (tgt := 87) X.1 X.2.1 dX9_look_1 (by omega) (by omega) (by rw [c_1]; rfl) (by decide) ?_
      refine lv_aload_n X.1 X.2.1 dX9_look_87 rfl (lv_at hl 0 rfl) ?_
      refine zr_get (r := 100) (v := .ref (ad 106)) X hW fs_X9_35_8 dX9_look_88 (zc_s100 hS) rfl rfl rfl ?_
      refine zr_get (r := 106) (v := .int (u 0 28)) X hW fs_X9_292_2 dX9_look_91 (zc_s106 hS) rfl rfl (congrArg Value.int (hN0 _ _ _ _ rfl)) ?_
      have e9 : sp_look w i u = (u 0 28, u) := (by unfold sp_look; (repeat (first | refine (if_pos (by omega)).trans ?_ | refine (if_neg (by omega)).trans ?_)); first | rfl | (refine Prod.ext ?_ rfl; (repeat (first | refine (if_pos (by omega)).trans ?_ | refine (if_neg (by omega)).trans ?_)); first | rfl | exact zi_ext hkd | exact zi_ext (by omega)))
      exact zr_iret X hW dX9_look_94 (Nat.le_refl _) (Nat.le_refl _) ⟨by rw [e9], by rw [e9]; exact hR, zc_fr0⟩
    · refine lv_tableIn (off := 94) (tgt := 95) X.1 X.2.1 dX9_look_1 (by omega) (by omega) (by rw [c_1]; rfl) (by decide) ?_
      refine lv_aload_n X.1 X.2.1 dX9_look_95 rfl (lv_at hl 0 rfl) ?_
      refine lv_iload_n X.1 X.2.1 dX9_look_96 rfl (lv_at hl 2 rfl) ?_
      refine zr_callV (As := [.int i]) (rest := []) X hW hl.1 md_X9_openNonce ms_X9_295 dX9_look_97 (zc_s100 hS) rfl rfl rfl rfl (Nat.le_of_ble_eq_true rfl) ⟨Nat.le_of_ble_eq_true rfl, Nat.le_of_ble_eq_true rfl⟩ ⟨Nat.le_of_ble_eq_true rfl, Nat.le_of_ble_eq_true rfl⟩ (c_X9_openNonce l Y N0 ad sh g u hS hN i) (fun v9 ad9 sh9 g9 H locs hp hW => ?_)
      obtain ⟨rfl, rfl, rfl, _, rfl, rfl⟩ := hp
      have e9 : sp_look w i u = (if zs_us i then u 20 (zn i) else -1, u) := (by unfold sp_look; (repeat (first | refine (if_pos (by omega)).trans ?_ | refine (if_neg (by omega)).trans ?_)); first | rfl | (refine Prod.ext ?_ rfl; (repeat (first | refine (if_pos (by omega)).trans ?_ | refine (if_neg (by omega)).trans ?_)); first | rfl | exact zi_ext hkd | exact zi_ext (by omega)))
      exact zr_iret X hW dX9_look_100 (Nat.le_refl _) (Nat.le_refl _) ⟨by rw [e9], by rw [e9]; exact hR, zc_fr0⟩
    · refine lv_tableIn (off := 100) (tgt := 101) X.1 X.2.1 dX9_look_1 (by omega) (by omega) (by rw [c_1]; rfl) (by decide) ?_
      refine lv_aload_n X.1 X.2.1 dX9_look_101 rfl (lv_at hl 0 rfl) ?_
      refine lv_iload_n X.1 X.2.1 dX9_look_102 rfl (lv_at hl 2 rfl) ?_
      refine lv_iconst (v := 0) X.1 X.2.1 dX9_look_103 (by decide) ?_
      refine zr_callV (As := [.int i, .int 0]) (rest := []) X hW hl.1 md_X9_heldTicket ms_X9_299 dX9_look_104 (zc_s100 hS) rfl rfl rfl rfl (Nat.le_of_ble_eq_true rfl) ⟨Nat.le_of_ble_eq_true rfl, Nat.le_of_ble_eq_true rfl⟩ ⟨Nat.le_of_ble_eq_true rfl, Nat.le_of_ble_eq_true rfl⟩ (c_X9_heldTicket_0 l Y N0 ad sh g u hS hN hT i) (fun v9 ad9 sh9 g9 H locs hp hW => ?_)
      obtain ⟨rfl, rfl, rfl, _, rfl, rfl⟩ := hp
      have e9 : sp_look w i u = (if zs_us i then u 23 (2 * zn i) else -1, u) := (by unfold sp_look; (repeat (first | refine (if_pos (by omega)).trans ?_ | refine (if_neg (by omega)).trans ?_)); first | rfl | (refine Prod.ext ?_ rfl; (repeat (first | refine (if_pos (by omega)).trans ?_ | refine (if_neg (by omega)).trans ?_)); first | rfl | exact zi_ext hkd | exact zi_ext (by omega)))
      exact zr_iret X hW dX9_look_107 (Nat.le_refl _) (Nat.le_refl _) ⟨by rw [e9], by rw [e9]; exact hR, zc_fr0⟩
    · refine lv_tableIn (off := 107) (tgt := 108) X.1 X.2.1 dX9_look_1 (by omega) (by omega) (by rw [c_1]; rfl) (by decide) ?_
      refine lv_aload_n X.1 X.2.1 dX9_look_108 rfl (lv_at hl 0 rfl) ?_
      refine lv_iload_n X.1 X.2.1 dX9_look_109 rfl (lv_at hl 2 rfl) ?_
      refine lv_iconst (v := 1) X.1 X.2.1 dX9_look_110 (by decide) ?_
      refine zr_callV (As := [.int i, .int 1]) (rest := []) X hW hl.1 md_X9_heldTicket ms_X9_299 dX9_look_111 (zc_s100 hS) rfl rfl rfl rfl (Nat.le_of_ble_eq_true rfl) ⟨Nat.le_of_ble_eq_true rfl, Nat.le_of_ble_eq_true rfl⟩ ⟨Nat.le_of_ble_eq_true rfl, Nat.le_of_ble_eq_true rfl⟩ (c_X9_heldTicket_1 l Y N0 ad sh g u hS hN hT i) (fun v9 ad9 sh9 g9 H locs hp hW => ?_)
      obtain ⟨rfl, rfl, rfl, _, rfl, rfl⟩ := hp
      have e9 : sp_look w i u = (if zs_us i then u 23 (2 * zn i + 1) else -1, u) := (by unfold sp_look; (repeat (first | refine (if_pos (by omega)).trans ?_ | refine (if_neg (by omega)).trans ?_)); first | rfl | (refine Prod.ext ?_ rfl; (repeat (first | refine (if_pos (by omega)).trans ?_ | refine (if_neg (by omega)).trans ?_)); first | rfl | exact zi_ext hkd | exact zi_ext (by omega)))
      exact zr_iret X hW dX9_look_114 (Nat.le_refl _) (Nat.le_refl _) ⟨by rw [e9], by rw [e9]; exact hR, zc_fr0⟩
    · refine lv_tableIn (off := 114) (tgt := 115) X.1 X.2.1 dX9_look_1 (by omega) (by omega) (by rw [c_1]; rfl) (by decide) ?_
      refine lv_aload_n X.1 X.2.1 dX9_look_115 rfl (lv_at hl 0 rfl) ?_
      refine zr_get (r := 100) (v := .int (u 0 8)) X hW fs_X9_45_8 dX9_look_116 (zc_s100 hS) rfl rfl (congrArg Value.int (hN0 _ _ _ _ rfl)) ?_
      have e9 : sp_look w i u = (u 0 8, u) := (by unfold sp_look; (repeat (first | refine (if_pos (by omega)).trans ?_ | refine (if_neg (by omega)).trans ?_)); first | rfl | (refine Prod.ext ?_ rfl; (repeat (first | refine (if_pos (by omega)).trans ?_ | refine (if_neg (by omega)).trans ?_)); first | rfl | exact zi_ext hkd | exact zi_ext (by omega)))
      exact zr_iret X hW dX9_look_119 (Nat.le_refl _) (Nat.le_refl _) ⟨by rw [e9], by rw [e9]; exact hR, zc_fr0⟩
    · refine lv_tableIn (off := 119) (tgt := 120) X.1 X.2.1 dX9_look_1 (by omega) (by omega) (by rw [c_1]; rfl) (by decide) ?_
      refine lv_aload_n X.1 X.2.1 dX9_look_120 rfl (lv_at hl 0 rfl) ?_
      refine zr_get (r := 100) (v := .int (u 0 2)) X hW fs_X9_53_8 dX9_look_121 (zc_s100 hS) rfl rfl (congrArg Value.int (hN0 _ _ _ _ rfl)) ?_
      have e9 : sp_look w i u = (u 0 2, u) := (by unfold sp_look; (repeat (first | refine (if_pos (by omega)).trans ?_ | refine (if_neg (by omega)).trans ?_)); first | rfl | (refine Prod.ext ?_ rfl; (repeat (first | refine (if_pos (by omega)).trans ?_ | refine (if_neg (by omega)).trans ?_)); first | rfl | exact zi_ext hkd | exact zi_ext (by omega)))
      exact zr_iret X hW dX9_look_124 (Nat.le_refl _) (Nat.le_refl _) ⟨by rw [e9], by rw [e9]; exact hR, zc_fr0⟩

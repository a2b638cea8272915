/-! what holds between calls is kept -/
theorem zi_1 : (1 : Int32).toInt = 1 := by decide
theorem zi_m1 : (-1 : Int32).toInt = -1 := by decide
theorem zi_and (x m : Int32) (hm : 0 ≤ m.toInt) : 0 ≤ (x &&& m).toInt ∧ (x &&& m).toInt ≤ m.toInt := by
  have e1 : ∀ y : Int32, y.toInt = y.toBitVec.toInt := fun _ => rfl
  have hn : (x &&& m).toBitVec.toNat ≤ m.toBitVec.toNat := by
    rw [show (x &&& m).toBitVec = x.toBitVec &&& m.toBitVec from rfl, BitVec.toNat_and]
    exact Nat.and_le_right
  rw [e1] at hm
  rw [e1, e1]
  have hm2 : m.toBitVec.toInt = (m.toBitVec.toNat : Int) := by
    rw [BitVec.toInt_eq_toNat_cond] at hm ⊢
    split at hm
    · rw [if_pos (by assumption)]
    · have := m.toBitVec.isLt; omega
  have hlt : 2 * m.toBitVec.toNat < 2 ^ 32 := by
    rw [BitVec.toInt_eq_toNat_cond] at hm2
    split at hm2
    · assumption
    · have := m.toBitVec.isLt; omega
  rw [hm2, BitVec.toInt_eq_toNat_cond, if_pos (by omega)]
  omega
theorem zi_mod3 (x : Int32) (h : 0 ≤ x.toInt ∧ x.toInt ≤ 3) : 0 ≤ (x - x / 3 * 3).toInt ∧ (x - x / 3 * 3).toInt ≤ 2 := by
  obtain e | e | e | e : x.toInt = 0 ∨ x.toInt = 1 ∨ x.toInt = 2 ∨ x.toInt = 3 := by omega
  · obtain rfl : x = 0 := zi_ext e
    decide
  · obtain rfl : x = 1 := zi_ext e
    decide
  · obtain rfl : x = 2 := zi_ext e
    decide
  · obtain rfl : x = 3 := zi_ext e
    decide
/-- nothing of the seals, the tickets held and the cache changes -/
theorem zI_chg {u u' : zm_T} (hI : zm_I u) (h0 : u' 0 0 = u 0 0) (h2 : (u 0 2).toInt ≤ (u' 0 2).toInt ∧ (u' 0 2).toInt ≤ 200) (hs : ∀ r i : Nat, ((9 ≤ r ∧ r ≤ 18) ∨ r = 23 ∨ r = 24 ∨ r = 29 ∨ (r = 0 ∧ (i = 8 ∨ i = 28))) → u' r i = u r i)
    (h5 : ∀ i : Nat, i < 12 → -1 ≤ (u' 5 i).toInt ∧ (u' 5 i).toInt < (u' 0 2).toInt) (h3 : ∀ i : Nat, i < 6 → -1 ≤ (u' 3 i).toInt ∧ (u' 3 i).toInt < (u' 0 2).toInt) (h21 : ∀ i : Nat, i < 6 → 0 ≤ (u' 21 i).toInt ∧ (u' 21 i).toInt ≤ 1) (h4 : ∀ i : Nat, i < 200 → (u' 4 i).toInt = 0 ∨ (u' 4 i).toInt = 1) : zm_I u' := by
  have hke := zI_ke hI
  refine ⟨by rw [h0]; exact hI.1, by omega, by rw [hs 0 8 (by omega)]; exact zI_se hI, by rw [hs 0 28 (by omega)]; exact zI_ca hI, h5, h3, fun i hi => ?_, h21, fun i hi => ?_, fun i hi => ?_, h4⟩
  · have q := zI_tk hI i hi
    rw [hs 0 8 (by omega), hs 23 i (by omega), hs 24 i (by omega)]
    exact ⟨q.1, q.2.1, fun h => by have := q.2.2 h; omega⟩
  · rw [hs 0 8 (by omega)] at hi
    have q := zI_sl hI i hi
    rw [hs 9 i (by omega), hs 10 i (by omega), hs 11 i (by omega), hs 12 i (by omega), hs 16 i (by omega), hs 17 i (by omega)]
    exact ⟨q.1, by have := q.2.1; omega, fun h => by have := q.2.2.1 h; omega, q.2.2.2.1, q.2.2.2.2⟩
  · rw [hs 0 28 (by omega)] at hi
    rw [hs 0 8 (by omega), hs 29 i (by omega), hs 9 _ (by omega)]
    exact zI_cq hI i hi
/-- a seal comes -/
theorem zI_mkn {u : zm_T} {v : Nat → Int32} (hI : zm_I u) (h8 : (u 0 8).toInt < 150) (hv : (1 ≤ (v 9).toInt ∧ (v 9).toInt ≤ 4) ∧ (0 ≤ (v 10).toInt ∧ (v 10).toInt < (u 0 2).toInt) ∧ ((v 9).toInt = 2 ∨ (v 9).toInt = 3 → 0 ≤ (v 12).toInt ∧ (v 12).toInt < (u 0 2).toInt) ∧ (¬ (v 9).toInt = 3 → 0 ≤ (v 11).toInt ∧ (v 11).toInt ≤ 5) ∧ ((v 9).toInt = 4 → (0 ≤ (v 16).toInt ∧ (v 16).toInt ≤ 3) ∧ (0 ≤ (v 17).toInt ∧ (v 17).toInt ≤ 2))) : zm_I (zs_mk u v) := by
  have hse := zI_se hI
  have e8 : (zs_mk u v 0 8).toInt = (u 0 8).toInt + 1 := by
    rw [zs_mk8, zi_add _ _ (by rw [zi_1]; omega), zi_1]
  have hz := zi_n (u 0 8)
  have ho : ∀ r i : Nat, ¬ (r = 0 ∧ i = 8) → ¬ (9 ≤ r ∧ r ≤ 18 ∧ i = zn (u 0 8)) → zs_mk u v r i = u r i := fun r i a b => by
    unfold zs_mk; rw [if_neg a, if_neg (by omega)]
  refine ⟨by rw [ho 0 0 (by omega) (by omega)]; exact hI.1, by rw [ho 0 2 (by omega) (by omega)]; exact zI_ke hI, by omega, by rw [ho 0 28 (by omega) (by omega)]; exact zI_ca hI, fun i hi => ?_, fun i hi => ?_, fun i hi => ?_, fun i hi => ?_, fun i hi => ?_, fun i hi => ?_, fun i hi => ?_⟩
  · rw [ho 0 2 (by omega) (by omega), ho 5 i (by omega) (by omega)]; exact zI_bk hI i hi
  · rw [ho 0 2 (by omega) (by omega), ho 3 i (by omega) (by omega)]; exact zI_ow hI i hi
  · have q := zI_tk hI i hi
    rw [ho 0 2 (by omega) (by omega), ho 23 i (by omega) (by omega), ho 24 i (by omega) (by omega)]
    exact ⟨q.1, by omega, q.2.2⟩
  · rw [ho 21 i (by omega) (by omega)]; exact zI_tg hI i hi
  · rw [ho 0 2 (by omega) (by omega)]
    by_cases e : i = zn (u 0 8)
    · subst e
      rw [zs_mkn u v (by omega), zs_mkn u v (by omega), zs_mkn u v (by omega), zs_mkn u v (by omega), zs_mkn u v (by omega), zs_mkn u v (by omega)]
      exact hv
    · rw [ho 9 i (by omega) (by omega), ho 10 i (by omega) (by omega), ho 11 i (by omega) (by omega), ho 12 i (by omega) (by omega), ho 16 i (by omega) (by omega), ho 17 i (by omega) (by omega)]
      exact zI_sl hI i (by omega)
  · rw [ho 0 28 (by omega) (by omega)] at hi
    have q := zI_cq hI i hi
    have hz2 := zi_n (u 29 i)
    rw [ho 29 i (by omega) (by omega), ho 9 _ (by omega) (by omega)]
    exact ⟨by omega, q.2⟩
  · rw [ho 4 i (by omega) (by omega)]; exact zI_st hI i hi
theorem zI_mkv {u : zm_T} {kd b c d e f g h i j : Int32} (hI : zm_I u) (h8 : (u 0 8).toInt < 150) (hk : 1 ≤ kd.toInt ∧ kd.toInt ≤ 4) (hb : 0 ≤ b.toInt ∧ b.toInt < (u 0 2).toInt) (hd : kd.toInt = 2 ∨ kd.toInt = 3 → 0 ≤ d.toInt ∧ d.toInt < (u 0 2).toInt) (hc : ¬ kd.toInt = 3 → 0 ≤ c.toInt ∧ c.toInt ≤ 5) (hh : kd.toInt = 4 → (0 ≤ h.toInt ∧ h.toInt ≤ 3) ∧ (0 ≤ i.toInt ∧ i.toInt ≤ 2)) : zm_I (zs_mk u (zs_v kd b c d e f g h i j)) := zI_mkn hI h8 ⟨hk, hb, hd, hc, hh⟩
theorem zs_mk02 (u : zm_T) (v : Nat → Int32) : zs_mk u v 0 2 = u 0 2 := by unfold zs_mk; rw [if_neg (by omega), if_neg (by omega)]
theorem zI_rq {u : zm_T} {a : Nat} {t key : Int32} (hI : zm_I u) (ht : zi_in t 0 1) : zm_I (zs_rq u a t key) := by
  have ho : ∀ r i : Nat, r ≠ 20 → r ≠ 21 → r ≠ 22 → (r ≠ 0 ∨ i ≠ 19) → zs_rq u a t key r i = u r i := fun r i p q s w => by
    unfold zs_rq
    rw [zm_wn _ _ (Or.inl s), zm_wn _ _ (Or.inl q), zm_wn _ _ (Or.inl p), zm_wn _ _ w]
  have hke := zI_ke hI
  have e2 : zs_rq u a t key 0 2 = u 0 2 := ho 0 2 (by decide) (by decide) (by decide) (by decide)
  refine zI_chg hI (ho 0 0 (by decide) (by decide) (by decide) (by decide)) (by rw [e2]; omega) (fun r i h => ho r i (by omega) (by omega) (by omega) (by omega)) (fun i hi => ?_) (fun i hi => ?_) (fun i hi => ?_) (fun i hi => ?_)
  · rw [e2, ho 5 i (by decide) (by decide) (by decide) (by omega)]; exact zI_bk hI i hi
  · rw [e2, ho 3 i (by decide) (by decide) (by decide) (by omega)]; exact zI_ow hI i hi
  · unfold zs_rq
    rw [zm_wn _ _ (Or.inl (by decide))]
    by_cases e : i = a
    · subst e; rw [zm_ws]; exact ht
    · rw [zm_wn _ _ (Or.inr e), zm_wn _ _ (Or.inl (by decide)), zm_wn _ _ (Or.inl (by decide))]; exact zI_tg hI i hi
  · rw [ho 4 i (by decide) (by decide) (by decide) (by omega)]; exact zI_st hI i hi
/-- one number changes that nothing is said of -/
theorem zI_w {u : zm_T} {r k : Nat} {x : Int32} (hI : zm_I u) (h : (r = 1 ∨ r = 6 ∨ r = 7 ∨ r = 25 ∨ r = 26) ∨ (r = 0 ∧ k = 27) ∨ (r = 0 ∧ k = 19) ∨ r = 20 ∨ r = 22) : zm_I (zm_w u r k x) := by
  have ho : ∀ r' i : Nat, (r' ≠ r ∨ i ≠ k) → zm_w u r k x r' i = u r' i := fun r' i h => zm_wn _ _ h
  have hke := zI_ke hI
  have e2 : zm_w u r k x 0 2 = u 0 2 := ho 0 2 (by omega)
  refine zI_chg hI (ho 0 0 (by omega)) (by rw [e2]; omega) (fun r' i h' => ho r' i (by omega)) (fun i hi => ?_) (fun i hi => ?_) (fun i hi => ?_) (fun i hi => ?_)
  · rw [e2, ho 5 i (by omega)]; exact zI_bk hI i hi
  · rw [e2, ho 3 i (by omega)]; exact zI_ow hI i hi
  · rw [ho 21 i (by omega)]; exact zI_tg hI i hi
  · rw [ho 4 i (by omega)]; exact zI_st hI i hi
theorem zI_w4 {u : zm_T} {k : Nat} (hI : zm_I u) : zm_I (zm_w u 4 k 1) := by
  have ho : ∀ r' i : Nat, (r' ≠ 4 ∨ i ≠ k) → zm_w u 4 k 1 r' i = u r' i := fun r' i h => zm_wn _ _ h
  have hke := zI_ke hI
  have e2 : zm_w u 4 k 1 0 2 = u 0 2 := ho 0 2 (by omega)
  refine zI_chg hI (ho 0 0 (by omega)) (by rw [e2]; omega) (fun r' i h' => ho r' i (by omega)) (fun i hi => ?_) (fun i hi => ?_) (fun i hi => ?_) (fun i hi => ?_)
  · rw [e2, ho 5 i (by omega)]; exact zI_bk hI i hi
  · rw [e2, ho 3 i (by omega)]; exact zI_ow hI i hi
  · rw [ho 21 i (by omega)]; exact zI_tg hI i hi
  · by_cases e : i = k
    · subst e; rw [zm_ws]; exact Or.inr zi_1
    · rw [ho 4 i (Or.inr e)]; exact zI_st hI i hi
/-- a key is made -/
theorem zI_key {u : zm_T} (hI : zm_I u) (h : (u 0 2).toInt < 200) : zm_I (zm_w u 0 2 (u 0 2 + 1)) := by
  have ho : ∀ r' i : Nat, (r' ≠ 0 ∨ i ≠ 2) → zm_w u 0 2 (u 0 2 + 1) r' i = u r' i := fun r' i h => zm_wn _ _ h
  have hke := zI_ke hI
  have e2 : (zm_w u 0 2 (u 0 2 + 1) 0 2).toInt = (u 0 2).toInt + 1 := by rw [zm_ws, zi_add _ _ (by rw [zi_1]; omega), zi_1]
  refine zI_chg hI (ho 0 0 (by omega)) (by omega) (fun r' i h' => ho r' i (by omega)) (fun i hi => ?_) (fun i hi => ?_) (fun i hi => ?_) (fun i hi => ?_)
  · have := zI_bk hI i hi; rw [ho 5 i (by omega)]; omega
  · have := zI_ow hI i hi; rw [ho 3 i (by omega)]; omega
  · rw [ho 21 i (by omega)]; exact zI_tg hI i hi
  · rw [ho 4 i (by omega)]; exact zI_st hI i hi
theorem zI_two {u : zm_T} {c t nc en la ak : Int32} (hI : zm_I u) (hk : (u 0 2).toInt < 200) (h8 : (u 0 8).toInt ≤ 148) (hc : 0 ≤ c.toInt ∧ c.toInt ≤ 5) (ht : 0 ≤ (u 5 (zn t)).toInt ∧ (u 5 (zn t)).toInt < (u 0 2).toInt) (ha : 0 ≤ ak.toInt ∧ ak.toInt < (u 0 2).toInt) : zm_I (zs_two u c t nc en la ak) := by
  unfold zs_two
  rw [← zs_mkw2]
  have hI1 := zI_key hI hk
  have hke := zI_ke hI
  have hse := zI_se hI
  have e2 : (zm_w u 0 2 (u 0 2 + 1) 0 2).toInt = (u 0 2).toInt + 1 := by rw [zm_ws, zi_add _ _ (by rw [zi_1]; omega), zi_1]
  have e8 : zm_w u 0 2 (u 0 2 + 1) 0 8 = u 0 8 := zm_wn _ _ (by omega)
  generalize zm_w u 0 2 (u 0 2 + 1) = u1 at hI1 e2 e8 ⊢
  have hI2 : zm_I (zs_mk u1 (zs_v 2 (u 5 (zn t)) c (u 0 2) (u 1 0) en la 0 0 0)) := zI_mkv hI1 (by rw [e8]; omega) (by decide) (by omega) (fun _ => by omega) (fun _ => hc) (fun q => absurd q (by decide))
  refine zI_mkv hI2 ?_ (by decide) ?_ (fun _ => ?_) (fun q => absurd rfl q) (fun q => absurd q (by decide))
  · rw [zs_mk8, e8, zi_add _ _ (by rw [zi_1]; omega), zi_1]; omega
  · rw [zs_mk02]; omega
  · rw [zs_mk02]; omega
theorem zI_enrol {u : zm_T} (a : Int32) (hI : zm_I u) : zm_I (sp_enrol a u).2 := by
  unfold sp_enrol
  by_cases h1 : zi_in a 0 5
  · rw [if_neg (fun q => q h1)]
    by_cases h2 : (u 0 2).toInt = 200
    · rw [if_pos h2]; exact hI
    · rw [if_neg h2]
      have hke := zI_ke hI
      have hn := zi_n a
      have hI1 : zm_I (if (u 5 (zn a)).toInt < 0 then zs_clr (zm_w u 6 (zn a) 20) (zn a) else u) := by
        by_cases h3 : (u 5 (zn a)).toInt < 0
        · rw [if_pos h3]
          have hIa : zm_I (zm_w u 6 (zn a) 20) := zI_w hI (by omega)
          generalize zm_w u 6 (zn a) 20 = w at hIa ⊢
          have ho : ∀ r i : Nat, r ≠ 7 → zs_clr w (zn a) r i = w r i := fun r i h => by unfold zs_clr; rw [if_neg (by omega)]
          have hkw := zI_ke hIa
          refine zI_chg hIa (ho 0 0 (by omega)) (by rw [ho 0 2 (by omega)]; omega) (fun r i h => ho r i (by omega)) (fun i hi => ?_) (fun i hi => ?_) (fun i hi => ?_) (fun i hi => ?_)
          · rw [ho 5 i (by omega), ho 0 2 (by omega)]; exact zI_bk hIa i hi
          · rw [ho 3 i (by omega), ho 0 2 (by omega)]; exact zI_ow hIa i hi
          · rw [ho 21 i (by omega)]; exact zI_tg hIa i hi
          · rw [ho 4 i (by omega)]; exact zI_st hIa i hi
        · rw [if_neg h3]; exact hI
      have e2 : (if (u 5 (zn a)).toInt < 0 then zs_clr (zm_w u 6 (zn a) 20) (zn a) else u) 0 2 = u 0 2 := by
        by_cases h3 : (u 5 (zn a)).toInt < 0
        · rw [if_pos h3]; rfl
        · rw [if_neg h3]
      generalize (if (u 5 (zn a)).toInt < 0 then zs_clr (zm_w u 6 (zn a) 20) (zn a) else u) = w at hI1 e2 ⊢
      show zm_I (zm_w (zm_w (zm_w w 5 (zn a) (u 0 2)) 3 (zn a) (u 0 2)) 0 2 (u 0 2 + 1))
      have hkw := zI_ke hI1
      have n2 : (zm_w (zm_w (zm_w w 5 (zn a) (u 0 2)) 3 (zn a) (u 0 2)) 0 2 (u 0 2 + 1) 0 2).toInt = (u 0 2).toInt + 1 := by rw [zm_ws, zi_add _ _ (by rw [zi_1]; omega), zi_1]
      have ho : ∀ r i : Nat, r ≠ 5 → r ≠ 3 → (r ≠ 0 ∨ i ≠ 2) → zm_w (zm_w (zm_w w 5 (zn a) (u 0 2)) 3 (zn a) (u 0 2)) 0 2 (u 0 2 + 1) r i = w r i := fun r i p q s => by rw [zm_wn _ _ s, zm_wn _ _ (Or.inl q), zm_wn _ _ (Or.inl p)]
      refine zI_chg hI1 (ho 0 0 (by omega) (by omega) (by omega)) (by rw [n2, e2]; omega) (fun r i h => ho r i (by omega) (by omega) (by omega)) (fun i hi => ?_) (fun i hi => ?_) (fun i hi => ?_) (fun i hi => ?_)
      · rw [n2, zm_wn _ _ (by omega), zm_wn _ _ (by omega)]
        by_cases e : i = zn a
        · subst e; rw [zm_ws]; omega
        · rw [zm_wn _ _ (Or.inr e)]; have := zI_bk hI1 i hi; rw [e2] at this; omega
      · rw [n2, zm_wn _ _ (by omega)]
        by_cases e : i = zn a
        · subst e; rw [zm_ws]; omega
        · rw [zm_wn _ _ (Or.inr e), zm_wn _ _ (by omega)]; have := zI_ow hI1 i hi; rw [e2] at this; omega
      · rw [ho 21 i (by omega) (by omega) (by omega)]; exact zI_tg hI1 i hi
      · rw [ho 4 i (by omega) (by omega) (by omega)]; exact zI_st hI1 i hi
  · rw [if_pos h1]; exact hI
theorem zI_remove {u : zm_T} (a : Int32) (hI : zm_I u) : zm_I (sp_remove a u).2 := by
  unfold sp_remove
  by_cases h1 : zs_bk u a
  · rw [if_pos h1]
    have hke := zI_ke hI
    have ho : ∀ r i : Nat, r ≠ 5 → zm_w u 5 (zn a) (-1) r i = u r i := fun r i p => zm_wn _ _ (Or.inl p)
    show zm_I (zm_w u 5 (zn a) (-1))
    refine zI_chg hI (ho 0 0 (by omega)) (by rw [ho 0 2 (by omega)]; omega) (fun r i h => ho r i (by omega)) (fun i hi => ?_) (fun i hi => ?_) (fun i hi => ?_) (fun i hi => ?_)
    · rw [ho 0 2 (by omega)]
      by_cases e : i = zn a
      · subst e; rw [zm_ws, zi_m1]; omega
      · rw [zm_wn _ _ (Or.inr e)]; exact zI_bk hI i hi
    · rw [ho 3 i (by omega), ho 0 2 (by omega)]; exact zI_ow hI i hi
    · rw [ho 21 i (by omega)]; exact zI_tg hI i hi
    · rw [ho 4 i (by omega)]; exact zI_st hI i hi
  · rw [if_neg h1]; exact hI
theorem zI_limit {u : zm_T} (a n : Int32) (hI : zm_I u) : zm_I (sp_limit a n u).2 := by
  unfold sp_limit
  split
  · exact zI_w hI (by omega)
  · exact hI
theorem zI_allow {u : zm_T} (a f r : Int32) (hI : zm_I u) : zm_I (sp_allow a f r u).2 := by
  unfold sp_allow
  split
  · exact zI_w hI (by omega)
  · exact hI
theorem zI_tick {u : zm_T} (a n : Int32) (hI : zm_I u) : zm_I (sp_tick a n u).2 := by
  unfold sp_tick
  split
  · exact zI_w hI (by omega)
  · exact hI
theorem zI_cp {u : zm_T} (f t : Nat) (hf : f ≤ 6) (hI : zm_I u) : zm_I (zs_cp u f t) := by
  have hke := zI_ke hI
  have ho : ∀ r i : Nat, r ≠ 5 → r ≠ 6 → r ≠ 7 → zs_cp u f t r i = u r i := fun r i a b c => by unfold zs_cp; rw [if_neg (by omega), if_neg (by omega), if_neg (by omega)]
  refine zI_chg hI (ho 0 0 (by omega) (by omega) (by omega)) (by rw [ho 0 2 (by omega) (by omega) (by omega)]; omega) (fun r i h => ho r i (by omega) (by omega) (by omega)) (fun i hi => ?_) (fun i hi => ?_) (fun i hi => ?_) (fun i hi => ?_)
  · rw [ho 0 2 (by omega) (by omega) (by omega)]
    unfold zs_cp
    by_cases h : 5 = 5 ∧ t ≤ i ∧ i < t + 6
    · rw [if_pos h]; exact zI_bk hI _ (by omega)
    · rw [if_neg h, if_neg (by omega), if_neg (by omega)]; exact zI_bk hI i hi
  · rw [ho 3 i (by omega) (by omega) (by omega), ho 0 2 (by omega) (by omega) (by omega)]; exact zI_ow hI i hi
  · rw [ho 21 i (by omega) (by omega) (by omega)]; exact zI_tg hI i hi
  · rw [ho 4 i (by omega) (by omega) (by omega)]; exact zI_st hI i hi
theorem zI_save {u : zm_T} (hI : zm_I u) : zm_I (sp_save u).2 := zI_cp 0 6 (by omega) hI
theorem zI_crash {u : zm_T} (hI : zm_I u) : zm_I (sp_crash u).2 := zI_cp 6 0 (by omega) hI
theorem zI_login {u : zm_T} (a t : Int32) (hI : zm_I u) : zm_I (sp_login a t u).2 := by
  unfold sp_login
  by_cases h1 : zs_us a ∧ 0 ≤ (u 3 (zn a)).toInt ∧ zi_in t 0 1
  · rw [if_neg (fun q => q h1)]
    by_cases h2 : 150 ≤ (u 0 8).toInt
    · rw [if_pos h2]; exact hI
    · rw [if_neg h2]
      have hn := zi_n a
      have ow := zI_ow hI (zn a) (by omega)
      exact zI_mkv (zI_rq hI h1.2.2) (by show (u 0 8).toInt < 150; omega) (by decide) (by show 0 ≤ (u 3 (zn a)).toInt ∧ (u 3 (zn a)).toInt < (u 0 2).toInt; omega) (fun q => absurd q (by decide)) (fun _ => by show 0 ≤ a.toInt ∧ a.toInt ≤ 5; omega) (fun q => absurd q (by decide))
  · rw [if_pos h1]; exact hI
theorem zI_ask {u : zm_T} (a t : Int32) (hI : zm_I u) : zm_I (sp_ask a t u).2 := by
  unfold sp_ask
  by_cases h1 : zs_us a ∧ 0 ≤ (u 23 (2 * zn a)).toInt ∧ zi_in t 0 1
  · rw [if_neg (fun q => q h1)]
    by_cases h2 : 150 ≤ (u 0 8).toInt
    · rw [if_pos h2]; exact hI
    · rw [if_neg h2]
      have hn := zi_n a
      have tk := (zI_tk hI (2 * zn a) (by omega)).2.2 h1.2.1
      exact zI_mkv (zI_w (zI_rq hI h1.2.2) (by omega)) (by show (u 0 8).toInt < 150; omega) (by decide) (by show 0 ≤ (u 24 (2 * zn a)).toInt ∧ (u 24 (2 * zn a)).toInt < (u 0 2).toInt; omega) (fun q => absurd q (by decide)) (fun _ => by show 0 ≤ a.toInt ∧ a.toInt ≤ 5; omega) (fun _ => by decide)
  · rw [if_pos h1]; exact hI
theorem zI_order {u : zm_T} (a o f x : Int32) (hI : zm_I u) : zm_I (sp_order a o f x u).2 := by
  unfold sp_order
  by_cases h1 : zs_us a ∧ 0 ≤ (u 23 (2 * zn a + 1)).toInt ∧ zi_in o 1 3 ∧ zi_in f 0 2
  · rw [if_neg (fun q => q h1)]
    by_cases h2 : 150 ≤ (u 0 8).toInt
    · rw [if_pos h2]; exact hI
    · rw [if_neg h2]
      have hn := zi_n a
      have tk := (zI_tk hI (2 * zn a + 1) (by omega)).2.2 h1.2.1
      exact zI_mkv (zI_w hI (by omega)) (by show (u 0 8).toInt < 150; omega) (by decide) (by show 0 ≤ (u 24 (2 * zn a + 1)).toInt ∧ (u 24 (2 * zn a + 1)).toInt < (u 0 2).toInt; omega) (fun q => absurd q (by decide)) (fun _ => by show 0 ≤ a.toInt ∧ a.toInt ≤ 5; omega) (fun _ => by show (0 ≤ o.toInt ∧ o.toInt ≤ 3) ∧ (0 ≤ f.toInt ∧ f.toInt ≤ 2); omega)
  · rw [if_pos h1]; exact hI
theorem zI_receive {u : zm_T} (a q t : Int32) (hI : zm_I u) : zm_I (sp_receive a q t u).2 := by
  unfold sp_receive
  split
  · rename_i h1
    obtain ⟨h1, h2, h3, h4, h5, h6⟩ := h1
    have hn := zi_n a
    have hq := zi_n q
    have sl := zI_sl hI (zn q) (by omega)
    have k12 := sl.2.2.1 (by omega)
    refine zI_w ?_ (by omega)
    generalize 2 * zn a + zn (u 21 (zn a)) = n
    have hke := zI_ke hI
    have ho : ∀ r i : Nat, r ≠ 23 → r ≠ 24 → zm_w (zm_w u 23 n t) 24 n (u 12 (zn q)) r i = u r i := fun r i a b => by rw [zm_wn _ _ (Or.inl b), zm_wn _ _ (Or.inl a)]
    refine ⟨by rw [ho 0 0 (by omega) (by omega)]; exact hI.1, by rw [ho 0 2 (by omega) (by omega)]; exact hke, by rw [ho 0 8 (by omega) (by omega)]; exact zI_se hI, by rw [ho 0 28 (by omega) (by omega)]; exact zI_ca hI, fun i hi => ?_, fun i hi => ?_, fun i hi => ?_, fun i hi => ?_, fun i hi => ?_, fun i hi => ?_, fun i hi => ?_⟩
    · rw [ho 0 2 (by omega) (by omega), ho 5 i (by omega) (by omega)]; exact zI_bk hI i hi
    · rw [ho 0 2 (by omega) (by omega), ho 3 i (by omega) (by omega)]; exact zI_ow hI i hi
    · rw [ho 0 2 (by omega) (by omega), ho 0 8 (by omega) (by omega)]
      by_cases e : i = n
      · subst e
        rw [zm_wn _ _ (Or.inl (by decide)), zm_ws, zm_ws]
        omega
      · rw [zm_wn _ _ (Or.inl (by decide)), zm_wn _ _ (Or.inr e), zm_wn _ _ (Or.inr e), zm_wn _ _ (Or.inl (by decide))]
        exact zI_tk hI i hi
    · rw [ho 21 i (by omega) (by omega)]; exact zI_tg hI i hi
    · rw [ho 0 8 (by omega) (by omega)] at hi
      rw [ho 0 2 (by omega) (by omega), ho 9 i (by omega) (by omega), ho 10 i (by omega) (by omega), ho 11 i (by omega) (by omega), ho 12 i (by omega) (by omega), ho 16 i (by omega) (by omega), ho 17 i (by omega) (by omega)]
      exact zI_sl hI i hi
    · rw [ho 0 28 (by omega) (by omega)] at hi
      rw [ho 0 8 (by omega) (by omega), ho 29 i (by omega) (by omega), ho 9 _ (by omega) (by omega)]
      exact zI_cq hI i hi
    · rw [ho 4 i (by omega) (by omega)]; exact zI_st hI i hi
  · exact hI
theorem zI_issue {u : zm_T} (c t nc q life : Int32) (hI : zm_I u) : zm_I (sp_issue c t nc q life u).2 := by
  unfold sp_issue
  split
  · exact hI
  · split
    · exact hI
    · split
      · exact hI
      · split
        · exact hI
        · split
          · exact hI
          · rename_i h1 h2 h3 h4 h5
            have hn := zi_n c
            have hn2 := zi_n t
            have b1 := zI_bk hI (zn c) (by omega)
            have b2 := zI_bk hI (zn t) (by omega)
            exact zI_two hI (by omega) (by omega) (by omega) (by omega) (by omega)
theorem zI_grant {u : zm_T} (k cl t nc life : Int32) (hI : zm_I u) : zm_I (sp_grant k cl t nc life u).2 := by
  unfold sp_grant
  split
  · exact hI
  · split
    · exact hI
    · split
      · exact hI
      · split
        · exact hI
        · split
          · exact hI
          · split
            · exact hI
            · rename_i h1 h2 h3 h4 h5 h6
              have hn := zi_n k
              have hn2 := zi_n t
              have b2 := zI_bk hI (zn t) (by omega)
              have sl := zI_sl hI (zn k) (by omega)
              have k12 := sl.2.2.1 (by omega)
              exact zI_two hI (by omega) (by omega) (by omega) (by omega) (by omega)
theorem zI_serve {u : zm_T} (k cl : Int32) (hI0 : zm_I u) : zm_I (sp_serve k cl u).2 := by
  unfold sp_serve
  have hI := zI_fo hI0
  generalize zs_fo u = u at hI ⊢
  unfold sp_serve1
  split
  · exact hI
  · split
    · exact hI
    · split
      · exact hI
      · split
        · exact hI
        · split
          · exact hI
          · split
            · exact hI
            · split
              · exact hI
              · rename_i h1 h2 h3 h4 h5 h6 h7
                refine zI_w (zI_w ?_ (by omega)) (by omega)
                have hca := zI_ca hI
                have hcl := zi_n cl
                have hz := zi_n (u 0 28)
                have e28 : (zm_w (zm_w u 29 (zn (u 0 28)) cl) 0 28 (u 0 28 + 1) 0 28).toInt = (u 0 28).toInt + 1 := by rw [zm_ws, zi_add _ _ (by rw [zi_1]; omega), zi_1]
                have ho : ∀ r i : Nat, r ≠ 29 → (r ≠ 0 ∨ i ≠ 28) → zm_w (zm_w u 29 (zn (u 0 28)) cl) 0 28 (u 0 28 + 1) r i = u r i := fun r i a b => by rw [zm_wn _ _ b, zm_wn _ _ (Or.inl a)]
                refine ⟨by rw [ho 0 0 (by omega) (by omega)]; exact hI.1, by rw [ho 0 2 (by omega) (by omega)]; exact zI_ke hI, by rw [ho 0 8 (by omega) (by omega)]; exact zI_se hI, by omega, fun i hi => ?_, fun i hi => ?_, fun i hi => ?_, fun i hi => ?_, fun i hi => ?_, fun i hi => ?_, fun i hi => ?_⟩
                · rw [ho 0 2 (by omega) (by omega), ho 5 i (by omega) (by omega)]; exact zI_bk hI i hi
                · rw [ho 0 2 (by omega) (by omega), ho 3 i (by omega) (by omega)]; exact zI_ow hI i hi
                · rw [ho 0 2 (by omega) (by omega), ho 0 8 (by omega) (by omega), ho 23 i (by omega) (by omega), ho 24 i (by omega) (by omega)]; exact zI_tk hI i hi
                · rw [ho 21 i (by omega) (by omega)]; exact zI_tg hI i hi
                · rw [ho 0 8 (by omega) (by omega)] at hi
                  rw [ho 0 2 (by omega) (by omega), ho 9 i (by omega) (by omega), ho 10 i (by omega) (by omega), ho 11 i (by omega) (by omega), ho 12 i (by omega) (by omega), ho 16 i (by omega) (by omega), ho 17 i (by omega) (by omega)]
                  exact zI_sl hI i hi
                · rw [e28] at hi
                  rw [ho 0 8 (by omega) (by omega), ho 9 _ (by omega) (by omega), zm_wn _ _ (Or.inl (by decide))]
                  by_cases e : i = zn (u 0 28)
                  · subst e; rw [zm_ws]; omega
                  · rw [zm_wn _ _ (Or.inr e)]
                    exact zI_cq hI i (by omega)
                · rw [ho 4 i (by omega) (by omega)]; exact zI_st hI i hi
theorem zI_steal {u : zm_T} (a : Int32) (hI : zm_I u) : zm_I (sp_steal a u).2 := by
  unfold sp_steal
  split
  · exact zI_w4 hI
  · exact hI
theorem zI_learn {u : zm_T} (s : Int32) (hI : zm_I u) : zm_I (sp_learn s u).2 := by
  unfold sp_learn
  split
  · exact hI
  · split
    · exact hI
    · split
      · exact hI
      · exact zI_w4 hI
theorem zI_forge {u : zm_T} (key k c a b : Int32) (hI : zm_I u) : zm_I (sp_forge key k c a b u).2 := by
  unfold sp_forge
  split
  · exact hI
  · split
    · exact hI
    · split
      · exact hI
      · rename_i h1 h2 h3
        have hst : zs_st u key := by
          by_cases q : zs_st u key
          · exact q
          · exact absurd (fun w => q w.1) h2
        have hsa : (k.toInt = 2 ∨ k.toInt = 3) → zs_st u a := fun w => by
          by_cases q : (zs_st u key ∧ ((k.toInt = 2 ∨ k.toInt = 3) → zs_st u a))
          · exact q.2 w
          · exact absurd q h2
        show zm_I (zs_mk u _)
        by_cases k1 : k.toInt = 1
        · rw [if_pos k1]
          exact zI_mkv hI (by omega) (by decide) ⟨hst.1, hst.2.1⟩ (fun q => absurd q (by decide)) (fun _ => by show 0 ≤ c.toInt ∧ c.toInt ≤ 5; omega) (fun q => absurd q (by decide))
        · rw [if_neg k1]
          by_cases k2 : k.toInt = 2
          · rw [if_pos k2]
            have w := hsa (Or.inl k2)
            exact zI_mkv hI (by omega) (by decide) ⟨hst.1, hst.2.1⟩ (fun _ => ⟨w.1, w.2.1⟩) (fun _ => by show 0 ≤ c.toInt ∧ c.toInt ≤ 5; omega) (fun q => absurd q (by decide))
          · rw [if_neg k2]
            by_cases k3 : k.toInt = 3
            · rw [if_pos k3]
              have w := hsa (Or.inr k3)
              exact zI_mkv hI (by omega) (by decide) ⟨hst.1, hst.2.1⟩ (fun _ => ⟨w.1, w.2.1⟩) (fun q => absurd rfl q) (fun q => absurd q (by decide))
            · rw [if_neg k3]
              exact zI_mkv hI (by omega) (by decide) ⟨hst.1, hst.2.1⟩ (fun q => absurd q (by decide)) (fun _ => by show 0 ≤ c.toInt ∧ c.toInt ≤ 5; omega) (fun _ => ⟨zi_and a 3 (by decide), zi_mod3 _ (zi_and _ 3 (by decide))⟩)

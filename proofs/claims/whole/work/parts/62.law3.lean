theorem zt_AA.of {args : Array Value} {s : State} (h : (Cond.arrayOver (.array .int)).before args s = true) : zt_AA s := by
  simp only [Cond.before, Cond.holds, Cond.value, beq_iff_eq] at h
  cases hc : s.vm.findClass (FieldType.array .int).toString with
  | none => rw [hc] at h; simp at h
  | some b =>
    rw [hc] at h
    simp only [Option.bind_some, Option.bind_eq_some_iff, Option.map_eq_some_iff] at h
    obtain ⟨c, hi, k, hk, hb⟩ := h
    obtain ⟨hlt, hp, -⟩ := Array.findIdx?_eq_some_iff_getElem.mp hi
    have hkk : s.vm.classes[c] = k := (Array.getElem?_eq_some_iff.mp hk).2
    rw [hkk] at hp
    cases hkind : k.kind with
    | array b2 ty =>
      rw [hkind] at hb hp
      simp at hb hp
      exact ⟨b, c, k, hc, hk, by rw [hkind, hp, hb.1], hb.2⟩
    | _ => rw [hkind] at hb; simp at hb

/-- what the tables say of the classes at the law's start -/
theorem lw_K {s : State} {args : Array Value} (hts : ∀ w ∈ lw_tbl, w.before args s = true) (hgv : (Jvm.Cond.and given_1 narrow_1).before args s = true) : ∃ Y : zw_Y, zw_K Y s := by
  have hg : ∀ w ∈ zt_good, w.before args s = true := fun w hw => hts w (List.mem_filter.mp hw).1
  have hn := flat_of_before _ hgv
  obtain ⟨c0, i0, k0⟩ := u_known (C := RX0) (T := TX0) (N := 3) (n := 3) hg cs_X0.2.1 (hg _ ns_X9_16.2.1)
  obtain ⟨c1, i1, k1⟩ := u_known (C := RX1) (T := TX1) (N := 5) (n := 5) hg cs_X1.2.1 (hg _ ns_X9_140.2.1)
  obtain ⟨c2, i2, k2⟩ := u_known (C := RX2) (T := TX2) (N := 4) (n := 4) hg cs_X2.2.1 (hg _ ns_X9_32.2.1)
  obtain ⟨c3, i3, k3⟩ := u_known (C := RX3) (T := TX3) (N := 3) (n := 3) hg cs_X3.2.1 (hg _ ns_X9_145.2.1)
  obtain ⟨c4, i4, k4⟩ := u_known (C := RX4) (T := TX4) (N := 5) (n := 5) hg cs_X4.2.1 (hg _ ns_X9_167.2.1)
  obtain ⟨c5, i5, k5⟩ := u_known (C := RX5) (T := TX5) (N := 3) (n := 3) hg cs_X5.2.1 (hg _ ns_X9_126.2.1)
  obtain ⟨c6, i6, k6⟩ := u_known (C := RX7) (T := TX7) (N := 6) (n := 6) hg cs_X7.2.1 (hg _ ns_X9_221.2.1)
  obtain ⟨c7, i7, k7⟩ := u_known (C := RX8) (T := TX8) (N := 6) (n := 6) hg cs_X8.2.1 (hg _ ns_X9_26.2.1)
  obtain ⟨c8, i8, k8⟩ := u_known (C := RX9) (T := TX9) (N := 12) (n := 12) hg cs_X9.2.1 (hg _ ns_L_7.2.1)
  obtain ⟨c9, i9, k9⟩ := u_known (C := RX10) (T := TX10) (N := 30) (n := 30) hg cs_X10.2.1 (hg _ ns_L_18.2.1)
  have hAA : zt_AA s := zt_AA.of (hts _ (zt_t1 28 rfl))
  obtain ⟨a0, q0, b0, e01, e02, e03⟩ := Cond.arrayClass_spec (hts _ (zt_t1 42 rfl))
  obtain ⟨a1, q1, b1, e11, e12, e13⟩ := Cond.arrayClass_spec (hts _ (zt_t1 106 rfl))
  obtain ⟨b2, a2, q2, e21, e22, e23, e24, e25⟩ := Cond.arrayOver_spec (hts _ (zt_t1 52 rfl))
  obtain ⟨b3, a3, q3, e31, e32, e33, e34, e35⟩ := Cond.arrayOver_spec (hts _ (zt_t1 70 rfl))
  obtain ⟨b4, a4, q4, e41, e42, e43, e44, e45⟩ := Cond.arrayOver_spec (hts _ (zt_t1 44 rfl))
  obtain ⟨b5, a5, q5, e51, e52, e53, e54⟩ := id hAA
  refine ⟨((fun k => match k with | 0 => c0 | 1 => c1 | 2 => c2 | 3 => c3 | 4 => c4 | 5 => c5 | 6 => c6 | 7 => c7 | 8 => c8 | _ => c9, fun k => match k with | 0 => i0 | 1 => i1 | 2 => i2 | 3 => i3 | 4 => i4 | 5 => i5 | 6 => i6 | 7 => i7 | 8 => i8 | _ => i9), fun k => match k with | 0 => a0 | 1 => a1 | 2 => a2 | 3 => a3 | 4 => a4 | _ => a5), ⟨fun k q hq => ?_, fun k q hq => ?_⟩, ⟨List.forall_mem_cons.mpr ⟨va_Nw.of rfl (hts _ (zt_t4 89 rfl)), List.forall_mem_cons.mpr ⟨va_Nw.of rfl (hts _ (zt_t4 90 rfl)), List.forall_mem_cons.mpr ⟨va_Nw.of rfl (hts _ (zt_t4 91 rfl)), List.forall_mem_cons.mpr ⟨va_Nw.of rfl (hts _ (zt_t4 92 rfl)), List.forall_mem_cons.mpr ⟨va_Nw.of rfl (hts _ (zt_t4 93 rfl)), List.forall_mem_cons.mpr ⟨va_Nw.of rfl (hts _ (zt_t4 94 rfl)), List.forall_mem_cons.mpr ⟨va_Nw.of rfl (hts _ (zt_t4 95 rfl)), List.forall_mem_cons.mpr ⟨va_Nw.of rfl (hts _ (zt_t4 96 rfl)), fun _ h => absurd h List.not_mem_nil⟩⟩⟩⟩⟩⟩⟩⟩, List.forall_mem_cons.mpr ⟨va_Nw.of rfl (hts _ (zt_t1 47 rfl)), List.forall_mem_cons.mpr ⟨va_Nw.of rfl (hts _ (zt_t1 167 rfl)), fun _ h => absurd h List.not_mem_nil⟩⟩, va_Nw.of rfl (hts _ (zt_t3 32 rfl)), List.forall_mem_cons.mpr ⟨va_Nc.of (hn (.not (.castable "TicketRealm$Proof" "TicketRealm$Part")) (by decide +kernel)), List.forall_mem_cons.mpr ⟨va_Nc.of (hn (.not (.castable "TicketRealm$Claim" "TicketRealm$Part")) (by decide +kernel)), List.forall_mem_cons.mpr ⟨va_Nc.of (hn (.not (.castable "TicketRealm$Ticket" "TicketRealm$Part")) (by decide +kernel)), List.forall_mem_cons.mpr ⟨va_Nc.of (hn (.not (.castable "TicketRealm$Claim" "TicketRealm$Proof")) (by decide +kernel)), List.forall_mem_cons.mpr ⟨va_Nc.of (hn (.not (.castable "TicketRealm$Ticket" "TicketRealm$Proof")) (by decide +kernel)), List.forall_mem_cons.mpr ⟨va_Nc.of (hn (.not (.castable "TicketRealm$Part" "TicketRealm$Proof")) (by decide +kernel)), List.forall_mem_cons.mpr ⟨va_Nc.of (hn (.not (.castable "TicketRealm$Proof" "TicketRealm$Ticket")) (by decide +kernel)), List.forall_mem_cons.mpr ⟨va_Nc.of (hn (.not (.castable "TicketRealm$Claim" "TicketRealm$Ticket")) (by decide +kernel)), List.forall_mem_cons.mpr ⟨va_Nc.of (hn (.not (.castable "TicketRealm$Part" "TicketRealm$Ticket")) (by decide +kernel)), List.forall_mem_cons.mpr ⟨va_Nc.of (hn (.not (.castable "TicketRealm$Proof" "TicketRealm$Claim")) (by decide +kernel)), List.forall_mem_cons.mpr ⟨va_Nc.of (hn (.not (.castable "TicketRealm$Ticket" "TicketRealm$Claim")) (by decide +kernel)), List.forall_mem_cons.mpr ⟨va_Nc.of (hn (.not (.castable "TicketRealm$Part" "TicketRealm$Claim")) (by decide +kernel)), fun _ h => absurd h List.not_mem_nil⟩⟩⟩⟩⟩⟩⟩⟩⟩⟩⟩⟩, List.forall_mem_cons.mpr ⟨va_AO.of (hts _ (zt_t1 44 rfl)), List.forall_mem_cons.mpr ⟨va_AO.of (hts _ (zt_t1 52 rfl)), List.forall_mem_cons.mpr ⟨va_AO.of (hts _ (zt_t1 70 rfl)), fun _ h => absurd h List.not_mem_nil⟩⟩⟩, hAA⟩⟩
  · match k, hq with
    | 0, hq => cases hq; exact k0
    | 1, hq => cases hq; exact k1
    | 2, hq => cases hq; exact k2
    | 3, hq => cases hq; exact k3
    | 4, hq => cases hq; exact k4
    | 5, hq => cases hq; exact k5
    | 6, hq => cases hq; exact k6
    | 7, hq => cases hq; exact k7
    | 8, hq => cases hq; exact k8
    | 9, hq => cases hq; exact k9
    | k + 10, hq => simp [zw_cls] at hq
  · match k, hq with
    | 0, hq => cases hq; exact ⟨fun n z => ⟨fun k h => (by cases h), q0, e02, b0, e03⟩, e01⟩
    | 1, hq => cases hq; exact ⟨fun n z => ⟨fun k h => (by cases h), q1, e12, b1, e13⟩, e11⟩
    | 2, hq => cases hq; exact ⟨fun n z => ⟨fun k h => (by cases h), q2, e23, b2, e24⟩, q2, b2, e23, e24, e21, e25⟩
    | 3, hq => cases hq; exact ⟨fun n z => ⟨fun k h => (by cases h), q3, e33, b3, e34⟩, q3, b3, e33, e34, e31, e35⟩
    | 4, hq => cases hq; exact ⟨fun n z => ⟨fun k h => (by cases h), q4, e43, b4, e44⟩, q4, b4, e43, e44, e41, e45⟩
    | 5, hq => cases hq; exact ⟨fun n z => ⟨fun k h => (by cases h), q5, e52, b5, e53⟩, e54⟩
    | k + 6, hq => simp [zw_tys] at hq

set_option maxHeartbeats 4000000 in
set_option maxRecDepth 100000 in
/-- the law's loop -/
theorem lw_loop {p : Program} {e : Env} {s : State} {m : MethodId} {below : List Frame} {meth : Method} {c : Code} (l : Launch) (Y : zw_Y) {b L : Nat} {xs : Nat → Int32} (hL : L ≤ 3073) (hbl : b < s.heap.size) (hX : va_X b L xs s s.heap) (X : zw_X p m meth c cL_law 4 (some .boolean) s #[Value.ref b] RL Y) (ax am : Nat) :
    ∀ (n j : Nat) (ad : Nat → Nat) (sh : Nat → Option zw_Sh) (g u : zm_T) (H : Heap) (locs : List Loc) (cells slots : Nat) (ls : Array Slot), j ≤ 3079 → L ≤ j + 6 * n → lw_I Y s ax am ad sh g u H locs → cells + 2 * n ≤ 600000 → slots + 11 * n ≤ 7302250 → lv_has ls 4 [(3, .int (nI j)), (2, .ref am), (1, .ref ax), (0, .ref b)] → W p l e room_1 s m #[Value.ref b] below meth c H locs cells slots (lw_Z below #[Value.ref b] s) (F0 m 28 ls []) := by
  have hbA : ¬ (fun q : Nat => s.heap.size ≤ q) b := Nat.not_le.mpr hbl
  have hLI : (Int32.ofNat L).toInt = (L : Int) := nI_toInt (n := L) (by omega)
  have hy : (Int32.ofNat L - 6).toInt = (L : Int) - 6 := by
    rw [zi_sub _ _ (by rw [hLI, show (6 : Int32).toInt = 6 from rfl]; omega), hLI]; rfl
  intro n
  induction n with
  | zero =>
    intro j ad sh g u H locs cells slots ls hj hn h9 hc hs hl
    refine lv_iload_n X.1 X.2.1 dL_law_28 rfl (lv_at hl 0 rfl) ?_
    refine lv_aload_n X.1 X.2.1 dL_law_29 rfl (lv_at hl 3 rfl) ?_
    refine va_slen X.1 X.2.1 hX hbl hbA h9.1.2.1 dL_law_30 ?_
    refine lv_bipush (v := 6) X.1 X.2.1 dL_law_31 (by decide) ?_
    refine lv_isub X.1 X.2.1 dL_law_33 ?_
    refine zr_icmp_gt (a := (j : Int)) (b := (L : Int) - 6) (tgt := 832) X dL_law_34 (by decide) (nI_toInt (by omega)) hy (fun c1 => ?_) (fun c1 => absurd (by omega) c1)
    refine lv_iconst (v := 1) X.1 X.2.1 dL_law_832 (by decide) ?_
    refine va_forget h9.1.2.1.2.2 ?_
    refine W.widen (k := 600000) (n := 7302250) (by omega) (by omega) ?_
    exact lw_ret X.1 X.2.1 X.2.2.2.2.2.2.1 X.2.2.2.2.2.2.2 dL_law_833
  | succ n ih =>
    intro j ad sh g u H locs cells slots ls hj hn h9 hc hs hl
    have hk : ∀ (ad' : Nat → Nat) (sh' : Nat → Option zw_Sh) (g' u' : zm_T) (H' : Heap) (locs' : List Loc), lw_I Y s ax am ad' sh' g' u' H' locs' → j + 6 ≤ L → W p l e room_1 s m #[Value.ref b] below meth c H' locs' (cells + 2) (slots + 11) (lw_Z below #[Value.ref b] s) (F0 m 826 ls []) := by
      intro ad' sh' g' u' H' locs' h9' hj6
      refine lv_iinc (v := nI (j + 6)) (lv' := [(3, .int (nI (j + 6))), (2, .ref am), (1, .ref ax), (0, .ref b)]) X.1 X.2.1 dL_law_826 hl (k := 0) rfl (nI_add j 6) (by decide) rfl (fun ls hl => ?_)
      refine lv_goto (tgt := 28) X.1 X.2.1 dL_law_829 (by decide) ?_
      exact ih (j + 6) ad' sh' g' u' H' locs' (cells + 2) (slots + 11) ls (by omega) (by omega) h9' (by omega) (by omega) hl
    refine lv_iload_n X.1 X.2.1 dL_law_28 rfl (lv_at hl 0 rfl) ?_
    refine lv_aload_n X.1 X.2.1 dL_law_29 rfl (lv_at hl 3 rfl) ?_
    refine va_slen X.1 X.2.1 hX hbl hbA h9.1.2.1 dL_law_30 ?_
    refine lv_bipush (v := 6) X.1 X.2.1 dL_law_31 (by decide) ?_
    refine lv_isub X.1 X.2.1 dL_law_33 ?_
    refine zr_icmp_gt (a := (j : Int)) (b := (L : Int) - 6) (tgt := 832) X dL_law_34 (by decide) (nI_toInt (by omega)) hy (fun c1 => ?_) (fun c1 => ?_)
    · refine lv_iconst (v := 1) X.1 X.2.1 dL_law_832 (by decide) ?_
      refine va_forget h9.1.2.1.2.2 ?_
      refine W.widen (k := 600000) (n := 7302250) (by omega) (by omega) ?_
      exact lw_ret X.1 X.2.1 X.2.2.2.2.2.2.1 X.2.2.2.2.2.2.2 dL_law_833
    · have hk := fun ad' sh' g' u' H' locs' h9' => hk ad' sh' g' u' H' locs' h9' (by omega)
      refine lv_aload_n X.1 X.2.1 dL_law_37 rfl (lv_at hl 3 rfl) ?_
      refine lv_iload_n X.1 X.2.1 dL_law_38 rfl (lv_at hl 0 rfl) ?_
      refine va_sld X.1 X.2.1 hX hbl hbA h9.1.2.1 (zi_vp (by rw [nI_toInt (by omega)]; omega)) dL_law_39 ?_
      refine lv_bipush (v := 31) X.1 X.2.1 dL_law_40 (by decide) ?_
      refine lv_iand X.1 X.2.1 dL_law_42 ?_
      refine lv_topi (fun x9 ex9 => ?_)
      by_cases c8 : x9.toInt < 0 ∨ 19 < x9.toInt
      · refine lv_tableOut (tgt := 826) X.1 X.2.1 dL_law_43 c8 (by decide) ?_
        refine W.widen (k := cells + 2) (n := slots + 11) (by omega) (by omega) ?_
        exact hk ad sh g u H locs h9
      obtain c9 | c9 | c9 | c9 | c9 | c9 | c9 | c9 | c9 | c9 | c9 | c9 | c9 | c9 | c9 | c9 | c9 | c9 | c9 | c9 : x9.toInt = 0 ∨ x9.toInt = 1 ∨ x9.toInt = 2 ∨ x9.toInt = 3 ∨ x9.toInt = 4 ∨ x9.toInt = 5 ∨ x9.toInt = 6 ∨ x9.toInt = 7 ∨ x9.toInt = 8 ∨ x9.toInt = 9 ∨ x9.toInt = 10 ∨ x9.toInt = 11 ∨ x9.toInt = 12 ∨ x9.toInt = 13 ∨ x9.toInt = 14 ∨ x9.toInt = 15 ∨ x9.toInt = 16 ∨ x9.toInt = 17 ∨ x9.toInt = 18 ∨ x9.toInt = 19 := by omega
      · refine lv_tableIn (off := 93) (tgt := 136) X.1 X.2.1 dL_law_43 (by omega) (by omega) (by rw [c9]; rfl) (by decide) ?_
        exact lw_c0 l Y hL hbl hX X ax am j (by omega) ad sh g u H locs cells slots ls h9 (by omega) (by omega) hl hk
      · refine lv_tableIn (off := 116) (tgt := 159) X.1 X.2.1 dL_law_43 (by omega) (by omega) (by rw [c9]; rfl) (by decide) ?_
        exact lw_c1 l Y hL hbl hX X ax am j (by omega) ad sh g u H locs cells slots ls h9 (by omega) (by omega) hl hk
      · refine lv_tableIn (off := 139) (tgt := 182) X.1 X.2.1 dL_law_43 (by omega) (by omega) (by rw [c9]; rfl) (by decide) ?_
        exact lw_c2 l Y hL hbl hX X ax am j (by omega) ad sh g u H locs cells slots ls h9 (by omega) (by omega) hl hk
      · refine lv_tableIn (off := 172) (tgt := 215) X.1 X.2.1 dL_law_43 (by omega) (by omega) (by rw [c9]; rfl) (by decide) ?_
        exact lw_c3 l Y hL hbl hX X ax am j (by omega) ad sh g u H locs cells slots ls h9 (by omega) (by omega) hl hk
      · refine lv_tableIn (off := 215) (tgt := 258) X.1 X.2.1 dL_law_43 (by omega) (by omega) (by rw [c9]; rfl) (by decide) ?_
        exact lw_c4 l Y hL hbl hX X ax am j (by omega) ad sh g u H locs cells slots ls h9 (by omega) (by omega) hl hk
      · refine lv_tableIn (off := 228) (tgt := 271) X.1 X.2.1 dL_law_43 (by omega) (by omega) (by rw [c9]; rfl) (by decide) ?_
        exact lw_c5 l Y hL hbl hX X ax am j (by omega) ad sh g u H locs cells slots ls h9 (by omega) (by omega) hl hk
      · refine lv_tableIn (off := 241) (tgt := 284) X.1 X.2.1 dL_law_43 (by omega) (by omega) (by rw [c9]; rfl) (by decide) ?_
        exact lw_c6 l Y hL hbl hX X ax am j (by omega) ad sh g u H locs cells slots ls h9 (by omega) (by omega) hl hk
      · refine lv_tableIn (off := 274) (tgt := 317) X.1 X.2.1 dL_law_43 (by omega) (by omega) (by rw [c9]; rfl) (by decide) ?_
        exact lw_c7 l Y hL hbl hX X ax am j (by omega) ad sh g u H locs cells slots ls h9 (by omega) (by omega) hl hk
      · refine lv_tableIn (off := 307) (tgt := 350) X.1 X.2.1 dL_law_43 (by omega) (by omega) (by rw [c9]; rfl) (by decide) ?_
        exact lw_c8 l Y hL hbl hX X ax am j (by omega) ad sh g u H locs cells slots ls h9 (by omega) (by omega) hl hk
      · refine lv_tableIn (off := 340) (tgt := 383) X.1 X.2.1 dL_law_43 (by omega) (by omega) (by rw [c9]; rfl) (by decide) ?_
        exact lw_c9 l Y hL hbl hX X ax am j (by omega) ad sh g u H locs cells slots ls h9 (by omega) (by omega) hl hk
      · refine lv_tableIn (off := 383) (tgt := 426) X.1 X.2.1 dL_law_43 (by omega) (by omega) (by rw [c9]; rfl) (by decide) ?_
        exact lw_c10 l Y hL hbl hX X ax am j (by omega) ad sh g u H locs cells slots ls h9 (by omega) (by omega) hl hk
      · refine lv_tableIn (off := 436) (tgt := 479) X.1 X.2.1 dL_law_43 (by omega) (by omega) (by rw [c9]; rfl) (by decide) ?_
        exact lw_c11 l Y hL hbl hX X ax am j (by omega) ad sh g u H locs cells slots ls h9 (by omega) (by omega) hl hk
      · refine lv_tableIn (off := 499) (tgt := 542) X.1 X.2.1 dL_law_43 (by omega) (by omega) (by rw [c9]; rfl) (by decide) ?_
        exact lw_c12 l Y hL hbl hX X ax am j (by omega) ad sh g u H locs cells slots ls h9 (by omega) (by omega) hl hk
      · refine lv_tableIn (off := 562) (tgt := 605) X.1 X.2.1 dL_law_43 (by omega) (by omega) (by rw [c9]; rfl) (by decide) ?_
        exact lw_c13 l Y hL hbl hX X ax am j (by omega) ad sh g u H locs cells slots ls h9 (by omega) (by omega) hl hk
      · refine lv_tableIn (off := 595) (tgt := 638) X.1 X.2.1 dL_law_43 (by omega) (by omega) (by rw [c9]; rfl) (by decide) ?_
        exact lw_c14 l Y hL hbl hX X ax am j (by omega) ad sh g u H locs cells slots ls h9 (by omega) (by omega) hl hk
      · refine lv_tableIn (off := 608) (tgt := 651) X.1 X.2.1 dL_law_43 (by omega) (by omega) (by rw [c9]; rfl) (by decide) ?_
        exact lw_c15 l Y hL hbl hX X ax am j (by omega) ad sh g u H locs cells slots ls h9 (by omega) (by omega) hl hk
      · refine lv_tableIn (off := 631) (tgt := 674) X.1 X.2.1 dL_law_43 (by omega) (by omega) (by rw [c9]; rfl) (by decide) ?_
        exact lw_c16 l Y hL hbl hX X ax am j (by omega) ad sh g u H locs cells slots ls h9 (by omega) (by omega) hl hk
      · refine lv_tableIn (off := 654) (tgt := 697) X.1 X.2.1 dL_law_43 (by omega) (by omega) (by rw [c9]; rfl) (by decide) ?_
        exact lw_c17 l Y hL hbl hX X ax am j (by omega) ad sh g u H locs cells slots ls h9 (by omega) (by omega) hl hk
      · refine lv_tableIn (off := 717) (tgt := 760) X.1 X.2.1 dL_law_43 (by omega) (by omega) (by rw [c9]; rfl) (by decide) ?_
        exact lw_c18 l Y hL hbl hX X ax am j (by omega) ad sh g u H locs cells slots ls h9 (by omega) (by omega) hl hk
      · refine lv_tableIn (off := 750) (tgt := 793) X.1 X.2.1 dL_law_43 (by omega) (by omega) (by rw [c9]; rfl) (by decide) ?_
        exact lw_c19 l Y hL hbl hX X ax am j (by omega) ad sh g u H locs cells slots ls h9 (by omega) (by omega) hl hk

set_option maxHeartbeats 4000000 in
set_option maxRecDepth 100000 in
/-- THE LAW, from its entry -/
theorem whole_start {p : Program} {e : Env} {s : State} {m : MethodId} {below : List Frame} {meth : Method} {c : Code} (l : Launch) {b L : Nat} {xs : Nat → Int32} (hL : L ≤ 3073) (C0 : lw_At p s m meth c b L xs) : W p l e room_1 s m #[Value.ref b] below meth c s.heap [] 0 0 (lw_Z below #[Value.ref b] s) (entryFrame m ([Value.ref b] : List Value).toArray 4) := by
  obtain ⟨hx, hb, hr, hml, hown, hts, hX, hbl, hlocks, hgv⟩ := id C0
  obtain ⟨Y, hK⟩ := lw_K hts hgv
  have X : zw_X p m meth c cL_law 4 (some .boolean) s #[Value.ref b] RL Y := ⟨hx, hb, hml, hown, fun w hw => hts w (List.mem_filter.mp hw).1, hK, hr, hlocks⟩
  have hW : zw_St Y s.heap.size (fun _ => 0) (fun _ => none) (fun _ _ => 0) s s.heap [] := ⟨⟨[], List.nodup_nil, fun r => by simp, fun k q h => by simp at h, ⟨fun i j p q h => by simp at h, fun k q h => by simp at h⟩, fun r e h => by simp at h⟩, va_S.rf, Nat.le_refl _⟩
  have hl := lv_entry ([.ref b]) (n := 4) (Nat.le_of_ble_eq_true rfl)
  rw [lg_entry_eq]
  generalize (lg_sl ([.ref b]) ++ List.replicate (4 - (lg_sl ([.ref b])).length) Slot.unset).toArray = ls at hl ⊢
  have hl : lv_has ls 4 [(0, .ref b)] := hl
  refine zr_new (ss := [none, some none, some none, some none, some none, some none, some none, some none, none, some none, none, none]) X hW cs_X9 ns_L_7 dL_law_0 ds_X9 (by intro r h; simp at h) 100 rfl (Nat.le_of_ble_eq_true rfl) (Nat.le_of_ble_eq_true rfl) (fun ad1 H had1 hW => ?_)
  refine lv_dup X.1 X.2.1 dL_law_3 rfl ?_
  refine lv_aload_n X.1 X.2.1 dL_law_4 rfl (lv_at hl 0 rfl) ?_
  refine lv_iconst (v := 0) X.1 X.2.1 dL_law_5 (by decide) ?_
  refine zr_callX (As := [.ref b, .int 0]) (rest := [.ref (ad1 100), .ref (ad1 100)]) X hW hX hbl hl.1 md_L_cell ms_L_9 dL_law_6 rfl rfl (Nat.le_of_ble_eq_true rfl) ⟨(Nat.le_of_ble_eq_true rfl), (Nat.le_of_ble_eq_true rfl)⟩ ⟨(Nat.le_of_ble_eq_true rfl), (Nat.le_of_ble_eq_true rfl)⟩ (c_L_cell l Y _ _ _ _ b L xs hL) (fun v9 ad9 sh9 g9 H locs hp hW => ?_)
  obtain ⟨rfl, rfl, rfl, rfl⟩ := hp
  refine zr_callI (As := [.int (zx_0 L xs)]) (rest := [.ref (ad1 100)]) (b := ad1 100) X hW hl.1 md_X9_init ms_L_15 rfl dL_law_9 rfl rfl (Nat.le_of_ble_eq_true rfl) ⟨(Nat.le_of_ble_eq_true rfl), (Nat.le_of_ble_eq_true rfl)⟩ ⟨(Nat.le_of_ble_eq_true rfl), (Nat.le_of_ble_eq_true rfl)⟩ (c_X9_init l Y _ ad1 _ _ rfl (fun r hr => va_up_ne _ _ (by omega)) (zx_0 L xs)) (fun v9 ad2 sh2 g2 H locs hp hW => ?_)
  obtain ⟨rfl, hR2, hf2⟩ := hp
  refine lv_astore_n (lv' := [(1, .ref (ad1 100)), (0, .ref b)]) X.1 X.2.1 dL_law_12 rfl hl (by decide) rfl (fun ls hl => ?_)
  have hs2 : ∀ r : Nat, r < 100 → sh2 r = none := fun r hr => (hf2.2 r hr).1.trans (va_up_ne _ _ (by omega))
  have hg2 : ∀ r : Nat, r < 100 → g2 r = fun _ => 0 := fun r hr => (hf2.2 r hr).2.trans (va_up_ne _ _ (by omega))
  refine zr_new (ss := [none, some none, none, some none, some none, some none, some none, some none, none, some none, some none, some none, some none, some none, some none, some none, some none, some none, some none, none, some none, some none, some none, some none, some none, some none, some none, none, none, some none]) X hW cs_X10 ns_L_18 dL_law_13 ds_X10 (by intro r h; simp at h) 0 (hs2 0 (by omega)) (Nat.le_of_ble_eq_true rfl) (Nat.le_of_ble_eq_true rfl) (fun ad3 H had3 hW => ?_)
  refine lv_dup X.1 X.2.1 dL_law_16 rfl ?_
  refine lv_aload_n X.1 X.2.1 dL_law_17 rfl (lv_at hl 1 rfl) ?_
  refine lv_iconst (v := 0) X.1 X.2.1 dL_law_18 (by decide) ?_
  refine zr_callX (As := [.ref b, .int 0]) (rest := [.ref (ad3 0), .ref (ad3 0)]) X hW hX hbl hl.1 md_L_cell ms_L_9 dL_law_19 rfl rfl (Nat.le_of_ble_eq_true rfl) ⟨(Nat.le_of_ble_eq_true rfl), (Nat.le_of_ble_eq_true rfl)⟩ ⟨(Nat.le_of_ble_eq_true rfl), (Nat.le_of_ble_eq_true rfl)⟩ (c_L_cell l Y _ _ _ _ b L xs hL) (fun v9 ad9 sh9 g9 H locs hp hW => ?_)
  obtain ⟨rfl, rfl, rfl, rfl⟩ := hp
  refine zr_callI (As := [.int (zx_0 L xs)]) (rest := [.ref (ad3 0)]) (b := ad3 0) X hW hl.1 md_X10_init ms_L_20 rfl dL_law_22 rfl rfl (Nat.le_of_ble_eq_true rfl) ⟨(Nat.le_of_ble_eq_true rfl), (Nat.le_of_ble_eq_true rfl)⟩ ⟨(Nat.le_of_ble_eq_true rfl), (Nat.le_of_ble_eq_true rfl)⟩ (c_X10_init l Y _ ad3 _ _ (va_up_self _ _ _) (fun r h1 h2 => (va_up_ne _ _ (by omega)).trans (hs2 r h2)) (fun r hr => by
    by_cases h0 : r = 0
    · subst h0; exact va_up_self _ _ _
    · exact (va_up_ne _ _ h0).trans (hg2 r hr)) (zx_0 L xs)) (fun v9 ad4 sh4 g4 H locs hp hW => ?_)
  obtain ⟨rfl, hM4, hg4, had4, hs4⟩ := hp
  refine lv_astore_n (lv' := [(2, .ref (ad3 0)), (1, .ref (ad1 100)), (0, .ref b)]) X.1 X.2.1 dL_law_25 rfl hl (by decide) rfl (fun ls hl => ?_)
  refine lv_iconst (v := 1) X.1 X.2.1 dL_law_26 (by decide) ?_
  refine lv_istore_n (lv' := [(3, .int 1), (2, .ref (ad3 0)), (1, .ref (ad1 100)), (0, .ref b)]) X.1 X.2.1 dL_law_27 rfl hl (by decide) rfl (fun ls hl => ?_)
  have hR4 : zc_R sh4 g4 (zs_u0 (zs_sk (zx_0 L xs))) := zc_Rc hR2 (fun r hr => ⟨(hs4 r hr).trans (va_up_ne _ _ (by omega)), by rw [hg4, zm_mixr hr]; exact va_up_ne _ _ (by omega)⟩)
  have hI4 := zs_u0i (zx_0 L xs)
  have hm4 : g4 = zm_mix (zs_u0 (zs_sk (zx_0 L xs))) g4 := by rw [hg4]; exact (zm_mixm (u' := g2)).symm
  have ha4 : ad4 100 = ad1 100 := (had4 100 (by omega)).trans ((had3 100 (by omega)).trans (hf2.1 100 (by omega)))
  exact lw_loop l Y hL hbl hX X (ad1 100) (ad3 0) 512 1 ad4 sh4 g4 _ _ _ _ _ ls (by omega) (by omega) ⟨hW, hM4, hR4, hm4, hI4, ha4, had4 0 (by omega)⟩ (Nat.le_of_ble_eq_true rfl) (Nat.le_of_ble_eq_true rfl) hl

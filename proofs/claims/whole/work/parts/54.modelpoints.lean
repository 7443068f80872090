/-! the model: counted, fallen, points -/
theorem lt_m1 {a : Nat} (h : a < 2 ^ 31) : nI a - 1 < 0 ↔ a = 0 := by
  have e0 : (0 : Int32).toInt = 0 := rfl
  rw [Int32.lt_iff_toInt_lt, nI_mi h]; omega
theorem nI_dn (m : Nat) : nI m + (-1) = nI m - 1 := (Int32.sub_eq_add_neg (nI m) 1).symm
theorem ct_at {S : sp_S} (h : sw_H S) (i r j : Nat) : sp_ct S i r j = if sp_mk S i r j ≠ 0 ∧ sp_ct S i r j = 0 then 0 else sp_mk S i r j := by
  have w := ((h i r).1 j).2.1
  by_cases z : sp_mk S i r j ≠ 0 ∧ sp_ct S i r j = 0
  · rw [if_pos z]; exact z.2
  · rw [if_neg z]
    rcases w with w | w
    · exact w
    · by_cases y : sp_mk S i r j = 0
      · rw [y]; exact w
      · exact absurd ⟨y, w⟩ z

set_option maxHeartbeats 4000000 in
set_option maxRecDepth 100000 in
theorem m_X7_counted (D : va_G) (E : Nat → ClassId) (B : Nat) (l : Launch) (κ : Nat → Nat) (x : Nat) (ad sc : Nat → Nat) (ar : Nat → Nat → Int32) (S : sp_S) (r i j : Nat) (hM : mi_ S sc ar) (hw : sp_wf S) (hr4 : r < 4) (hi : i < 6) (hj : j < 5) : zs_Ct D E B l yX7_counted cX7_counted 5 (some .int) ({ frames := 0, cells := 0, slots := 0, locals := 0 } : Room) [.ref x, .int (nI r), .int (nI i), .int (nI j)] (fun H => md_O D E κ x ad sc ar H) (zs_N) (zs_ro (.int (nI (sp_ct S i r j) - 1))) := by
  refine zs_ct (by decide) (Nat.le_of_ble_eq_true rfl) (fun p e s m below meth c hE hr hin hp => ?_)
  refine zs_lo (lo' := [(0, .ref x), (1, .int (nI r)), (2, .int (nI i)), (3, .int (nI j))]) rfl ?_
  have hO := hp
  obtain ⟨t0, hx, t5, t6, t7, t8, t9, t10, t11, t12, t13, t14, t15, t16, t17, t18, t19, t20, r5, r6, r7, r8, r9, r10, r11, r12, r13, r14, r15, r16, r17, r18, r19, r20⟩ := id hO
  obtain ⟨wN, wP, wV, wA, wH, wZ, wF⟩ := id hw
  obtain ⟨n6, n40, n12, n8, n99⟩ := id wN
  obtain ⟨⟨mp0, mP⟩, ⟨mv0, mV⟩, ⟨mt0, mT⟩, mH, ⟨mz0, mZ⟩, mE⟩ := id hM
  obtain ⟨mm, ma⟩ := (mH r hr4 i hi).2 j hj
  have hct := ct_at wH i r j
  refine zs_iconst (v := (nI 5)) hE dX7_counted_0 (by decide) ?_
  refine zs_bipush (v := (nI 6)) hE dX7_counted_1 (by decide) ?_
  refine zs_iload_n hE 1 dX7_counted_3 rfl rfl ?_
  refine zs_imulN hE dX7_counted_4 ?_
  refine zs_iload_n hE 2 dX7_counted_5 rfl rfl ?_
  refine zs_iaddN hE dX7_counted_6 ?_
  refine zs_imulN hE dX7_counted_7 ?_
  refine zs_iload_n hE 3 dX7_counted_8 rfl rfl ?_
  refine zs_iaddN hE dX7_counted_9 ?_
  refine zs_istore (lo' := [(4, .int (nI (5 * (6 * r + i) + j))), (0, .ref x), (1, .int (nI r)), (2, .int (nI i)), (3, .int (nI j))]) hE dX7_counted_10 (by decide) rfl ?_
  refine zs_aload_n hE 1 dX7_counted_12 rfl rfl ?_
  refine zs_get hE fl_X7_61 hx rfl dX7_counted_13 ?_
  refine zs_iload hE 0 dX7_counted_16 rfl ?_
  refine zs_zald hE r16 (by omega) (by decide) dX7_counted_18 ?_
  refine zs_top (v' := .int (zs_b (sp_mk S i r j ≠ 0 ∧ sp_ct S i r j = 0))) (by rw [ma]; by_cases w9 : sp_mk S i r j ≠ 0 ∧ sp_ct S i r j = 0; rw [if_pos w9]; exact vb1 w9; rw [if_neg w9]; exact vb0 w9) ?_
  refine zs_if_eqB (tgt := 26) hE dX7_counted_19 (by decide) (fun h1 => ?_) (fun h1 => ?_)
  · refine zs_aload_n hE 1 dX7_counted_26 rfl rfl ?_
    refine zs_get hE fl_X7_58 hx rfl dX7_counted_27 ?_
    refine zs_iload hE 0 dX7_counted_30 rfl ?_
    refine zs_iald hE r15 (by omega) (by decide) dX7_counted_32 ?_
    refine zs_top (v' := .int (nI (sp_mk S i r j))) (by rw [mm]) ?_
    refine zs_iconst (v := (nI 1)) hE dX7_counted_33 (by decide) ?_
    refine zs_isub hE dX7_counted_34 ?_
    refine zs_top (v' := .int (nI (sp_ct S i r j) - 1)) (by rw [if_neg h1] at hct; rw [hct]; rfl) ?_
    exact zs_iret hE hr (⟨rfl, rfl⟩) (by decide) (by decide) dX7_counted_35
  · refine zs_iconst (v := (-1)) hE dX7_counted_22 (by decide) ?_
    refine zs_goto (tgt := 35) hE dX7_counted_23 (by decide) ?_
    refine zs_top (v' := .int (nI (sp_ct S i r j) - 1)) (by rw [h1.2]; rfl) ?_
    exact zs_iret hE hr (⟨rfl, rfl⟩) (by decide) (by decide) dX7_counted_35

set_option maxHeartbeats 4000000 in
set_option maxRecDepth 100000 in
theorem m_X7_fallen (D : va_G) (E : Nat → ClassId) (B : Nat) (l : Launch) (κ : Nat → Nat) (x : Nat) (ad sc : Nat → Nat) (ar : Nat → Nat → Int32) (S : sp_S) (r i pl : Nat) (hM : mi_ S sc ar) (hw : sp_wf S) (hr4 : r < 4) (hi6 : i < 6) (hp5 : pl < 5) : zs_Ct D E B l yX7_fallen cX7_fallen 7 (some .int) ({ frames := 1, cells := 0, slots := 0, locals := 24 } : Room) [.ref x, .int (nI r), .int (nI i), .int (nI pl)] (fun H => md_O D E κ x ad sc ar H) (zs_N) (zs_ro (.int (nI (fa (sp_ct S i r) pl) - 1))) := by
  refine zs_ct (by decide) (Nat.le_of_ble_eq_true rfl) (fun p e s m below meth c hE hr hin hp => ?_)
  refine zs_lo (lo' := [(0, .ref x), (1, .int (nI r)), (2, .int (nI i)), (3, .int (nI pl))]) rfl ?_
  have hO := hp
  obtain ⟨t0, hx, t5, t6, t7, t8, t9, t10, t11, t12, t13, t14, t15, t16, t17, t18, t19, t20, r5, r6, r7, r8, r9, r10, r11, r12, r13, r14, r15, r16, r17, r18, r19, r20⟩ := id hO
  obtain ⟨wN, wP, wV, wA, wH, wZ, wF⟩ := id hw
  obtain ⟨n6, n40, n12, n8, n99⟩ := id wN
  obtain ⟨⟨mp0, mP⟩, ⟨mv0, mV⟩, ⟨mt0, mT⟩, mH, ⟨mz0, mZ⟩, mE⟩ := id hM
  have gb := sp_ctb wH i r
  generalize hg : sp_ct S i r = g at *
  refine zs_iload_n hE 3 dX7_fallen_0 rfl rfl ?_
  refine zs_istore (lo' := [(4, .int (nI pl)), (0, .ref x), (1, .int (nI r)), (2, .int (nI i)), (3, .int (nI pl))]) hE dX7_fallen_1 (by decide) rfl ?_
  refine zs_bipush (v := (nI 20)) hE dX7_fallen_3 (by decide) ?_
  refine zs_istore (lo' := [(5, .int (nI 20)), (4, .int (nI pl)), (0, .ref x), (1, .int (nI r)), (2, .int (nI i)), (3, .int (nI pl))]) hE dX7_fallen_5 (by decide) rfl ?_
  refine zs_sub (lo' := [(5, .int (nI 20)), (4, .int (nI pl)), (0, .ref x), (1, .int (nI r)), (2, .int (nI i))]) [0, 1, 2, 3, 4] rfl ?_
  refine zs_lo (lo' := [(5, .int (nI (21) - 1)), (4, .int (nI (pl - cg g (21 + 1) 5))), (0, .ref x), (1, .int (nI r)), (2, .int (nI i))]) (by rw [cg_22 gb (by decide)]; rfl) ?_
  refine zs_sub (lo' := [(5, .int (nI (21) - 1)), (4, .int (nI (pl - cg g (21 + 1) 5))), (0, .ref x), (1, .int (nI r)), (2, .int (nI i))]) [0, 1, 2, 3, 4] rfl ?_
  refine zs_ind1 (Hs := fun (M : Nat) => s.heap) (ks := fun (M : Nat) => 0) (ns := fun (M : Nat) => 0) (los := fun (M : Nat) => [(5, .int (nI (M) - 1)), (4, .int (nI (pl - cg g (M + 1) 5))), (0, .ref x), (1, .int (nI r)), (2, .int (nI i))]) (I := fun (M : Nat) => M ≤ 21 ∧ cg g (M + 1) 5 ≤ pl) (μ := fun (M : Nat) => M) 21 (⟨Nat.le_refl _, by rw [cg_22 gb (by decide)]; exact Nat.zero_le _⟩) (fun M hi ih => ?_)
  try dsimp only at hi ih ⊢
  have ih0 := ih
  obtain ⟨m21, cm⟩ := hi
  refine zs_iload hE 0 dX7_fallen_7 rfl ?_
  refine zs_if_lt (tgt := 60) hE dX7_fallen_9 (by decide) (fun h1 => ?_) (fun h1 => ?_)
  · obtain rfl : M = 0 := (lt_m1 (by omega)).mp h1
    refine zs_iconst (v := (-1)) hE dX7_fallen_60 (by decide) ?_
    refine zs_top (v' := .int (nI (fa g pl) - 1)) (by rw [fa_eq (by decide) (Or.inl rfl) cm]; rfl) ?_
    exact zs_iret hE hr (⟨rfl, rfl⟩) (by decide) (by decide) dX7_fallen_61
  · obtain ⟨mq, rfl⟩ : ∃ t, M = t + 1 := ⟨M - 1, by have : M ≠ 0 := fun z => h1 ((lt_m1 (by omega)).mpr z); omega⟩
    refine zs_lo (lo' := [(5, .int (nI mq)), (4, .int (nI (pl - cg g (mq + 2) 5))), (0, .ref x), (1, .int (nI r)), (2, .int (nI i))]) (by rw [nI_m2 (by omega)]; rfl) ?_
    have cm : cg g (mq + 2) 5 ≤ pl := cm
    refine zs_iconst (v := (nI 0)) hE dX7_fallen_12 (by decide) ?_
    refine zs_istore (lo' := [(6, .int (nI 0)), (5, .int (nI mq)), (4, .int (nI (pl - cg g (mq + 2) 5))), (0, .ref x), (1, .int (nI r)), (2, .int (nI i))]) hE dX7_fallen_13 (by decide) rfl ?_
    refine zs_sub (lo' := [(6, .int (nI 0)), (0, .ref x), (1, .int (nI r)), (2, .int (nI i)), (4, .int (nI (pl - cg g (mq + 2) 5))), (5, .int (nI mq))]) [0, 3, 4, 5, 2, 1] rfl ?_
    refine zs_lo (lo' := [(6, .int (nI 0)), (0, .ref x), (1, .int (nI r)), (2, .int (nI i)), (4, .int (nI (pl - cg g (mq + 2) 5 - ce g (mq + 1) (0)))), (5, .int (nI mq))]) (rfl) ?_
    refine zs_sub (lo' := [(6, .int (nI 0)), (0, .ref x), (1, .int (nI r)), (2, .int (nI i)), (4, .int (nI (pl - cg g (mq + 2) 5 - ce g (mq + 1) (0)))), (5, .int (nI mq))]) [0, 1, 2, 3, 4, 5] rfl ?_
    refine zs_ind1 (Hs := fun (j0 : Nat) => s.heap) (ks := fun (j0 : Nat) => 0) (ns := fun (j0 : Nat) => 0) (los := fun (j0 : Nat) => [(6, .int (nI j0)), (0, .ref x), (1, .int (nI r)), (2, .int (nI i)), (4, .int (nI (pl - cg g (mq + 2) 5 - ce g (mq + 1) (j0)))), (5, .int (nI mq))]) (I := fun (j0 : Nat) => j0 ≤ 5 ∧ cg g (mq + 2) 5 + ce g (mq + 1) j0 ≤ pl) (μ := fun (j0 : Nat) => 5 - j0) 0 (⟨by decide, cm⟩) (fun j0 hi ih => ?_)
    try dsimp only at hi ih ⊢
    obtain ⟨j5, cj⟩ := hi
    refine zs_iload hE 0 dX7_fallen_15 rfl ?_
    refine zs_iconst (v := (nI 5)) hE dX7_fallen_17 (by decide) ?_
    refine zs_icmp_geN (tgt := 54) hE (by omega) (by decide) dX7_fallen_18 (by decide) (fun h3 => ?_) (fun h2 => ?_)
    · obtain rfl : j0 = 5 := by omega
      have cc := cg_ce g (mq + 1) 5
      have cc : cg g (mq + 1) 5 = cg g (mq + 2) 5 + ce g (mq + 1) 5 := cc
      refine zs_iinc (v := ((nI mq) + (-1))) (lo' := [(5, .int ((nI mq) + (-1))), (6, .int (nI 5)), (0, .ref x), (1, .int (nI r)), (2, .int (nI i)), (4, .int (nI (pl - cg g (mq + 2) 5 - ce g (mq + 1) (5))))]) hE 5 dX7_fallen_54 rfl (by first | rfl | decide) (by decide) rfl ?_
      refine zs_goto (tgt := 7) hE dX7_fallen_57 (by decide) ?_
      refine zs_sub (lo' := [(5, .int ((nI mq) + (-1))), (4, .int (nI (pl - cg g (mq + 2) 5 - ce g (mq + 1) (5)))), (0, .ref x), (1, .int (nI r)), (2, .int (nI i))]) [0, 5, 2, 3, 4] rfl ?_
      refine zs_lo (lo' := [(5, .int (nI (mq) - 1)), (4, .int (nI (pl - cg g (mq + 1) 5))), (0, .ref x), (1, .int (nI r)), (2, .int (nI i))]) (by rw [nI_dn, show pl - cg g (mq + 1) 5 = pl - cg g (mq + 2) 5 - ce g (mq + 1) 5 by omega]) ?_
      exact ih0 mq ⟨by omega, by omega⟩ (by omega)
    · have bj := gb j0 h2
      refine zs_aload_n hE 1 dX7_fallen_21 rfl rfl ?_
      refine zs_iload_n hE 2 dX7_fallen_22 rfl rfl ?_
      refine zs_iload_n hE 3 dX7_fallen_23 rfl rfl ?_
      refine zs_iload hE 0 dX7_fallen_24 rfl ?_
      refine zs_callVR (av := [.int (nI r), .int (nI i), .int (nI j0)]) (st := []) (b := x) hE (m_X7_counted D E B l κ x ad sc ar S r i j0 hM hw hr4 hi6 h2) rfl rfl sV_X7_147 hx rfl rfl (hO) ⟨by decide, by decide⟩ ⟨by decide, by decide⟩ (Nat.le_of_ble_eq_true rfl) dX7_fallen_26 ?_
      refine zs_top (v' := .int (nI (g j0) - 1)) (by rw [hg]) ?_
      refine zs_iload hE 5 dX7_fallen_29 rfl ?_
      refine zs_icmp_eq (tgt := 37) hE dX7_fallen_31 (by decide) (fun h4 => ?_) (fun h4 => ?_)
      · have e4 : g j0 = mq + 1 := (hv_eq (by omega) (by omega)).mp h4
        refine zs_iload hE 4 dX7_fallen_37 rfl ?_
        refine zs_if_neN (tgt := 45) hE (by omega) dX7_fallen_39 (by decide) (fun h5 => ?_) (fun h5 => ?_)
        · obtain ⟨u9, hu⟩ : ∃ t, pl - cg g (mq + 2) 5 - ce g (mq + 1) j0 = t + 1 := ⟨pl - cg g (mq + 2) 5 - ce g (mq + 1) j0 - 1, by omega⟩
          refine zs_lo (lo' := [(6, .int (nI j0)), (0, .ref x), (1, .int (nI r)), (2, .int (nI i)), (4, .int (nI (u9 + 1))), (5, .int (nI mq))]) (by rw [hu]) ?_
          have c1 := ce_1 e4
          refine zs_iincD (lo' := [(4, .int (nI u9)), (6, .int (nI j0)), (0, .ref x), (1, .int (nI r)), (2, .int (nI i)), (5, .int (nI mq))]) hE 4 dX7_fallen_45 rfl (by decide) rfl ?_
          refine zs_iincN (lo' := [(6, .int (nI (j0 + 1))), (4, .int (nI u9)), (0, .ref x), (1, .int (nI r)), (2, .int (nI i)), (5, .int (nI mq))]) hE 1 dX7_fallen_48 rfl (by decide) rfl ?_
          refine zs_goto (tgt := 15) hE dX7_fallen_51 (by decide) ?_
          refine zs_sub (lo' := [(6, .int (nI (j0 + 1))), (0, .ref x), (1, .int (nI r)), (2, .int (nI i)), (4, .int (nI u9)), (5, .int (nI mq))]) [0, 2, 3, 4, 1, 5] rfl ?_
          refine zs_lo (lo' := [(6, .int (nI (j0 + 1))), (0, .ref x), (1, .int (nI r)), (2, .int (nI i)), (4, .int (nI (pl - cg g (mq + 2) 5 - ce g (mq + 1) (j0 + 1)))), (5, .int (nI mq))]) (by rw [show pl - cg g (mq + 2) 5 - ce g (mq + 1) (j0 + 1) = u9 by omega]) ?_
          refine zs_sub (lo' := [(6, .int (nI (j0 + 1))), (0, .ref x), (1, .int (nI r)), (2, .int (nI i)), (4, .int (nI (pl - cg g (mq + 2) 5 - ce g (mq + 1) (j0 + 1)))), (5, .int (nI mq))]) [0, 1, 2, 3, 4, 5] rfl ?_
          exact ih (j0 + 1) (⟨by omega, by omega⟩) (by omega)
        · have hin : pl < cg g (mq + 1) 5 := by have cc := cg_ce g (mq + 1) 5; have cc : cg g (mq + 1) 5 = cg g (mq + 2) 5 + ce g (mq + 1) 5 := cc; have c1 := ce_1 e4; have c2 : ce g (mq + 1) (j0 + 1) ≤ ce g (mq + 1) 5 := sm_mono (by omega); omega
          refine zs_iload hE 5 dX7_fallen_42 rfl ?_
          refine zs_top (v' := .int (nI (fa g pl) - 1)) (by rw [fa_eq (t := mq + 1) (by omega) (Or.inr hin) (by show cg g (mq + 2) 5 ≤ pl; exact cm), nI_m2 (by omega)]; rfl) ?_
          exact zs_iret hE hr (⟨rfl, rfl⟩) (by decide) (by decide) dX7_fallen_44
      · have e4 : g j0 ≠ mq + 1 := fun z => h4 ((hv_eq (by omega) (by omega)).mpr z)
        have c1 := ce_0 e4
        refine zs_goto (tgt := 48) hE dX7_fallen_34 (by decide) ?_
        refine zs_iincN (lo' := [(6, .int (nI (j0 + 1))), (0, .ref x), (1, .int (nI r)), (2, .int (nI i)), (4, .int (nI (pl - cg g (mq + 2) 5 - ce g (mq + 1) (j0)))), (5, .int (nI mq))]) hE 0 dX7_fallen_48 rfl (by decide) rfl ?_
        refine zs_goto (tgt := 15) hE dX7_fallen_51 (by decide) ?_
        refine zs_sub (lo' := [(6, .int (nI (j0 + 1))), (0, .ref x), (1, .int (nI r)), (2, .int (nI i)), (4, .int (nI (pl - cg g (mq + 2) 5 - ce g (mq + 1) (j0)))), (5, .int (nI mq))]) [0, 1, 2, 3, 4, 5] rfl ?_
        refine zs_lo (lo' := [(6, .int (nI (j0 + 1))), (0, .ref x), (1, .int (nI r)), (2, .int (nI i)), (4, .int (nI (pl - cg g (mq + 2) 5 - ce g (mq + 1) (j0 + 1)))), (5, .int (nI mq))]) (by rw [c1]) ?_
        refine zs_sub (lo' := [(6, .int (nI (j0 + 1))), (0, .ref x), (1, .int (nI r)), (2, .int (nI i)), (4, .int (nI (pl - cg g (mq + 2) 5 - ce g (mq + 1) (j0 + 1)))), (5, .int (nI mq))]) [0, 1, 2, 3, 4, 5] rfl ?_
        exact ih (j0 + 1) (⟨by omega, by omega⟩) (by omega)

set_option maxHeartbeats 4000000 in
set_option maxRecDepth 100000 in
theorem m_X7_pointsOf (D : va_G) (E : Nat → ClassId) (B : Nat) (l : Launch) (κ : Nat → Nat) (x : Nat) (ad sc : Nat → Nat) (ar : Nat → Nat → Int32) (S : sp_S) (r i : Nat) (hM : mi_ S sc ar) (hw : sp_wf S) (hr4 : r < 4) (hi6 : i < 6) : zs_Ct D E B l yX7_pointsOf cX7_pointsOf 7 (some .int) ({ frames := 2, cells := 0, slots := 0, locals := 50 } : Room) [.ref x, .int (nI r), .int (nI i)] (fun H => md_O D E κ x ad sc ar H) (zs_N) (zs_ro (.int (nI (sp_pt (sp_ct S i r))))) := by
  refine zs_ct (by decide) (Nat.le_of_ble_eq_true rfl) (fun p e s m below meth c hE hr hin hp => ?_)
  refine zs_lo (lo' := [(0, .ref x), (1, .int (nI r)), (2, .int (nI i))]) rfl ?_
  have hO := hp
  obtain ⟨t0, hx, t5, t6, t7, t8, t9, t10, t11, t12, t13, t14, t15, t16, t17, t18, t19, t20, r5, r6, r7, r8, r9, r10, r11, r12, r13, r14, r15, r16, r17, r18, r19, r20⟩ := id hO
  obtain ⟨wN, wP, wV, wA, wH, wZ, wF⟩ := id hw
  obtain ⟨n6, n40, n12, n8, n99⟩ := id wN
  obtain ⟨⟨mp0, mP⟩, ⟨mv0, mV⟩, ⟨mt0, mT⟩, mH, ⟨mz0, mZ⟩, mE⟩ := id hM
  have gb := sp_ctb wH i r
  have bd := sc_b gb 5 (Nat.le_refl _)
  refine zs_iconst (v := (nI 0)) hE dX7_pointsOf_0 (by decide) ?_
  refine zs_istore_n (lo' := [(3, .int (nI 0)), (0, .ref x), (1, .int (nI r)), (2, .int (nI i))]) hE dX7_pointsOf_1 rfl (by decide) rfl ?_
  refine zs_iconst (v := (nI 0)) hE dX7_pointsOf_2 (by decide) ?_
  refine zs_istore (lo' := [(4, .int (nI 0)), (3, .int (nI 0)), (0, .ref x), (1, .int (nI r)), (2, .int (nI i))]) hE dX7_pointsOf_3 (by decide) rfl ?_
  refine zs_iconst (v := (nI 0)) hE dX7_pointsOf_5 (by decide) ?_
  refine zs_istore (lo' := [(5, .int (nI 0)), (4, .int (nI 0)), (3, .int (nI 0)), (0, .ref x), (1, .int (nI r)), (2, .int (nI i))]) hE dX7_pointsOf_6 (by decide) rfl ?_
  refine zs_sub (lo' := [(5, .int (nI 0)), (3, .int (nI 0)), (4, .int (nI 0)), (0, .ref x), (1, .int (nI r)), (2, .int (nI i))]) [0, 2, 1, 3, 4, 5] rfl ?_
  refine zs_ind1 (Hs := fun (k0 : Nat) => s.heap) (ks := fun (k0 : Nat) => 0) (ns := fun (k0 : Nat) => 0) (los := fun (k0 : Nat) => [(5, .int (nI k0)), (3, .int (nI (sm (fun p => if fa (sp_ct S i r) p = 0 then 0 else 1) (k0)))), (4, .int (nI (sm (fun p => fa (sp_ct S i r) p - 1) (k0)))), (0, .ref x), (1, .int (nI r)), (2, .int (nI i))]) (I := fun (k0 : Nat) => k0 ≤ 5) (μ := fun (k0 : Nat) => 5 - k0) 0 (Nat.zero_le _) (fun k0 hi ih => ?_)
  try dsimp only at hi ih ⊢
  refine zs_iload hE 0 dX7_pointsOf_8 rfl ?_
  refine zs_iconst (v := (nI 5)) hE dX7_pointsOf_10 (by decide) ?_
  refine zs_icmp_geN (tgt := 61) hE (by omega) (by decide) dX7_pointsOf_11 (by decide) (fun h5 => ?_) (fun h => ?_)
  · obtain rfl : k0 = 5 := by omega
    refine zs_lo (lo' := [(5, .int (nI 5)), (3, .int (nI (sc_n (sp_ct S i r) 5))), (4, .int (nI (sc_s (sp_ct S i r) 5))), (0, .ref x), (1, .int (nI r)), (2, .int (nI i))]) (by rw [fa_n gb, fa_s gb]) ?_
    refine zs_iload_n hE 1 dX7_pointsOf_61 rfl rfl ?_
    refine zs_iconst (v := (nI 4)) hE dX7_pointsOf_62 (by decide) ?_
    refine zs_icmp_geN (tgt := 71) hE (by omega) (by decide) dX7_pointsOf_63 (by decide) (fun h6 => ?_) (fun h6 => ?_)
    · refine zs_iload hE 2 dX7_pointsOf_71 rfl ?_
      refine zs_aload_n hE 3 dX7_pointsOf_73 rfl rfl ?_
      refine zs_iload_n hE 4 dX7_pointsOf_74 rfl rfl ?_
      refine zs_iload_n hE 5 dX7_pointsOf_75 rfl rfl ?_
      refine zs_iconst (v := (nI 0)) hE dX7_pointsOf_76 (by decide) ?_
      refine zs_callVR (av := [.int (nI r), .int (nI i), .int (nI 0)]) (st := [.int (nI (sc_s (sp_ct S i r) 5))]) (b := x) hE (m_X7_fallen D E B l κ x ad sc ar S r i 0 hM hw hr4 hi6 (by decide)) rfl rfl sV_X7_150 hx rfl rfl (hO) ⟨by decide, by decide⟩ ⟨by decide, by decide⟩ (Nat.le_of_ble_eq_true rfl) dX7_pointsOf_77 ?_
      refine zs_top (v' := .int (nI (sc_g (sp_ct S i r) 5))) (by rw [fa_g gb (by omega), nI_m2 (by omega)]; rfl) ?_
      refine zs_isubN hE (by omega) dX7_pointsOf_80 ?_
      refine zs_aload_n hE 3 dX7_pointsOf_81 rfl rfl ?_
      refine zs_iload_n hE 4 dX7_pointsOf_82 rfl rfl ?_
      refine zs_iload_n hE 5 dX7_pointsOf_83 rfl rfl ?_
      refine zs_iload_n hE 1 dX7_pointsOf_84 rfl rfl ?_
      refine zs_iconst (v := (nI 1)) hE dX7_pointsOf_85 (by decide) ?_
      refine zs_isubN hE (by omega) dX7_pointsOf_86 ?_
      refine zs_callVR (av := [.int (nI r), .int (nI i), .int (nI ((sc_n (sp_ct S i r) 5) - 1))]) (st := [.int (nI ((sc_s (sp_ct S i r) 5) - (sc_g (sp_ct S i r) 5)))]) (b := x) hE (m_X7_fallen D E B l κ x ad sc ar S r i (sc_n (sp_ct S i r) 5 - 1) hM hw hr4 hi6 (by omega)) rfl rfl sV_X7_150 hx rfl rfl (hO) ⟨by decide, by decide⟩ ⟨by decide, by decide⟩ (Nat.le_of_ble_eq_true rfl) dX7_pointsOf_87 ?_
      refine zs_top (v' := .int (nI (sc_l (sp_ct S i r) 5))) (by rw [fa_l gb (by omega), nI_m2 (by omega)]; rfl) ?_
      refine zs_isubN hE (by omega) dX7_pointsOf_90 ?_
      refine zs_top (v' := .int (nI (sp_pt (sp_ct S i r)))) (by rw [sp_pt, if_pos (by omega), Nat.sub_right_comm]) ?_
      exact zs_iret hE hr (⟨rfl, rfl⟩) (by decide) (by decide) dX7_pointsOf_91
    · refine zs_iload hE 2 dX7_pointsOf_66 rfl ?_
      refine zs_goto (tgt := 91) hE dX7_pointsOf_68 (by decide) ?_
      refine zs_top (v' := .int (nI (sp_pt (sp_ct S i r)))) (by rw [sp_pt, if_neg (by omega)]) ?_
      exact zs_iret hE hr (⟨rfl, rfl⟩) (by decide) (by decide) dX7_pointsOf_91
  · have fb := fa_le (sp_ct S i r) k0
    refine zs_aload_n hE 3 dX7_pointsOf_14 rfl rfl ?_
    refine zs_iload_n hE 4 dX7_pointsOf_15 rfl rfl ?_
    refine zs_iload_n hE 5 dX7_pointsOf_16 rfl rfl ?_
    refine zs_iload hE 0 dX7_pointsOf_17 rfl ?_
    refine zs_callVR (av := [.int (nI r), .int (nI i), .int (nI k0)]) (st := []) (b := x) hE (m_X7_fallen D E B l κ x ad sc ar S r i k0 hM hw hr4 hi6 (h)) rfl rfl sV_X7_150 hx rfl rfl (hO) ⟨by decide, by decide⟩ ⟨by decide, by decide⟩ (Nat.le_of_ble_eq_true rfl) dX7_pointsOf_19 ?_
    refine zs_istore (lo' := [(6, .int (nI (fa (sp_ct S i r) k0) - 1)), (5, .int (nI k0)), (3, .int (nI (sm (fun p => if fa (sp_ct S i r) p = 0 then 0 else 1) (k0)))), (4, .int (nI (sm (fun p => fa (sp_ct S i r) p - 1) (k0)))), (0, .ref x), (1, .int (nI r)), (2, .int (nI i))]) hE dX7_pointsOf_22 (by decide) rfl ?_
    refine zs_iload_n hE 2 dX7_pointsOf_24 rfl rfl ?_
    refine zs_iload hE 0 dX7_pointsOf_25 rfl ?_
    refine zs_iconst (v := (-1)) hE dX7_pointsOf_27 (by decide) ?_
    refine zs_icmp_ne (tgt := 35) hE dX7_pointsOf_28 (by decide) (fun h6 => ?_) (fun h6 => ?_)
    · have f0 : fa (sp_ct S i r) k0 ≠ 0 := fun z => h6 ((nI_m1 (by omega)).mpr z)
      refine zs_iconst (v := (nI 1)) hE dX7_pointsOf_35 (by decide) ?_
      refine zs_iaddN hE dX7_pointsOf_36 ?_
      refine zs_istore_n (lo' := [(3, .int (nI (sm (fun p => if fa (sp_ct S i r) p = 0 then 0 else 1) (k0) + 1))), (6, .int (nI (fa (sp_ct S i r) k0) - 1)), (5, .int (nI k0)), (4, .int (nI (sm (fun p => fa (sp_ct S i r) p - 1) (k0)))), (0, .ref x), (1, .int (nI r)), (2, .int (nI i))]) hE dX7_pointsOf_37 rfl (by decide) rfl ?_
      refine zs_iload hE 3 dX7_pointsOf_38 rfl ?_
      refine zs_iload hE 1 dX7_pointsOf_40 rfl ?_
      refine zs_iconst (v := (-1)) hE dX7_pointsOf_42 (by decide) ?_
      refine zs_icmp_ne (tgt := 50) hE dX7_pointsOf_43 (by decide) (fun h7 => ?_) (fun h7 => ?_)
      · refine zs_iload hE 1 dX7_pointsOf_50 rfl ?_
        refine zs_top (v' := .int (nI (fa (sp_ct S i r) k0 - 1))) (by rw [nI_m2 (Nat.pos_of_ne_zero f0)]) ?_
        refine zs_iaddN hE dX7_pointsOf_52 ?_
        refine zs_istore (lo' := [(4, .int (nI (sm (fun p => fa (sp_ct S i r) p - 1) (k0) + (fa (sp_ct S i r) k0 - 1)))), (3, .int (nI (sm (fun p => if fa (sp_ct S i r) p = 0 then 0 else 1) (k0) + 1))), (6, .int (nI (fa (sp_ct S i r) k0) - 1)), (5, .int (nI k0)), (0, .ref x), (1, .int (nI r)), (2, .int (nI i))]) hE dX7_pointsOf_53 (by decide) rfl ?_
        refine zs_iincN (lo' := [(5, .int (nI (k0 + 1))), (4, .int (nI (sm (fun p => fa (sp_ct S i r) p - 1) (k0) + (fa (sp_ct S i r) k0 - 1)))), (3, .int (nI (sm (fun p => if fa (sp_ct S i r) p = 0 then 0 else 1) (k0) + 1))), (6, .int (nI (fa (sp_ct S i r) k0) - 1)), (0, .ref x), (1, .int (nI r)), (2, .int (nI i))]) hE 3 dX7_pointsOf_55 rfl (by decide) rfl ?_
        refine zs_goto (tgt := 8) hE dX7_pointsOf_58 (by decide) ?_
        refine zs_sub (lo' := [(5, .int (nI (k0 + 1))), (3, .int (nI (sm (fun p => if fa (sp_ct S i r) p = 0 then 0 else 1) (k0) + 1))), (4, .int (nI (sm (fun p => fa (sp_ct S i r) p - 1) (k0) + (fa (sp_ct S i r) k0 - 1)))), (0, .ref x), (1, .int (nI r)), (2, .int (nI i))]) [0, 2, 1, 4, 5, 6] rfl ?_
        refine zs_lo (lo' := [(5, .int (nI (k0 + 1))), (3, .int (nI (sm (fun p => if fa (sp_ct S i r) p = 0 then 0 else 1) (k0 + 1)))), (4, .int (nI (sm (fun p => fa (sp_ct S i r) p - 1) (k0 + 1)))), (0, .ref x), (1, .int (nI r)), (2, .int (nI i))]) (by rw [show sm (fun p => if fa (sp_ct S i r) p = 0 then 0 else 1) (k0 + 1) = sm (fun p => if fa (sp_ct S i r) p = 0 then 0 else 1) k0 + (if fa (sp_ct S i r) k0 = 0 then 0 else 1) from rfl, show sm (fun p => fa (sp_ct S i r) p - 1) (k0 + 1) = sm (fun p => fa (sp_ct S i r) p - 1) k0 + (fa (sp_ct S i r) k0 - 1) from rfl, if_neg f0]) ?_
        refine zs_sub (lo' := [(5, .int (nI (k0 + 1))), (3, .int (nI (sm (fun p => if fa (sp_ct S i r) p = 0 then 0 else 1) (k0 + 1)))), (4, .int (nI (sm (fun p => fa (sp_ct S i r) p - 1) (k0 + 1)))), (0, .ref x), (1, .int (nI r)), (2, .int (nI i))]) [0, 1, 2, 3, 4, 5] rfl ?_
        exact ih (k0 + 1) (by omega) (by omega)
      · exact absurd h7 h6
    · have f0 : fa (sp_ct S i r) k0 = 0 := (nI_m1 (by omega)).mp h6
      refine zs_iconst (v := (nI 0)) hE dX7_pointsOf_31 (by decide) ?_
      refine zs_goto (tgt := 36) hE dX7_pointsOf_32 (by decide) ?_
      refine zs_iaddN hE dX7_pointsOf_36 ?_
      refine zs_istore_n (lo' := [(3, .int (nI (sm (fun p => if fa (sp_ct S i r) p = 0 then 0 else 1) (k0) + 0))), (6, .int (nI (fa (sp_ct S i r) k0) - 1)), (5, .int (nI k0)), (4, .int (nI (sm (fun p => fa (sp_ct S i r) p - 1) (k0)))), (0, .ref x), (1, .int (nI r)), (2, .int (nI i))]) hE dX7_pointsOf_37 rfl (by decide) rfl ?_
      refine zs_iload hE 3 dX7_pointsOf_38 rfl ?_
      refine zs_iload hE 1 dX7_pointsOf_40 rfl ?_
      refine zs_iconst (v := (-1)) hE dX7_pointsOf_42 (by decide) ?_
      refine zs_icmp_ne (tgt := 50) hE dX7_pointsOf_43 (by decide) (fun h7 => ?_) (fun h7 => ?_)
      · exact absurd h6 h7
      · refine zs_iconst (v := (nI 0)) hE dX7_pointsOf_46 (by decide) ?_
        refine zs_goto (tgt := 52) hE dX7_pointsOf_47 (by decide) ?_
        refine zs_iaddN hE dX7_pointsOf_52 ?_
        refine zs_istore (lo' := [(4, .int (nI (sm (fun p => fa (sp_ct S i r) p - 1) (k0) + 0))), (3, .int (nI (sm (fun p => if fa (sp_ct S i r) p = 0 then 0 else 1) (k0) + 0))), (6, .int (nI (fa (sp_ct S i r) k0) - 1)), (5, .int (nI k0)), (0, .ref x), (1, .int (nI r)), (2, .int (nI i))]) hE dX7_pointsOf_53 (by decide) rfl ?_
        refine zs_iincN (lo' := [(5, .int (nI (k0 + 1))), (4, .int (nI (sm (fun p => fa (sp_ct S i r) p - 1) (k0) + 0))), (3, .int (nI (sm (fun p => if fa (sp_ct S i r) p = 0 then 0 else 1) (k0) + 0))), (6, .int (nI (fa (sp_ct S i r) k0) - 1)), (0, .ref x), (1, .int (nI r)), (2, .int (nI i))]) hE 3 dX7_pointsOf_55 rfl (by decide) rfl ?_
        refine zs_goto (tgt := 8) hE dX7_pointsOf_58 (by decide) ?_
        refine zs_sub (lo' := [(5, .int (nI (k0 + 1))), (3, .int (nI (sm (fun p => if fa (sp_ct S i r) p = 0 then 0 else 1) (k0) + 0))), (4, .int (nI (sm (fun p => fa (sp_ct S i r) p - 1) (k0) + 0))), (0, .ref x), (1, .int (nI r)), (2, .int (nI i))]) [0, 2, 1, 4, 5, 6] rfl ?_
        refine zs_lo (lo' := [(5, .int (nI (k0 + 1))), (3, .int (nI (sm (fun p => if fa (sp_ct S i r) p = 0 then 0 else 1) (k0 + 1)))), (4, .int (nI (sm (fun p => fa (sp_ct S i r) p - 1) (k0 + 1)))), (0, .ref x), (1, .int (nI r)), (2, .int (nI i))]) (by rw [show sm (fun p => if fa (sp_ct S i r) p = 0 then 0 else 1) (k0 + 1) = sm (fun p => if fa (sp_ct S i r) p = 0 then 0 else 1) k0 + (if fa (sp_ct S i r) k0 = 0 then 0 else 1) from rfl, show sm (fun p => fa (sp_ct S i r) p - 1) (k0 + 1) = sm (fun p => fa (sp_ct S i r) p - 1) k0 + (fa (sp_ct S i r) k0 - 1) from rfl, if_pos f0, f0]) ?_
        refine zs_sub (lo' := [(5, .int (nI (k0 + 1))), (3, .int (nI (sm (fun p => if fa (sp_ct S i r) p = 0 then 0 else 1) (k0 + 1)))), (4, .int (nI (sm (fun p => fa (sp_ct S i r) p - 1) (k0 + 1)))), (0, .ref x), (1, .int (nI r)), (2, .int (nI i))]) [0, 1, 2, 3, 4, 5] rfl ?_
        exact ih (k0 + 1) (by omega) (by omega)

set_option maxHeartbeats 4000000 in
set_option maxRecDepth 100000 in
theorem m_X7_points (D : va_G) (E : Nat → ClassId) (B : Nat) (l : Launch) (κ : Nat → Nat) (x : Nat) (ad sc : Nat → Nat) (ar : Nat → Nat → Int32) (S : sp_S) (y z : Int32) (hM : mi_ S sc ar) (hw : sp_wf S) : zs_Ct D E B l yX7_points cX7_points 3 (some .int) ({ frames := 3, cells := 0, slots := 0, locals := 76 } : Room) [.ref x, .int y, .int z] (fun H => md_O D E κ x ad sc ar H) (md_F κ) (mq_ D E κ x ad (o_points S y z)) := by
  refine zs_ct (by decide) (Nat.le_of_ble_eq_true rfl) (fun p e s m below meth c hE hr hin hp => ?_)
  refine zs_lo (lo' := [(0, .ref x), (1, .int y), (2, .int z)]) rfl ?_
  have hO := hp
  obtain ⟨t0, hx, t5, t6, t7, t8, t9, t10, t11, t12, t13, t14, t15, t16, t17, t18, t19, t20, r5, r6, r7, r8, r9, r10, r11, r12, r13, r14, r15, r16, r17, r18, r19, r20⟩ := id hO
  obtain ⟨wN, wP, wV, wA, wH, wZ, wF⟩ := id hw
  obtain ⟨n6, n40, n12, n8, n99⟩ := id wN
  obtain ⟨⟨mp0, mP⟩, ⟨mv0, mV⟩, ⟨mt0, mT⟩, mH, ⟨mz0, mZ⟩, mE⟩ := id hM
  refine zs_iload_n hE 1 dX7_points_0 rfl rfl ?_
  refine zs_callSR (av := [.int y]) (st := []) hE (m_X7_isRound D E B l y) rfl rfl sS_X7_141 (trivial) ⟨by decide, by decide⟩ ⟨by decide, by decide⟩ (Nat.le_of_ble_eq_true rfl) dX7_points_1 ?_
  refine zs_if_eqB (tgt := 28) hE dX7_points_4 (by decide) (fun h1 => ?_) (fun h1 => ?_)
  · refine zs_aload_n hE 0 dX7_points_28 rfl rfl ?_
    refine zs_iconst (v := (nI 1)) hE dX7_points_29 (by decide) ?_
    refine zs_callV (av := [.int (nI 1)]) (st := []) hE (m_X7_fails D E B l κ x ad sc ar 1) sV_X7_81 hx rfl rfl (hO) ⟨by decide, by decide⟩ ⟨by decide, by decide⟩ (fun q w9 => Or.inl w9) (Nat.le_of_ble_eq_true rfl) dX7_points_30 (fun v1 H1 hv1 hz1 hk1 => ?_)
    obtain ⟨rfl, cz, cO⟩ := hv1
    refine zs_widen (k' := 0) (n' := 0) (by decide) (by decide) ?_
    exact zs_iret hE hr (mq_mk (S' := S) (v := .null) (k := 1) (by rw [o_points, Classical.not_not.mp h1]; rfl) cz (fun w9 => by cases w9) cO (mi_4 hM)) (by decide) (by decide) dX7_points_33
  · obtain ⟨r, er⟩ : ∃ e, sp_i y 4 = some e := by cases z9 : sp_i y 4 with | none => exact absurd z9 h1 | some q9 => exact ⟨q9, rfl⟩
    have lr := (sp_i_lt er).1
    refine zs_lo (lo' := [(0, .ref x), (1, .int (nI r)), (2, .int z)]) (by rw [(sp_i_lt er).2]) ?_
    refine zs_aload_n hE 0 dX7_points_7 rfl rfl ?_
    refine zs_iload_n hE 2 dX7_points_8 rfl rfl ?_
    refine zs_callVR (av := [.int z]) (st := []) (b := x) hE (m_X7_isPiece D E B l κ x ad sc ar z (by omega)) rfl rfl sV_X7_96 hx rfl rfl (hO) ⟨by decide, by decide⟩ ⟨by decide, by decide⟩ (Nat.le_of_ble_eq_true rfl) dX7_points_9 ?_
    refine zs_if_eqB (tgt := 28) hE dX7_points_12 (by decide) (fun h2 => ?_) (fun h2 => ?_)
    · refine zs_aload_n hE 0 dX7_points_28 rfl rfl ?_
      refine zs_iconst (v := (nI 1)) hE dX7_points_29 (by decide) ?_
      refine zs_callV (av := [.int (nI 1)]) (st := []) hE (m_X7_fails D E B l κ x ad sc ar 1) sV_X7_81 hx rfl rfl (hO) ⟨by decide, by decide⟩ ⟨by decide, by decide⟩ (fun q w9 => Or.inl w9) (Nat.le_of_ble_eq_true rfl) dX7_points_30 (fun v2 H2 hv2 hz2 hk2 => ?_)
      obtain ⟨rfl, cz, cO⟩ := hv2
      refine zs_widen (k' := 0) (n' := 0) (by decide) (by decide) ?_
      exact zs_iret hE hr (mq_mk (S' := S) (v := .null) (k := 1) (by rw [o_points, er]; simp only []; rw [show sp_i z (sp_np S) = none by rw [← mp0]; exact Classical.not_not.mp h2]; rfl) cz (fun w9 => by cases w9) cO (mi_4 hM)) (by decide) (by decide) dX7_points_33
    · obtain ⟨i, ei⟩ : ∃ e, sp_i z (sp_np S) = some e := by cases z9 : sp_i z (sp_np S) with | none => (rw [mp0] at h2; exact absurd z9 h2) | some q9 => exact ⟨q9, rfl⟩
      have li := (sp_i_lt ei).1
      refine zs_lo (lo' := [(0, .ref x), (1, .int (nI r)), (2, .int (nI i))]) (by rw [(sp_i_lt ei).2]) ?_
      refine zs_aload_n hE 0 dX7_points_15 rfl rfl ?_
      refine zs_aload_n hE 0 dX7_points_16 rfl rfl ?_
      refine zs_iload_n hE 1 dX7_points_17 rfl rfl ?_
      refine zs_iload_n hE 2 dX7_points_18 rfl rfl ?_
      refine zs_callVR (av := [.int (nI r), .int (nI i)]) (st := [.ref x]) (b := x) hE (m_X7_pointsOf D E B l κ x ad sc ar S r i hM hw lr (by omega)) rfl rfl sV_X7_153 hx rfl rfl (hO) ⟨by decide, by decide⟩ ⟨by decide, by decide⟩ (Nat.le_of_ble_eq_true rfl) dX7_points_19 ?_
      refine zs_callV (av := [.int (nI (sp_pt (sp_ct S i r)))]) (st := []) hE (m_X7_tells D E B l κ x ad sc ar (nI (sp_pt (sp_ct S i r)))) sV_X7_93 hx rfl rfl (hO) ⟨by decide, by decide⟩ ⟨by decide, by decide⟩ (fun q w9 => Or.inl w9) (Nat.le_of_ble_eq_true rfl) dX7_points_22 (fun v3 H3 hv3 hz3 hk3 => ?_)
      obtain ⟨rfl, cz, cO⟩ := hv3
      refine zs_widen (k' := 0) (n' := 0) (by decide) (by decide) ?_
      refine zs_goto (tgt := 33) hE dX7_points_25 (by decide) ?_
      exact zs_iret hE hr (mq_mk (S' := S) (k := 0) (by rw [o_points, er]; simp only []; rw [ei]) cz (fun _ => rfl) cO (mi_4 hM)) (by decide) (by decide) dX7_points_33

theorem op_3 (S : sp_S) (i : Nat) : sp_pt (sp_ct S i 0) + sp_pt (sp_ct S i 1) + sp_pt (sp_ct S i 2) = sp_op S i := by
  show _ = 0 + sp_pt (sp_ct S i 0) + sp_pt (sp_ct S i 1) + sp_pt (sp_ct S i 2)
  rw [Nat.zero_add]
theorem pt_b {S : sp_S} (h : sw_H S) (i r : Nat) : sp_pt (sp_ct S i r) ≤ 100 := by
  have := (sc_b (sp_ctb h i r) 5 (Nat.le_refl _)).1
  unfold sp_pt
  split <;> omega
theorem op_b {S : sp_S} (h : sw_H S) (i : Nat) : sp_op S i ≤ 300 := by
  rw [← op_3]
  have a := pt_b h i 0
  have b := pt_b h i 1
  have c := pt_b h i 2
  omega

set_option maxHeartbeats 4000000 in
set_option maxRecDepth 100000 in
theorem m_X7_openOf (D : va_G) (E : Nat → ClassId) (B : Nat) (l : Launch) (κ : Nat → Nat) (x : Nat) (ad sc : Nat → Nat) (ar : Nat → Nat → Int32) (S : sp_S) (i : Nat) (hM : mi_ S sc ar) (hw : sp_wf S) (hi6 : i < 6) : zs_Ct D E B l yX7_openOf cX7_openOf 2 (some .int) ({ frames := 3, cells := 0, slots := 0, locals := 76 } : Room) [.ref x, .int (nI i)] (fun H => md_O D E κ x ad sc ar H) (zs_N) (zs_ro (.int (nI (sp_op S i)))) := by
  refine zs_ct (by decide) (Nat.le_of_ble_eq_true rfl) (fun p e s m below meth c hE hr hin hp => ?_)
  refine zs_lo (lo' := [(0, .ref x), (1, .int (nI i))]) rfl ?_
  have hO := hp
  obtain ⟨t0, hx, t5, t6, t7, t8, t9, t10, t11, t12, t13, t14, t15, t16, t17, t18, t19, t20, r5, r6, r7, r8, r9, r10, r11, r12, r13, r14, r15, r16, r17, r18, r19, r20⟩ := id hO
  obtain ⟨wN, wP, wV, wA, wH, wZ, wF⟩ := id hw
  obtain ⟨n6, n40, n12, n8, n99⟩ := id wN
  obtain ⟨⟨mp0, mP⟩, ⟨mv0, mV⟩, ⟨mt0, mT⟩, mH, ⟨mz0, mZ⟩, mE⟩ := id hM
  refine zs_aload_n hE 0 dX7_openOf_0 rfl rfl ?_
  refine zs_iconst (v := (nI 0)) hE dX7_openOf_1 (by decide) ?_
  refine zs_iload_n hE 1 dX7_openOf_2 rfl rfl ?_
  refine zs_callVR (av := [.int (nI 0), .int (nI i)]) (st := []) (b := x) hE (m_X7_pointsOf D E B l κ x ad sc ar S 0 i hM hw (by decide) hi6) rfl rfl sV_X7_153 hx rfl rfl (hO) ⟨by decide, by decide⟩ ⟨by decide, by decide⟩ (Nat.le_of_ble_eq_true rfl) dX7_openOf_3 ?_
  refine zs_aload_n hE 0 dX7_openOf_6 rfl rfl ?_
  refine zs_iconst (v := (nI 1)) hE dX7_openOf_7 (by decide) ?_
  refine zs_iload_n hE 1 dX7_openOf_8 rfl rfl ?_
  refine zs_callVR (av := [.int (nI 1), .int (nI i)]) (st := [.int (nI (sp_pt (sp_ct S i 0)))]) (b := x) hE (m_X7_pointsOf D E B l κ x ad sc ar S 1 i hM hw (by decide) hi6) rfl rfl sV_X7_153 hx rfl rfl (hO) ⟨by decide, by decide⟩ ⟨by decide, by decide⟩ (Nat.le_of_ble_eq_true rfl) dX7_openOf_9 ?_
  refine zs_iaddN hE dX7_openOf_12 ?_
  refine zs_aload_n hE 0 dX7_openOf_13 rfl rfl ?_
  refine zs_iconst (v := (nI 2)) hE dX7_openOf_14 (by decide) ?_
  refine zs_iload_n hE 1 dX7_openOf_15 rfl rfl ?_
  refine zs_callVR (av := [.int (nI 2), .int (nI i)]) (st := [.int (nI (sp_pt (sp_ct S i 0) + (sp_pt (sp_ct S i 1))))]) (b := x) hE (m_X7_pointsOf D E B l κ x ad sc ar S 2 i hM hw (by decide) hi6) rfl rfl sV_X7_153 hx rfl rfl (hO) ⟨by decide, by decide⟩ ⟨by decide, by decide⟩ (Nat.le_of_ble_eq_true rfl) dX7_openOf_16 ?_
  refine zs_iaddN hE dX7_openOf_19 ?_
  refine zs_top (v' := .int (nI (sp_op S i))) (by rw [op_3]) ?_
  exact zs_iret hE hr (⟨rfl, rfl⟩) (by decide) (by decide) dX7_openOf_20


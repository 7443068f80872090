/-! the model: isAbove, got, doubts -/
set_option maxHeartbeats 4000000 in
set_option maxRecDepth 100000 in
theorem m_X7_isAbove (D : va_G) (E : Nat → ClassId) (B : Nat) (l : Launch) (κ : Nat → Nat) (x : Nat) (ad sc : Nat → Nat) (ar : Nat → Nat → Int32) (S : sp_S) (y z : Int32) (hM : mi_ S sc ar) (hw : sp_wf S) : zs_Ct D E B l yX7_isAbove cX7_isAbove 3 (some .boolean) ({ frames := 2, cells := 0, slots := 0, locals := 43 } : Room) [.ref x, .int y, .int z] (fun H => md_O D E κ x ad sc ar H) (md_F κ) (mq_ D E κ x ad (o_isAbove S y z)) := by
  refine zs_ct (by decide) (Nat.le_of_ble_eq_true rfl) (fun p e s m below meth c hE hr hin hp => ?_)
  refine zs_lo (lo' := [(0, .ref x), (1, .int y), (2, .int z)]) rfl ?_
  have hO := hp
  obtain ⟨t0, hx, t5, t6, t7, t8, t9, t10, t11, t12, t13, t14, t15, t16, t17, t18, t19, t20, r5, r6, r7, r8, r9, r10, r11, r12, r13, r14, r15, r16, r17, r18, r19, r20⟩ := id hO
  obtain ⟨wN, wP, wV, wA, wH, wZ, wF⟩ := id hw
  obtain ⟨n6, n40, n12, n8, n99⟩ := id wN
  obtain ⟨⟨mp0, mP⟩, ⟨mv0, mV⟩, ⟨mt0, mT⟩, mH, ⟨mz0, mZ⟩, mE⟩ := id hM
  refine zs_aload_n hE 0 dX7_isAbove_0 rfl rfl ?_
  refine zs_aload_n hE 0 dX7_isAbove_1 rfl rfl ?_
  refine zs_iload_n hE 1 dX7_isAbove_2 rfl rfl ?_
  refine zs_callVR (av := [.int y]) (st := [.ref x]) (b := x) hE (m_X7_isVersion D E B l κ x ad sc ar y (by omega)) rfl rfl sV_X7_100 hx rfl rfl (hO) ⟨by decide, by decide⟩ ⟨by decide, by decide⟩ (Nat.le_of_ble_eq_true rfl) dX7_isAbove_3 ?_
  refine zs_if_eqB (tgt := 21) hE dX7_isAbove_6 (by decide) (fun h1 => ?_) (fun h1 => ?_)
  · refine zs_iconst (v := (nI 1)) hE dX7_isAbove_21 (by decide) ?_
    refine zs_put (v := .int (nI 1)) hE fl_X7_22 hx (Or.inl (show 500 ≤ κ x by omega)) (rfl) (rfl) (Nat.le_of_ble_eq_true rfl) dX7_isAbove_22 (fun H1 hp1 hz1 ho1 => ?_)
    have r5 := zs_pt.kept r5 (ho1 _ (cs_ne t5 t0 (by decide)))
    have r6 := zs_pt.kept r6 (ho1 _ (cs_ne t6 t0 (by decide)))
    have r7 := zs_pt.kept r7 (ho1 _ (cs_ne t7 t0 (by decide)))
    have r8 := zs_pt.kept r8 (ho1 _ (cs_ne t8 t0 (by decide)))
    have r9 := zs_pt.kept r9 (ho1 _ (cs_ne t9 t0 (by decide)))
    have r10 := zs_pt.kept r10 (ho1 _ (cs_ne t10 t0 (by decide)))
    have r11 := zs_pt.kept r11 (ho1 _ (cs_ne t11 t0 (by decide)))
    have r12 := zs_pt.kept r12 (ho1 _ (cs_ne t12 t0 (by decide)))
    have r13 := zs_pt.kept r13 (ho1 _ (cs_ne t13 t0 (by decide)))
    have r14 := zs_pt.kept r14 (ho1 _ (cs_ne t14 t0 (by decide)))
    have r15 := zs_pt.kept r15 (ho1 _ (cs_ne t15 t0 (by decide)))
    have r16 := zs_pt.kept r16 (ho1 _ (cs_ne t16 t0 (by decide)))
    have r17 := zs_pt.kept r17 (ho1 _ (cs_ne t17 t0 (by decide)))
    have r18 := zs_pt.kept r18 (ho1 _ (cs_ne t18 t0 (by decide)))
    have r19 := zs_pt.kept r19 (ho1 _ (cs_ne t19 t0 (by decide)))
    have r20 := zs_pt.kept r20 (ho1 _ (cs_ne t20 t0 (by decide)))
    have hp1 : zs_pt D x (.inr (7, [.int (nI (sc 0)), .int (nI (sc 1)), .int (nI (sc 2)), .int (nI (sc 3)), .int (nI 1), .ref (ad 5), .ref (ad 6), .ref (ad 7), .ref (ad 8), .ref (ad 9), .ref (ad 10), .ref (ad 11), .ref (ad 12), .ref (ad 13), .ref (ad 14), .ref (ad 15), .ref (ad 16), .ref (ad 17), .ref (ad 18), .ref (ad 19), .ref (ad 20)])) H1 := hp1
    have hO4 : md_O D E κ x ad (va_up sc 4 1) ar H1 := ⟨t0, hp1, t5, t6, t7, t8, t9, t10, t11, t12, t13, t14, t15, t16, t17, t18, t19, t20, r5, r6, r7, r8, r9, r10, r11, r12, r13, r14, r15, r16, r17, r18, r19, r20⟩
    refine zs_aload_n hE 0 dX7_isAbove_25 rfl rfl ?_
    refine zs_get hE fl_X7_22 hp1 rfl dX7_isAbove_26 ?_
    refine zs_if_neN (tgt := 45) hE (by decide) dX7_isAbove_29 (by decide) (fun _ => ?_) (fun w9 => absurd w9 (by decide))
    refine zs_iconst (v := (nI 0)) hE dX7_isAbove_45 (by decide) ?_
    exact zs_zret hE hr (rfl) (mq_mk (S' := S) (v := .null) (k := 1) (by rw [o_isAbove, show sp_i y (sp_nv S) = none by rw [← mv0]; exact Classical.not_not.mp h1]; rfl) (by omega) (fun w9 => by cases w9) hO4 (mi_4 hM)) (by decide) (by decide) dX7_isAbove_46
  · obtain ⟨v, ev⟩ : ∃ e, sp_i y (sp_nv S) = some e := by cases z9 : sp_i y (sp_nv S) with | none => (rw [mv0] at h1; exact absurd z9 h1) | some j => exact ⟨j, rfl⟩
    have lv := (sp_i_lt ev).1
    refine zs_lo (lo' := [(0, .ref x), (1, .int (nI v)), (2, .int z)]) (by rw [(sp_i_lt ev).2]) ?_
    refine zs_aload_n hE 0 dX7_isAbove_9 rfl rfl ?_
    refine zs_iload_n hE 2 dX7_isAbove_10 rfl rfl ?_
    refine zs_callVR (av := [.int z]) (st := [.ref x]) (b := x) hE (m_X7_isVersion D E B l κ x ad sc ar z (by omega)) rfl rfl sV_X7_100 hx rfl rfl (hO) ⟨by decide, by decide⟩ ⟨by decide, by decide⟩ (Nat.le_of_ble_eq_true rfl) dX7_isAbove_11 ?_
    refine zs_if_eqB (tgt := 21) hE dX7_isAbove_14 (by decide) (fun h2 => ?_) (fun h2 => ?_)
    · refine zs_iconst (v := (nI 1)) hE dX7_isAbove_21 (by decide) ?_
      refine zs_put (v := .int (nI 1)) hE fl_X7_22 hx (Or.inl (show 500 ≤ κ x by omega)) (rfl) (rfl) (Nat.le_of_ble_eq_true rfl) dX7_isAbove_22 (fun H2 hp2 hz2 ho2 => ?_)
      have r5 := zs_pt.kept r5 (ho2 _ (cs_ne t5 t0 (by decide)))
      have r6 := zs_pt.kept r6 (ho2 _ (cs_ne t6 t0 (by decide)))
      have r7 := zs_pt.kept r7 (ho2 _ (cs_ne t7 t0 (by decide)))
      have r8 := zs_pt.kept r8 (ho2 _ (cs_ne t8 t0 (by decide)))
      have r9 := zs_pt.kept r9 (ho2 _ (cs_ne t9 t0 (by decide)))
      have r10 := zs_pt.kept r10 (ho2 _ (cs_ne t10 t0 (by decide)))
      have r11 := zs_pt.kept r11 (ho2 _ (cs_ne t11 t0 (by decide)))
      have r12 := zs_pt.kept r12 (ho2 _ (cs_ne t12 t0 (by decide)))
      have r13 := zs_pt.kept r13 (ho2 _ (cs_ne t13 t0 (by decide)))
      have r14 := zs_pt.kept r14 (ho2 _ (cs_ne t14 t0 (by decide)))
      have r15 := zs_pt.kept r15 (ho2 _ (cs_ne t15 t0 (by decide)))
      have r16 := zs_pt.kept r16 (ho2 _ (cs_ne t16 t0 (by decide)))
      have r17 := zs_pt.kept r17 (ho2 _ (cs_ne t17 t0 (by decide)))
      have r18 := zs_pt.kept r18 (ho2 _ (cs_ne t18 t0 (by decide)))
      have r19 := zs_pt.kept r19 (ho2 _ (cs_ne t19 t0 (by decide)))
      have r20 := zs_pt.kept r20 (ho2 _ (cs_ne t20 t0 (by decide)))
      have hp2 : zs_pt D x (.inr (7, [.int (nI (sc 0)), .int (nI (sc 1)), .int (nI (sc 2)), .int (nI (sc 3)), .int (nI 1), .ref (ad 5), .ref (ad 6), .ref (ad 7), .ref (ad 8), .ref (ad 9), .ref (ad 10), .ref (ad 11), .ref (ad 12), .ref (ad 13), .ref (ad 14), .ref (ad 15), .ref (ad 16), .ref (ad 17), .ref (ad 18), .ref (ad 19), .ref (ad 20)])) H2 := hp2
      have hO4 : md_O D E κ x ad (va_up sc 4 1) ar H2 := ⟨t0, hp2, t5, t6, t7, t8, t9, t10, t11, t12, t13, t14, t15, t16, t17, t18, t19, t20, r5, r6, r7, r8, r9, r10, r11, r12, r13, r14, r15, r16, r17, r18, r19, r20⟩
      refine zs_aload_n hE 0 dX7_isAbove_25 rfl rfl ?_
      refine zs_get hE fl_X7_22 hp2 rfl dX7_isAbove_26 ?_
      refine zs_if_neN (tgt := 45) hE (by decide) dX7_isAbove_29 (by decide) (fun _ => ?_) (fun w9 => absurd w9 (by decide))
      refine zs_iconst (v := (nI 0)) hE dX7_isAbove_45 (by decide) ?_
      exact zs_zret hE hr (rfl) (mq_mk (S' := S) (v := .null) (k := 1) (by rw [o_isAbove, ev]; simp only []; rw [show sp_i z (sp_nv S) = none by rw [← mv0]; exact Classical.not_not.mp h2]; rfl) (by omega) (fun w9 => by cases w9) hO4 (mi_4 hM)) (by decide) (by decide) dX7_isAbove_46
    · obtain ⟨w, ew⟩ : ∃ e, sp_i z (sp_nv S) = some e := by cases z9 : sp_i z (sp_nv S) with | none => (rw [mv0] at h2; exact absurd z9 h2) | some j => exact ⟨j, rfl⟩
      have lw := (sp_i_lt ew).1
      refine zs_lo (lo' := [(0, .ref x), (1, .int (nI v)), (2, .int (nI w))]) (by rw [(sp_i_lt ew).2]) ?_
      refine zs_iconst (v := (nI 0)) hE dX7_isAbove_17 (by decide) ?_
      refine zs_goto (tgt := 22) hE dX7_isAbove_18 (by decide) ?_
      refine zs_put (v := .int (nI 0)) hE fl_X7_22 hx (Or.inl (show 500 ≤ κ x by omega)) (rfl) (rfl) (Nat.le_of_ble_eq_true rfl) dX7_isAbove_22 (fun H3 hp3 hz3 ho3 => ?_)
      have r5 := zs_pt.kept r5 (ho3 _ (cs_ne t5 t0 (by decide)))
      have r6 := zs_pt.kept r6 (ho3 _ (cs_ne t6 t0 (by decide)))
      have r7 := zs_pt.kept r7 (ho3 _ (cs_ne t7 t0 (by decide)))
      have r8 := zs_pt.kept r8 (ho3 _ (cs_ne t8 t0 (by decide)))
      have r9 := zs_pt.kept r9 (ho3 _ (cs_ne t9 t0 (by decide)))
      have r10 := zs_pt.kept r10 (ho3 _ (cs_ne t10 t0 (by decide)))
      have r11 := zs_pt.kept r11 (ho3 _ (cs_ne t11 t0 (by decide)))
      have r12 := zs_pt.kept r12 (ho3 _ (cs_ne t12 t0 (by decide)))
      have r13 := zs_pt.kept r13 (ho3 _ (cs_ne t13 t0 (by decide)))
      have r14 := zs_pt.kept r14 (ho3 _ (cs_ne t14 t0 (by decide)))
      have r15 := zs_pt.kept r15 (ho3 _ (cs_ne t15 t0 (by decide)))
      have r16 := zs_pt.kept r16 (ho3 _ (cs_ne t16 t0 (by decide)))
      have r17 := zs_pt.kept r17 (ho3 _ (cs_ne t17 t0 (by decide)))
      have r18 := zs_pt.kept r18 (ho3 _ (cs_ne t18 t0 (by decide)))
      have r19 := zs_pt.kept r19 (ho3 _ (cs_ne t19 t0 (by decide)))
      have r20 := zs_pt.kept r20 (ho3 _ (cs_ne t20 t0 (by decide)))
      have hp3 : zs_pt D x (.inr (7, [.int (nI (sc 0)), .int (nI (sc 1)), .int (nI (sc 2)), .int (nI (sc 3)), .int (nI 0), .ref (ad 5), .ref (ad 6), .ref (ad 7), .ref (ad 8), .ref (ad 9), .ref (ad 10), .ref (ad 11), .ref (ad 12), .ref (ad 13), .ref (ad 14), .ref (ad 15), .ref (ad 16), .ref (ad 17), .ref (ad 18), .ref (ad 19), .ref (ad 20)])) H3 := hp3
      have hO4 : md_O D E κ x ad (va_up sc 4 0) ar H3 := ⟨t0, hp3, t5, t6, t7, t8, t9, t10, t11, t12, t13, t14, t15, t16, t17, t18, t19, t20, r5, r6, r7, r8, r9, r10, r11, r12, r13, r14, r15, r16, r17, r18, r19, r20⟩
      refine zs_aload_n hE 0 dX7_isAbove_25 rfl rfl ?_
      refine zs_get hE fl_X7_22 hp3 rfl dX7_isAbove_26 ?_
      refine zs_if_neN (tgt := 45) hE (by decide) dX7_isAbove_29 (by decide) (fun w9 => absurd w9 (by decide)) (fun _ => ?_)
      refine zs_aload_n hE 0 dX7_isAbove_32 rfl rfl ?_
      refine zs_iload_n hE 1 dX7_isAbove_33 rfl rfl ?_
      refine zs_iload_n hE 2 dX7_isAbove_34 rfl rfl ?_
      refine zs_callV (av := [.int (nI v), .int (nI w)]) (st := []) hE (m_X7_isAboveOf D E B l κ x ad (va_up sc 4 0) ar S v w (mi_4 hM) hw lv lw) sV_X7_116 hp3 rfl rfl (hO4) ⟨by decide, by decide⟩ ⟨by decide, by decide⟩ (fun q w9 => Or.inl w9) (Nat.le_of_ble_eq_true rfl) dX7_isAbove_35 (fun v4 H4 hv4 hz4 hk4 => ?_)
      obtain ⟨rfl, bz, f, bO⟩ := hv4
      refine zs_widen (k' := 0) (n' := 0) (by decide) (by decide) ?_
      refine zs_if_eqB (tgt := 45) hE dX7_isAbove_38 (by decide) (fun h3 => ?_) (fun h3 => ?_)
      · refine zs_iconst (v := (nI 0)) hE dX7_isAbove_45 (by decide) ?_
        refine zs_top (v' := .int (zs_b ((sp_am S w).testBit v = true))) (vb0 h3) ?_
        exact zs_zret hE hr (zs_bnar _) (mq_mk (S' := S) (k := 0) (by rw [o_isAbove, ev]; simp only []; rw [ew]) (by omega) (fun _ => rfl) bO (mi_17 (mi_4 hM))) (by decide) (by decide) dX7_isAbove_46
      · refine zs_iconst (v := (nI 1)) hE dX7_isAbove_41 (by decide) ?_
        refine zs_goto (tgt := 46) hE dX7_isAbove_42 (by decide) ?_
        refine zs_top (v' := .int (zs_b ((sp_am S w).testBit v = true))) (vb1 h3) ?_
        exact zs_zret hE hr (zs_bnar _) (mq_mk (S' := S) (k := 0) (by rw [o_isAbove, ev]; simp only []; rw [ew]) (by omega) (fun _ => rfl) bO (mi_17 (mi_4 hM))) (by decide) (by decide) dX7_isAbove_46

set_option maxHeartbeats 4000000 in
set_option maxRecDepth 100000 in
theorem m_X7_got (D : va_G) (E : Nat → ClassId) (B : Nat) (l : Launch) (κ : Nat → Nat) (x : Nat) (ad sc : Nat → Nat) (ar : Nat → Nat → Int32) (S : sp_S) (w : Int32) (hM : mi_ S sc ar) (hw : sp_wf S) : zs_Ct D E B l yX7_got cX7_got 4 (some .int) ({ frames := 1, cells := 0, slots := 0, locals := 22 } : Room) [.ref x, .int w] (fun H => md_O D E κ x ad sc ar H) (md_F κ) (mq_ D E κ x ad (o_got S w)) := by
  refine zs_ct (by decide) (Nat.le_of_ble_eq_true rfl) (fun p e s m below meth c hE hr hin hp => ?_)
  refine zs_lo (lo' := [(0, .ref x), (1, .int w)]) rfl ?_
  have hO := hp
  obtain ⟨t0, hx, t5, t6, t7, t8, t9, t10, t11, t12, t13, t14, t15, t16, t17, t18, t19, t20, r5, r6, r7, r8, r9, r10, r11, r12, r13, r14, r15, r16, r17, r18, r19, r20⟩ := id hO
  obtain ⟨wN, wP, wV, wA, wH, wZ, wF⟩ := id hw
  obtain ⟨n6, n40, n12, n8, n99⟩ := id wN
  obtain ⟨⟨mp0, mP⟩, ⟨mv0, mV⟩, ⟨mt0, mT⟩, mH, ⟨mz0, mZ⟩, mE⟩ := id hM
  refine zs_iload_n hE 1 dX7_got_0 rfl rfl ?_
  refine zs_iconst (v := (nI 0)) hE dX7_got_1 (by decide) ?_
  refine zs_iconst (v := (nI 5)) hE dX7_got_2 (by decide) ?_
  refine zs_callSR (av := [.int w, .int (nI 0), .int (nI 5)]) (st := []) hE (m_X7_in D E B l w (nI 0) (nI 5)) rfl rfl sS_X7_77 (trivial) ⟨by decide, by decide⟩ ⟨by decide, by decide⟩ (Nat.le_of_ble_eq_true rfl) dX7_got_3 ?_
  refine zs_top (v' := .int (zs_b (sp_i w 6 ≠ none))) (by rw [← zs_bc (in_i (y := w) (n := 6) (by decide))]; rfl) ?_
  have h2k := True.intro
  refine zs_if_neB (tgt := 15) hE dX7_got_6 (by decide) (fun h2 => ?_) (fun h2 => ?_)
  · obtain ⟨ed, eed⟩ : ∃ e, sp_i w 6 = some e := by cases w : sp_i w 6 with | none => exact absurd w h2 | some j => exact ⟨j, rfl⟩
    obtain ⟨edl, rfl⟩ := sp_i_lt eed
    refine zs_iconst (v := (nI 0)) hE dX7_got_15 (by decide) ?_
    refine zs_istore_n (lo' := [(2, .int (nI 0)), (0, .ref x), (1, .int (nI ed))]) hE dX7_got_16 rfl (by decide) rfl ?_
    refine zs_iconst (v := (nI 0)) hE dX7_got_17 (by decide) ?_
    refine zs_istore_n (lo' := [(3, .int (nI 0)), (2, .int (nI 0)), (0, .ref x), (1, .int (nI ed))]) hE dX7_got_18 rfl (by decide) rfl ?_
    refine zs_sub (lo' := [(3, .int (nI 0)), (2, .int (nI 0)), (0, .ref x), (1, .int (nI ed))]) [0, 1, 2, 3] rfl ?_
    refine zs_ind1 (Hs := fun (z0 : Nat) => s.heap) (ks := fun (z0 : Nat) => 0) (ns := fun (z0 : Nat) => 0) (los := fun (z0 : Nat) => [(3, .int (nI z0)), (2, .int (nI (sm (fun z => sp_zs S z ed) z0))), (0, .ref x), (1, .int (nI ed))]) (I := fun (z0 : Nat) => z0 ≤ sp_nz S) (μ := fun (z0 : Nat) => sp_nz S - z0) 0 (Nat.zero_le _) (fun z0 hi ih => ?_)
    try dsimp only at hi ih ⊢
    refine zs_iload_n hE 0 dX7_got_19 rfl rfl ?_
    refine zs_aload_n hE 2 dX7_got_20 rfl rfl ?_
    refine zs_get hE fl_X7_19 hx rfl dX7_got_21 ?_
    refine zs_icmp_geN (tgt := 47) hE (by omega) (by omega) dX7_got_24 (by decide) (fun h5 => ?_) (fun h => ?_)
    · obtain rfl : z0 = sp_nz S := by omega
      refine zs_aload_n hE 2 dX7_got_47 rfl rfl ?_
      refine zs_iload_n hE 1 dX7_got_48 rfl rfl ?_
      refine zs_callV (av := [.int (nI (sm (fun z => sp_zs S z ed) (sp_nz S)))]) (st := []) hE (m_X7_tells D E B l κ x ad sc ar (nI (sm (fun z => sp_zs S z ed) (sp_nz S)))) sV_X7_93 hx rfl rfl (hO) ⟨by decide, by decide⟩ ⟨by decide, by decide⟩ (fun q w9 => Or.inl w9) (Nat.le_of_ble_eq_true rfl) dX7_got_49 (fun v1 H1 hv1 hz1 hk1 => ?_)
      obtain ⟨rfl, cz, cO⟩ := hv1
      refine zs_widen (k' := 0) (n' := 0) (by decide) (by decide) ?_
      exact zs_iret hE hr (mq_mk (S' := S) (k := 0) (by rw [o_got, eed]) cz (fun _ => rfl) cO (mi_4 hM)) (by decide) (by decide) dX7_got_52
    · have lz : z0 < sp_nz S := by omega
      refine zs_iload_n hE 1 dX7_got_27 rfl rfl ?_
      refine zs_aload_n hE 2 dX7_got_28 rfl rfl ?_
      refine zs_get hE fl_X7_74 hx rfl dX7_got_29 ?_
      refine zs_bipush (v := (nI 6)) hE dX7_got_32 (by decide) ?_
      refine zs_iload_n hE 0 dX7_got_34 rfl rfl ?_
      refine zs_imulN hE dX7_got_35 ?_
      refine zs_iload_n hE 3 dX7_got_36 rfl rfl ?_
      refine zs_iaddN hE dX7_got_37 ?_
      refine zs_iald hE r20 (by omega) (by decide) dX7_got_38 ?_
      refine zs_top (v' := .int (nI (sp_zs S z0 ed))) (by rw [(mZ z0 lz).2.2 ed edl]) ?_
      refine zs_iaddN hE dX7_got_39 ?_
      refine zs_istore_n (lo' := [(2, .int (nI (sm (fun z => sp_zs S z ed) z0 + (sp_zs S z0 ed)))), (3, .int (nI z0)), (0, .ref x), (1, .int (nI ed))]) hE dX7_got_40 rfl (by decide) rfl ?_
      refine zs_iincN (lo' := [(3, .int (nI (z0 + 1))), (2, .int (nI (sm (fun z => sp_zs S z ed) z0 + (sp_zs S z0 ed)))), (0, .ref x), (1, .int (nI ed))]) hE 1 dX7_got_41 rfl (by decide) rfl ?_
      refine zs_goto (tgt := 19) hE dX7_got_44 (by decide) ?_
      refine zs_sub (lo' := [(3, .int (nI (z0 + 1))), (2, .int (nI (sm (fun z => sp_zs S z ed) z0 + (sp_zs S z0 ed)))), (0, .ref x), (1, .int (nI ed))]) [0, 1, 2, 3] rfl ?_
      exact ih (z0 + 1) (by omega) (by omega)
  · refine zs_aload_n hE 0 dX7_got_9 rfl rfl ?_
    refine zs_iconst (v := (nI 1)) hE dX7_got_10 (by decide) ?_
    refine zs_callV (av := [.int (nI 1)]) (st := []) hE (m_X7_fails D E B l κ x ad sc ar 1) sV_X7_81 hx rfl rfl (hO) ⟨by decide, by decide⟩ ⟨by decide, by decide⟩ (fun q w9 => Or.inl w9) (Nat.le_of_ble_eq_true rfl) dX7_got_11 (fun v2 H2 hv2 hz2 hk2 => ?_)
    obtain ⟨rfl, cz, cO⟩ := hv2
    refine zs_widen (k' := 0) (n' := 0) (by decide) (by decide) ?_
    exact zs_iret hE hr (mq_mk (S' := S) (v := .null) (k := 1) (by rw [o_got, Classical.not_not.mp h2]; rfl) cz (fun w9 => by cases w9) cO (mi_4 hM)) (by decide) (by decide) dX7_got_14

set_option maxHeartbeats 4000000 in
set_option maxRecDepth 100000 in
theorem m_X7_doubts (D : va_G) (E : Nat → ClassId) (B : Nat) (l : Launch) (κ : Nat → Nat) (x : Nat) (ad sc : Nat → Nat) (ar : Nat → Nat → Int32) (S : sp_S) (y : Int32) (hM : mi_ S sc ar) (hw : sp_wf S) : zs_Ct D E B l yX7_doubts cX7_doubts 4 (some .int) ({ frames := 2, cells := 0, slots := 0, locals := 43 } : Room) [.ref x, .int y] (fun H => md_O D E κ x ad sc ar H) (md_F κ) (mq_ D E κ x ad (o_doubts S y)) := by
  refine zs_ct (by decide) (Nat.le_of_ble_eq_true rfl) (fun p e s m below meth c hE hr hin hp => ?_)
  refine zs_lo (lo' := [(0, .ref x), (1, .int y)]) rfl ?_
  have hO := hp
  obtain ⟨t0, hx, t5, t6, t7, t8, t9, t10, t11, t12, t13, t14, t15, t16, t17, t18, t19, t20, r5, r6, r7, r8, r9, r10, r11, r12, r13, r14, r15, r16, r17, r18, r19, r20⟩ := id hO
  obtain ⟨wN, wP, wV, wA, wH, wZ, wF⟩ := id hw
  obtain ⟨n6, n40, n12, n8, n99⟩ := id wN
  obtain ⟨⟨mp0, mP⟩, ⟨mv0, mV⟩, ⟨mt0, mT⟩, mH, ⟨mz0, mZ⟩, mE⟩ := id hM
  refine zs_aload_n hE 0 dX7_doubts_0 rfl rfl ?_
  refine zs_iload_n hE 1 dX7_doubts_1 rfl rfl ?_
  refine zs_callVR (av := [.int y]) (st := []) (b := x) hE (m_X7_isVersion D E B l κ x ad sc ar y (by omega)) rfl rfl sV_X7_100 hx rfl rfl (hO) ⟨by decide, by decide⟩ ⟨by decide, by decide⟩ (Nat.le_of_ble_eq_true rfl) dX7_doubts_2 ?_
  refine zs_if_neB (tgt := 14) hE dX7_doubts_5 (by decide) (fun h1 => ?_) (fun h1 => ?_)
  · obtain ⟨v, ev⟩ : ∃ e, sp_i y (sp_nv S) = some e := by cases z9 : sp_i y (sp_nv S) with | none => (rw [mv0] at h1; exact absurd z9 h1) | some j => exact ⟨j, rfl⟩
    have lv := (sp_i_lt ev).1
    refine zs_lo (lo' := [(0, .ref x), (1, .int (nI v))]) (by rw [(sp_i_lt ev).2]) ?_
    have vwl := (wV v lv).1
    have szl := sz_le wP vwl
    obtain ⟨-, b8, -, p4, -⟩ := wP.1 _ vwl
    refine zs_iconst (v := (nI 0)) hE dX7_doubts_14 (by decide) ?_
    refine zs_istore_n (lo' := [(2, .int (nI 0)), (0, .ref x), (1, .int (nI v))]) hE dX7_doubts_15 rfl (by decide) rfl ?_
    refine zs_iconst (v := (nI 0)) hE dX7_doubts_16 (by decide) ?_
    refine zs_istore_n (lo' := [(3, .int (nI 0)), (2, .int (nI 0)), (0, .ref x), (1, .int (nI v))]) hE dX7_doubts_17 rfl (by decide) rfl ?_
    refine zs_sub (lo' := [(3, .int (nI 0)), (2, .int (nI 0)), (0, .ref x), (1, .int (nI v))]) [0, 1, 2, 3] rfl ?_
    refine zs_ind1 (Hs := fun (k0 : Nat) => s.heap) (ks := fun (k0 : Nat) => 0) (ns := fun (k0 : Nat) => 0) (los := fun (k0 : Nat) => [(3, .int (nI k0)), (2, .int (nI (sm (fun k => if 1 < (sp_sv S v k).length then 1 else 0) (k0)))), (0, .ref x), (1, .int (nI v))]) (I := fun (k0 : Nat) => k0 ≤ sp_ba S (sp_vp S v) * sp_pa S (sp_vp S v)) (μ := fun (k0 : Nat) => sp_ba S (sp_vp S v) * sp_pa S (sp_vp S v) - k0) 0 (Nat.zero_le _) (fun k0 hi ih => ?_)
    try dsimp only at hi ih ⊢
    refine zs_iload_n hE 0 dX7_doubts_18 rfl rfl ?_
    refine zs_aload_n hE 2 dX7_doubts_19 rfl rfl ?_
    refine zs_aload_n hE 2 dX7_doubts_20 rfl rfl ?_
    refine zs_get hE fl_X7_39 hx rfl dX7_doubts_21 ?_
    refine zs_iload_n hE 3 dX7_doubts_24 rfl rfl ?_
    refine zs_iald hE r9 (by omega) (by decide) dX7_doubts_25 ?_
    refine zs_top (v' := .int (nI (sp_vp S v))) (by rw [(mV v lv).1]) ?_
    refine zs_callVR (av := [.int (nI (sp_vp S v))]) (st := [.int (nI k0)]) (b := x) hE (m_X7_size D E B l κ x ad sc ar (sp_vp S v) (sp_ba S (sp_vp S v)) (sp_pa S (sp_vp S v)) (by have := (wV v lv).1; omega) (mP _ (wV v lv).1).1 (mP _ (wV v lv).1).2.1) rfl rfl sV_X7_106 hx rfl rfl (hO) ⟨by decide, by decide⟩ ⟨by decide, by decide⟩ (Nat.le_of_ble_eq_true rfl) dX7_doubts_26 ?_
    refine zs_icmp_geN (tgt := 61) hE (by omega) (by omega) dX7_doubts_29 (by decide) (fun h5 => ?_) (fun h => ?_)
    · obtain rfl : k0 = sp_ba S (sp_vp S v) * sp_pa S (sp_vp S v) := by omega
      refine zs_aload_n hE 2 dX7_doubts_61 rfl rfl ?_
      refine zs_iload_n hE 1 dX7_doubts_62 rfl rfl ?_
      refine zs_callV (av := [.int (nI (sm (fun k => if 1 < (sp_sv S v k).length then 1 else 0) ((sp_ba S (sp_vp S v) * sp_pa S (sp_vp S v)))))]) (st := []) hE (m_X7_tells D E B l κ x ad sc ar (nI (sm (fun k => if 1 < (sp_sv S v k).length then 1 else 0) ((sp_ba S (sp_vp S v) * sp_pa S (sp_vp S v)))))) sV_X7_93 hx rfl rfl (hO) ⟨by decide, by decide⟩ ⟨by decide, by decide⟩ (fun q w9 => Or.inl w9) (Nat.le_of_ble_eq_true rfl) dX7_doubts_63 (fun v1 H1 hv1 hz1 hk1 => ?_)
      obtain ⟨rfl, cz, cO⟩ := hv1
      refine zs_widen (k' := 0) (n' := 0) (by decide) (by decide) ?_
      exact zs_iret hE hr (mq_mk (S' := S) (k := 0) (by rw [o_doubts, ev]; simp only []; rw [sl_fold b8 p4, sm_itn]) cz (fun _ => rfl) cO (mi_4 hM)) (by decide) (by decide) dX7_doubts_66
    · obtain ⟨d1, -⟩ := (mV v lv).2.2.2 k0 h
      have ok4 := (sv_ok wV lv h).2.1
      refine zs_iload_n hE 1 dX7_doubts_32 rfl rfl ?_
      refine zs_aload_n hE 2 dX7_doubts_33 rfl rfl ?_
      refine zs_get hE fl_X7_49 hx rfl dX7_doubts_34 ?_
      refine zs_aload_n hE 2 dX7_doubts_37 rfl rfl ?_
      refine zs_iload_n hE 3 dX7_doubts_38 rfl rfl ?_
      refine zs_iload_n hE 0 dX7_doubts_39 rfl rfl ?_
      refine zs_callVR (av := [.int (nI v), .int (nI k0)]) (st := [.ref (ad 12), .int (nI (sm (fun k => if 1 < (sp_sv S v k).length then 1 else 0) (k0)))]) (b := x) hE (m_X7_sheafAt D E B l κ x ad sc ar v k0) rfl rfl sV_X7_89 hx rfl rfl (hO) ⟨by decide, by decide⟩ ⟨by decide, by decide⟩ (Nat.le_of_ble_eq_true rfl) dX7_doubts_40 ?_
      refine zs_iald hE r12 (by omega) (by decide) dX7_doubts_43 ?_
      refine zs_top (v' := .int (nI ((sp_sv S v k0).length))) (by rw [d1]) ?_
      refine zs_iconst (v := (nI 1)) hE dX7_doubts_44 (by decide) ?_
      refine zs_icmp_leN (tgt := 52) hE (by omega) (by decide) dX7_doubts_45 (by decide) (fun h6 => ?_) (fun h6 => ?_)
      · refine zs_iconst (v := (nI 0)) hE dX7_doubts_52 (by decide) ?_
        refine zs_iaddN hE dX7_doubts_53 ?_
        refine zs_istore_n (lo' := [(2, .int (nI (sm (fun k => if 1 < (sp_sv S v k).length then 1 else 0) (k0) + 0))), (3, .int (nI k0)), (0, .ref x), (1, .int (nI v))]) hE dX7_doubts_54 rfl (by decide) rfl ?_
        refine zs_iincN (lo' := [(3, .int (nI (k0 + 1))), (2, .int (nI (sm (fun k => if 1 < (sp_sv S v k).length then 1 else 0) (k0) + 0))), (0, .ref x), (1, .int (nI v))]) hE 1 dX7_doubts_55 rfl (by decide) rfl ?_
        refine zs_goto (tgt := 18) hE dX7_doubts_58 (by decide) ?_
        refine zs_sub (lo' := [(3, .int (nI (k0 + 1))), (2, .int (nI (sm (fun k => if 1 < (sp_sv S v k).length then 1 else 0) (k0) + 0))), (0, .ref x), (1, .int (nI v))]) [0, 1, 2, 3] rfl ?_
        refine zs_lo (lo' := [(3, .int (nI (k0 + 1))), (2, .int (nI (sm (fun k => if 1 < (sp_sv S v k).length then 1 else 0) (k0 + 1)))), (0, .ref x), (1, .int (nI v))]) (by rw [show sm (fun k => if 1 < (sp_sv S v k).length then 1 else 0) (k0 + 1) = sm (fun k => if 1 < (sp_sv S v k).length then 1 else 0) k0 + (if 1 < (sp_sv S v k0).length then 1 else 0) from rfl, if_neg (by omega)]) ?_
        refine zs_sub (lo' := [(3, .int (nI (k0 + 1))), (2, .int (nI (sm (fun k => if 1 < (sp_sv S v k).length then 1 else 0) (k0 + 1)))), (0, .ref x), (1, .int (nI v))]) [0, 1, 2, 3] rfl ?_
        exact ih (k0 + 1) (by omega) (by omega)
      · refine zs_iconst (v := (nI 1)) hE dX7_doubts_48 (by decide) ?_
        refine zs_goto (tgt := 53) hE dX7_doubts_49 (by decide) ?_
        refine zs_iaddN hE dX7_doubts_53 ?_
        refine zs_istore_n (lo' := [(2, .int (nI (sm (fun k => if 1 < (sp_sv S v k).length then 1 else 0) (k0) + 1))), (3, .int (nI k0)), (0, .ref x), (1, .int (nI v))]) hE dX7_doubts_54 rfl (by decide) rfl ?_
        refine zs_iincN (lo' := [(3, .int (nI (k0 + 1))), (2, .int (nI (sm (fun k => if 1 < (sp_sv S v k).length then 1 else 0) (k0) + 1))), (0, .ref x), (1, .int (nI v))]) hE 1 dX7_doubts_55 rfl (by decide) rfl ?_
        refine zs_goto (tgt := 18) hE dX7_doubts_58 (by decide) ?_
        refine zs_sub (lo' := [(3, .int (nI (k0 + 1))), (2, .int (nI (sm (fun k => if 1 < (sp_sv S v k).length then 1 else 0) (k0) + 1))), (0, .ref x), (1, .int (nI v))]) [0, 1, 2, 3] rfl ?_
        refine zs_lo (lo' := [(3, .int (nI (k0 + 1))), (2, .int (nI (sm (fun k => if 1 < (sp_sv S v k).length then 1 else 0) (k0 + 1)))), (0, .ref x), (1, .int (nI v))]) (by rw [show sm (fun k => if 1 < (sp_sv S v k).length then 1 else 0) (k0 + 1) = sm (fun k => if 1 < (sp_sv S v k).length then 1 else 0) k0 + (if 1 < (sp_sv S v k0).length then 1 else 0) from rfl, if_pos (by omega)]) ?_
        refine zs_sub (lo' := [(3, .int (nI (k0 + 1))), (2, .int (nI (sm (fun k => if 1 < (sp_sv S v k).length then 1 else 0) (k0 + 1)))), (0, .ref x), (1, .int (nI v))]) [0, 1, 2, 3] rfl ?_
        exact ih (k0 + 1) (by omega) (by omega)
  · refine zs_aload_n hE 0 dX7_doubts_8 rfl rfl ?_
    refine zs_iconst (v := (nI 1)) hE dX7_doubts_9 (by decide) ?_
    refine zs_callV (av := [.int (nI 1)]) (st := []) hE (m_X7_fails D E B l κ x ad sc ar 1) sV_X7_81 hx rfl rfl (hO) ⟨by decide, by decide⟩ ⟨by decide, by decide⟩ (fun q w9 => Or.inl w9) (Nat.le_of_ble_eq_true rfl) dX7_doubts_10 (fun v2 H2 hv2 hz2 hk2 => ?_)
    obtain ⟨rfl, cz, cO⟩ := hv2
    refine zs_widen (k' := 0) (n' := 0) (by decide) (by decide) ?_
    exact zs_iret hE hr (mq_mk (S' := S) (v := .null) (k := 1) (by rw [o_doubts, show sp_i y (sp_nv S) = none by rw [← mv0]; exact Classical.not_not.mp h1]; rfl) cz (fun w9 => by cases w9) cO (mi_4 hM)) (by decide) (by decide) dX7_doubts_13


/-! the model: rule -/
theorem mi_rule {S : sp_S} {sc : Nat → Nat} {ar : Nat → Nat → Int32} {i q t : Nat} {f8 : Nat → Int32} (h : mi_ S sc ar) (hq : q < 4) (a1 : f8 (4 * i + q) = nI t) (a2 : ∀ k, k ≠ 4 * i + q → f8 k = ar 8 k) : mi_ (s_rule S i q t) sc (va_up ar 8 f8) := by
  obtain ⟨⟨p1, p2⟩, h2⟩ := h
  refine ⟨⟨p1, fun j hj => ?_⟩, h2⟩
  obtain ⟨g1, g2, g3, g4⟩ := p2 j hj
  refine ⟨g1, g2, g3, fun k hk => ?_⟩
  show f8 (4 * j + k) = nI (if j = i ∧ k = q then t else sp_ru S j k)
  by_cases e : j = i ∧ k = q
  · rw [if_pos e, e.1, e.2]; exact a1
  · rw [if_neg e, a2 _ (by omega)]; exact g4 k hk

set_option maxHeartbeats 4000000 in
set_option maxRecDepth 100000 in
theorem m_X7_rule (D : va_G) (E : Nat → ClassId) (B : Nat) (l : Launch) (κ : Nat → Nat) (x : Nat) (ad sc : Nat → Nat) (ar : Nat → Nat → Int32) (S : sp_S) (y z w : Int32) (hM : mi_ S sc ar) (hw : sp_wf S) : zs_Ct D E B l yX7_rule cX7_rule 6 (some .char) ({ frames := 2, cells := 0, slots := 0, locals := 43 } : Room) [.ref x, .int y, .int z, .int w] (fun H => md_O D E κ x ad sc ar H) (md_F κ) (mq_ D E κ x ad (o_rule S y z w)) := by
  refine zs_ct (by decide) (Nat.le_of_ble_eq_true rfl) (fun p e s m below meth c hE hr hin hp => ?_)
  refine zs_lo (lo' := [(0, .ref x), (1, .int y), (2, .int z), (3, .int w)]) rfl ?_
  have hO := hp
  obtain ⟨t0, hx, t5, t6, t7, t8, t9, t10, t11, t12, t13, t14, t15, t16, t17, t18, t19, t20, r5, r6, r7, r8, r9, r10, r11, r12, r13, r14, r15, r16, r17, r18, r19, r20⟩ := id hO
  obtain ⟨wN, wP, wV, wA, wH, wZ, wF⟩ := id hw
  obtain ⟨n6, n40, n12, n8, n99⟩ := id wN
  obtain ⟨⟨mp0, mP⟩, ⟨mv0, mV⟩, ⟨mt0, mT⟩, mH, ⟨mz0, mZ⟩, mE⟩ := id hM
  refine zs_aload_n hE 0 dX7_rule_0 rfl rfl ?_
  refine zs_iload_n hE 1 dX7_rule_1 rfl rfl ?_
  refine zs_callVR (av := [.int y]) (st := []) (b := x) hE (m_X7_isPiece D E B l κ x ad sc ar y (by omega)) rfl rfl sV_X7_96 hx rfl rfl (hO) ⟨by decide, by decide⟩ ⟨by decide, by decide⟩ (Nat.le_of_ble_eq_true rfl) dX7_rule_2 ?_
  refine zs_if_eqB (tgt := 28) hE dX7_rule_5 (by decide) (fun h1 => ?_) (fun h1 => ?_)
  · refine zs_iconst (v := (nI 0)) hE dX7_rule_28 (by decide) ?_
    refine zs_istore (lo' := [(4, .int (nI 0)), (0, .ref x), (1, .int y), (2, .int z), (3, .int w)]) hE dX7_rule_29 (by decide) rfl ?_
    refine zs_aload_n hE 1 dX7_rule_31 rfl rfl ?_
    refine zs_iload hE 0 dX7_rule_32 rfl ?_
    refine zs_if_neN (tgt := 41) hE (by decide) dX7_rule_34 (by decide) (fun h8 => ?_) (fun h8 => ?_)
    · exact absurd h8 (by decide)
    · refine zs_iconst (v := (nI 1)) hE dX7_rule_37 (by decide) ?_
      refine zs_goto (tgt := 64) hE dX7_rule_38 (by decide) ?_
      refine zs_put (v := .int (nI 1)) hE fl_X7_22 hx (Or.inl (show 500 ≤ κ x by omega)) (rfl) (rfl) (Nat.le_of_ble_eq_true rfl) dX7_rule_64 (fun H1 hp1 hz1 ho1 => ?_)
      have r5 := zs_pt.kept r5 (ho1 _ (cs_ne t5 t0 (by decide)))
      have r6 := zs_pt.kept r6 (ho1 _ (cs_ne t6 t0 (by decide)))
      have r7 := zs_pt.kept r7 (ho1 _ (cs_ne t7 t0 (by decide)))
      have r8 := zs_pt.kept r8 (ho1 _ (cs_ne t8 t0 (by decide)))
      have r9 := zs_pt.kept r9 (ho1 _ (cs_ne t9 t0 (by decide)))
      have r10 := zs_pt.kept r10 (ho1 _ (cs_ne t10 t0 (by decide)))
      have r11 := zs_pt.kept r11 (ho1 _ (cs_ne t11 t0 (by decide)))
      have r12 := zs_pt.kept r12 (ho1 _ (cs_ne t12 t0 (by decide)))
      have r13 := zs_pt.kept r13 (ho1 _ (cs_ne t13 t0 (by decide)))
      have r14 := zs_pt.kept r14 (ho1 _ (cs_ne t14 t0 (by decide)))
      have r15 := zs_pt.kept r15 (ho1 _ (cs_ne t15 t0 (by decide)))
      have r16 := zs_pt.kept r16 (ho1 _ (cs_ne t16 t0 (by decide)))
      have r17 := zs_pt.kept r17 (ho1 _ (cs_ne t17 t0 (by decide)))
      have r18 := zs_pt.kept r18 (ho1 _ (cs_ne t18 t0 (by decide)))
      have r19 := zs_pt.kept r19 (ho1 _ (cs_ne t19 t0 (by decide)))
      have r20 := zs_pt.kept r20 (ho1 _ (cs_ne t20 t0 (by decide)))
      have hp1 : zs_pt D x (.inr (7, [.int (nI (sc 0)), .int (nI (sc 1)), .int (nI (sc 2)), .int (nI (sc 3)), .int (nI 1), .ref (ad 5), .ref (ad 6), .ref (ad 7), .ref (ad 8), .ref (ad 9), .ref (ad 10), .ref (ad 11), .ref (ad 12), .ref (ad 13), .ref (ad 14), .ref (ad 15), .ref (ad 16), .ref (ad 17), .ref (ad 18), .ref (ad 19), .ref (ad 20)])) H1 := hp1
      have hO4 : md_O D E κ x ad (va_up sc 4 1) ar H1 := ⟨t0, hp1, t5, t6, t7, t8, t9, t10, t11, t12, t13, t14, t15, t16, t17, t18, t19, t20, r5, r6, r7, r8, r9, r10, r11, r12, r13, r14, r15, r16, r17, r18, r19, r20⟩
      refine zs_aload_n hE 1 dX7_rule_67 rfl rfl ?_
      refine zs_get hE fl_X7_22 hp1 rfl dX7_rule_68 ?_
      refine zs_if_leN (tgt := 76) hE (by decide) dX7_rule_71 (by decide) (fun h9 => ?_) (fun h9 => ?_)
      · exact absurd h9 (by decide)
      · refine zs_iconst (v := (nI 0)) hE dX7_rule_74 (by decide) ?_
        exact zs_zret hE hr (rfl) (mq_mk (S' := S) (v := .null) (k := 1) (by rw [o_rule, show sp_i y (sp_np S) = none by rw [← mp0]; exact Classical.not_not.mp h1]; rfl) (by omega) (fun w9 => by cases w9) hO4 (mi_4 hM)) (by decide) (by decide) dX7_rule_75
  · obtain ⟨i, ei⟩ : ∃ e, sp_i y (sp_np S) = some e := by cases z9 : sp_i y (sp_np S) with | none => (rw [mp0] at h1; exact absurd z9 h1) | some q9 => exact ⟨q9, rfl⟩
    have li := (sp_i_lt ei).1
    refine zs_lo (lo' := [(0, .ref x), (1, .int (nI i)), (2, .int z), (3, .int w)]) (by rw [(sp_i_lt ei).2]) ?_
    obtain ⟨-, hpa, -, hru⟩ := mP i li
    obtain ⟨-, -, -, p4, -⟩ := wP.1 i li
    refine zs_iload_n hE 2 dX7_rule_8 rfl rfl ?_
    refine zs_iconst (v := (nI 0)) hE dX7_rule_9 (by decide) ?_
    refine zs_aload_n hE 0 dX7_rule_10 rfl rfl ?_
    refine zs_get hE fl_X7_29 hx rfl dX7_rule_11 ?_
    refine zs_iload_n hE 1 dX7_rule_14 rfl rfl ?_
    refine zs_iald hE r6 (by omega) (by decide) dX7_rule_15 ?_
    refine zs_top (v' := .int (nI (sp_pa S i))) (by rw [hpa]) ?_
    refine zs_iconst (v := (nI 1)) hE dX7_rule_16 (by decide) ?_
    refine zs_isub hE dX7_rule_17 ?_
    refine zs_callSR (av := [.int z, .int (nI 0), .int ((nI (sp_pa S i)) - (nI 1))]) (st := []) hE (m_X7_in D E B l z (nI 0) (nI (sp_pa S i) - 1)) rfl rfl sS_X7_77 (trivial) ⟨by decide, by decide⟩ ⟨by decide, by decide⟩ (Nat.le_of_ble_eq_true rfl) dX7_rule_18 ?_
    refine zs_top (v' := .int (zs_b (sp_i z (sp_pa S i) ≠ none))) (by rw [zs_bc (in_i (by omega))]) ?_
    refine zs_if_eqB (tgt := 28) hE dX7_rule_21 (by decide) (fun h2 => ?_) (fun h2 => ?_)
    · refine zs_iconst (v := (nI 0)) hE dX7_rule_28 (by decide) ?_
      refine zs_istore (lo' := [(4, .int (nI 0)), (0, .ref x), (1, .int (nI i)), (2, .int z), (3, .int w)]) hE dX7_rule_29 (by decide) rfl ?_
      refine zs_aload_n hE 1 dX7_rule_31 rfl rfl ?_
      refine zs_iload hE 0 dX7_rule_32 rfl ?_
      refine zs_if_neN (tgt := 41) hE (by decide) dX7_rule_34 (by decide) (fun h8 => ?_) (fun h8 => ?_)
      · exact absurd h8 (by decide)
      · refine zs_iconst (v := (nI 1)) hE dX7_rule_37 (by decide) ?_
        refine zs_goto (tgt := 64) hE dX7_rule_38 (by decide) ?_
        refine zs_put (v := .int (nI 1)) hE fl_X7_22 hx (Or.inl (show 500 ≤ κ x by omega)) (rfl) (rfl) (Nat.le_of_ble_eq_true rfl) dX7_rule_64 (fun H2 hp2 hz2 ho2 => ?_)
        have r5 := zs_pt.kept r5 (ho2 _ (cs_ne t5 t0 (by decide)))
        have r6 := zs_pt.kept r6 (ho2 _ (cs_ne t6 t0 (by decide)))
        have r7 := zs_pt.kept r7 (ho2 _ (cs_ne t7 t0 (by decide)))
        have r8 := zs_pt.kept r8 (ho2 _ (cs_ne t8 t0 (by decide)))
        have r9 := zs_pt.kept r9 (ho2 _ (cs_ne t9 t0 (by decide)))
        have r10 := zs_pt.kept r10 (ho2 _ (cs_ne t10 t0 (by decide)))
        have r11 := zs_pt.kept r11 (ho2 _ (cs_ne t11 t0 (by decide)))
        have r12 := zs_pt.kept r12 (ho2 _ (cs_ne t12 t0 (by decide)))
        have r13 := zs_pt.kept r13 (ho2 _ (cs_ne t13 t0 (by decide)))
        have r14 := zs_pt.kept r14 (ho2 _ (cs_ne t14 t0 (by decide)))
        have r15 := zs_pt.kept r15 (ho2 _ (cs_ne t15 t0 (by decide)))
        have r16 := zs_pt.kept r16 (ho2 _ (cs_ne t16 t0 (by decide)))
        have r17 := zs_pt.kept r17 (ho2 _ (cs_ne t17 t0 (by decide)))
        have r18 := zs_pt.kept r18 (ho2 _ (cs_ne t18 t0 (by decide)))
        have r19 := zs_pt.kept r19 (ho2 _ (cs_ne t19 t0 (by decide)))
        have r20 := zs_pt.kept r20 (ho2 _ (cs_ne t20 t0 (by decide)))
        have hp2 : zs_pt D x (.inr (7, [.int (nI (sc 0)), .int (nI (sc 1)), .int (nI (sc 2)), .int (nI (sc 3)), .int (nI 1), .ref (ad 5), .ref (ad 6), .ref (ad 7), .ref (ad 8), .ref (ad 9), .ref (ad 10), .ref (ad 11), .ref (ad 12), .ref (ad 13), .ref (ad 14), .ref (ad 15), .ref (ad 16), .ref (ad 17), .ref (ad 18), .ref (ad 19), .ref (ad 20)])) H2 := hp2
        have hO4 : md_O D E κ x ad (va_up sc 4 1) ar H2 := ⟨t0, hp2, t5, t6, t7, t8, t9, t10, t11, t12, t13, t14, t15, t16, t17, t18, t19, t20, r5, r6, r7, r8, r9, r10, r11, r12, r13, r14, r15, r16, r17, r18, r19, r20⟩
        refine zs_aload_n hE 1 dX7_rule_67 rfl rfl ?_
        refine zs_get hE fl_X7_22 hp2 rfl dX7_rule_68 ?_
        refine zs_if_leN (tgt := 76) hE (by decide) dX7_rule_71 (by decide) (fun h9 => ?_) (fun h9 => ?_)
        · exact absurd h9 (by decide)
        · refine zs_iconst (v := (nI 0)) hE dX7_rule_74 (by decide) ?_
          exact zs_zret hE hr (rfl) (mq_mk (S' := S) (v := .null) (k := 1) (by rw [o_rule, ei]; simp only []; rw [Classical.not_not.mp h2]; rfl) (by omega) (fun w9 => by cases w9) hO4 (mi_4 hM)) (by decide) (by decide) dX7_rule_75
    · obtain ⟨q, eq⟩ : ∃ e, sp_i z (sp_pa S i) = some e := by cases z9 : sp_i z (sp_pa S i) with | none => exact absurd z9 h2 | some q9 => exact ⟨q9, rfl⟩
      have lq := (sp_i_lt eq).1
      refine zs_lo (lo' := [(0, .ref x), (1, .int (nI i)), (2, .int (nI q)), (3, .int w)]) (by rw [(sp_i_lt eq).2]) ?_
      refine zs_iconst (v := (nI 1)) hE dX7_rule_24 (by decide) ?_
      refine zs_goto (tgt := 29) hE dX7_rule_25 (by decide) ?_
      refine zs_istore (lo' := [(4, .int (nI 1)), (0, .ref x), (1, .int (nI i)), (2, .int (nI q)), (3, .int w)]) hE dX7_rule_29 (by decide) rfl ?_
      refine zs_aload_n hE 1 dX7_rule_31 rfl rfl ?_
      refine zs_iload hE 0 dX7_rule_32 rfl ?_
      refine zs_if_neN (tgt := 41) hE (by decide) dX7_rule_34 (by decide) (fun h8 => ?_) (fun h8 => ?_)
      · refine zs_iload_n hE 4 dX7_rule_41 rfl rfl ?_
        refine zs_bipush (v := (nI 108)) hE dX7_rule_42 (by decide) ?_
        refine zs_icmp_eq (tgt := 63) hE dX7_rule_44 (by decide) (fun h108 => ?_) (fun h108 => ?_)
        · subst h108
          refine zs_iconst (v := (nI 0)) hE dX7_rule_63 (by decide) ?_
          refine zs_put (v := .int (nI 0)) hE fl_X7_22 hx (Or.inl (show 500 ≤ κ x by omega)) (rfl) (rfl) (Nat.le_of_ble_eq_true rfl) dX7_rule_64 (fun H3 hp3 hz3 ho3 => ?_)
          have r5 := zs_pt.kept r5 (ho3 _ (cs_ne t5 t0 (by decide)))
          have r6 := zs_pt.kept r6 (ho3 _ (cs_ne t6 t0 (by decide)))
          have r7 := zs_pt.kept r7 (ho3 _ (cs_ne t7 t0 (by decide)))
          have r8 := zs_pt.kept r8 (ho3 _ (cs_ne t8 t0 (by decide)))
          have r9 := zs_pt.kept r9 (ho3 _ (cs_ne t9 t0 (by decide)))
          have r10 := zs_pt.kept r10 (ho3 _ (cs_ne t10 t0 (by decide)))
          have r11 := zs_pt.kept r11 (ho3 _ (cs_ne t11 t0 (by decide)))
          have r12 := zs_pt.kept r12 (ho3 _ (cs_ne t12 t0 (by decide)))
          have r13 := zs_pt.kept r13 (ho3 _ (cs_ne t13 t0 (by decide)))
          have r14 := zs_pt.kept r14 (ho3 _ (cs_ne t14 t0 (by decide)))
          have r15 := zs_pt.kept r15 (ho3 _ (cs_ne t15 t0 (by decide)))
          have r16 := zs_pt.kept r16 (ho3 _ (cs_ne t16 t0 (by decide)))
          have r17 := zs_pt.kept r17 (ho3 _ (cs_ne t17 t0 (by decide)))
          have r18 := zs_pt.kept r18 (ho3 _ (cs_ne t18 t0 (by decide)))
          have r19 := zs_pt.kept r19 (ho3 _ (cs_ne t19 t0 (by decide)))
          have r20 := zs_pt.kept r20 (ho3 _ (cs_ne t20 t0 (by decide)))
          have hp3 : zs_pt D x (.inr (7, [.int (nI (sc 0)), .int (nI (sc 1)), .int (nI (sc 2)), .int (nI (sc 3)), .int (nI 0), .ref (ad 5), .ref (ad 6), .ref (ad 7), .ref (ad 8), .ref (ad 9), .ref (ad 10), .ref (ad 11), .ref (ad 12), .ref (ad 13), .ref (ad 14), .ref (ad 15), .ref (ad 16), .ref (ad 17), .ref (ad 18), .ref (ad 19), .ref (ad 20)])) H3 := hp3
          have hO4 : md_O D E κ x ad (va_up sc 4 0) ar H3 := ⟨t0, hp3, t5, t6, t7, t8, t9, t10, t11, t12, t13, t14, t15, t16, t17, t18, t19, t20, r5, r6, r7, r8, r9, r10, r11, r12, r13, r14, r15, r16, r17, r18, r19, r20⟩
          refine zs_aload_n hE 1 dX7_rule_67 rfl rfl ?_
          refine zs_get hE fl_X7_22 hp3 rfl dX7_rule_68 ?_
          refine zs_if_leN (tgt := 76) hE (by decide) dX7_rule_71 (by decide) (fun h9 => ?_) (fun h9 => ?_)
          · refine zs_aload_n hE 1 dX7_rule_76 rfl rfl ?_
            refine zs_get hE fl_X7_35 hp3 rfl dX7_rule_77 ?_
            refine zs_iconst (v := (nI 4)) hE dX7_rule_80 (by decide) ?_
            refine zs_iload_n hE 2 dX7_rule_81 rfl rfl ?_
            refine zs_imulN hE dX7_rule_82 ?_
            refine zs_iload_n hE 3 dX7_rule_83 rfl rfl ?_
            refine zs_iaddN hE dX7_rule_84 ?_
            refine zs_cald hE r8 (by omega) (by decide) dX7_rule_85 ?_
            refine zs_top (v' := .int (nI (sp_ru S i q))) (by rw [hru q (by omega)]) ?_
            refine zs_istore (lo' := [(5, .int (nI (sp_ru S i q))), (4, .int (nI 1)), (0, .ref x), (1, .int (nI i)), (2, .int (nI q)), (3, .int (nI 108))]) hE dX7_rule_86 (by decide) rfl ?_
            refine zs_aload_n hE 2 dX7_rule_88 rfl rfl ?_
            refine zs_get hE fl_X7_35 hp3 rfl dX7_rule_89 ?_
            refine zs_iconst (v := (nI 4)) hE dX7_rule_92 (by decide) ?_
            refine zs_iload_n hE 3 dX7_rule_93 rfl rfl ?_
            refine zs_imulN hE dX7_rule_94 ?_
            refine zs_iload_n hE 4 dX7_rule_95 rfl rfl ?_
            refine zs_iaddN hE dX7_rule_96 ?_
            refine zs_iload_n hE 5 dX7_rule_97 rfl rfl ?_
            refine zs_cast hE r8 (Or.inl (show 500 ≤ κ (ad 8) by omega)) (by omega) (by decide) dX7_rule_98 (fun H4 hp4 hz4 ho4 => ?_)
            have hp3 := zs_pt.kept hp3 (ho4 _ (cs_ne t0 t8 (by decide)))
            have r5 := zs_pt.kept r5 (ho4 _ (cs_ne t5 t8 (by decide)))
            have r6 := zs_pt.kept r6 (ho4 _ (cs_ne t6 t8 (by decide)))
            have r7 := zs_pt.kept r7 (ho4 _ (cs_ne t7 t8 (by decide)))
            have r9 := zs_pt.kept r9 (ho4 _ (cs_ne t9 t8 (by decide)))
            have r10 := zs_pt.kept r10 (ho4 _ (cs_ne t10 t8 (by decide)))
            have r11 := zs_pt.kept r11 (ho4 _ (cs_ne t11 t8 (by decide)))
            have r12 := zs_pt.kept r12 (ho4 _ (cs_ne t12 t8 (by decide)))
            have r13 := zs_pt.kept r13 (ho4 _ (cs_ne t13 t8 (by decide)))
            have r14 := zs_pt.kept r14 (ho4 _ (cs_ne t14 t8 (by decide)))
            have r15 := zs_pt.kept r15 (ho4 _ (cs_ne t15 t8 (by decide)))
            have r16 := zs_pt.kept r16 (ho4 _ (cs_ne t16 t8 (by decide)))
            have r17 := zs_pt.kept r17 (ho4 _ (cs_ne t17 t8 (by decide)))
            have r18 := zs_pt.kept r18 (ho4 _ (cs_ne t18 t8 (by decide)))
            have r19 := zs_pt.kept r19 (ho4 _ (cs_ne t19 t8 (by decide)))
            have r20 := zs_pt.kept r20 (ho4 _ (cs_ne t20 t8 (by decide)))
            have hO5 : md_O D E κ x ad (va_up sc 4 0) (va_up ar 8 (va_up (ar 8) (4 * i + q) (vp_nar FieldType.char (nI 108)))) H4 := ⟨t0, hp3, t5, t6, t7, t8, t9, t10, t11, t12, t13, t14, t15, t16, t17, t18, t19, t20, r5, r6, r7, hp4, r9, r10, r11, r12, r13, r14, r15, r16, r17, r18, r19, r20⟩
            refine zs_iload hE 0 dX7_rule_99 rfl ?_
            exact zs_zret hE hr (nar_ru (wP.2 i q)) (mq_mk (sc := sc) (S' := s_rule S i q 108) (k := 0) (by rw [o_rule, ei]; simp only []; rw [eq]; simp only []; rw [pI_f (by decide), sp_n_nI (by decide)]) (by omega) (fun _ => rfl) hO5 (mi_4 (mi_rule hM (by omega) (va_up_self _ _ _) (fun k hk => va_up_ne _ _ hk)))) (by decide) (by decide) dX7_rule_101
          · exact absurd h9 (by decide)
        · refine zs_iload_n hE 4 dX7_rule_47 rfl rfl ?_
          refine zs_bipush (v := (nI 110)) hE dX7_rule_48 (by decide) ?_
          refine zs_icmp_eq (tgt := 63) hE dX7_rule_50 (by decide) (fun h110 => ?_) (fun h110 => ?_)
          · subst h110
            refine zs_iconst (v := (nI 0)) hE dX7_rule_63 (by decide) ?_
            refine zs_put (v := .int (nI 0)) hE fl_X7_22 hx (Or.inl (show 500 ≤ κ x by omega)) (rfl) (rfl) (Nat.le_of_ble_eq_true rfl) dX7_rule_64 (fun H5 hp5 hz5 ho5 => ?_)
            have r5 := zs_pt.kept r5 (ho5 _ (cs_ne t5 t0 (by decide)))
            have r6 := zs_pt.kept r6 (ho5 _ (cs_ne t6 t0 (by decide)))
            have r7 := zs_pt.kept r7 (ho5 _ (cs_ne t7 t0 (by decide)))
            have r8 := zs_pt.kept r8 (ho5 _ (cs_ne t8 t0 (by decide)))
            have r9 := zs_pt.kept r9 (ho5 _ (cs_ne t9 t0 (by decide)))
            have r10 := zs_pt.kept r10 (ho5 _ (cs_ne t10 t0 (by decide)))
            have r11 := zs_pt.kept r11 (ho5 _ (cs_ne t11 t0 (by decide)))
            have r12 := zs_pt.kept r12 (ho5 _ (cs_ne t12 t0 (by decide)))
            have r13 := zs_pt.kept r13 (ho5 _ (cs_ne t13 t0 (by decide)))
            have r14 := zs_pt.kept r14 (ho5 _ (cs_ne t14 t0 (by decide)))
            have r15 := zs_pt.kept r15 (ho5 _ (cs_ne t15 t0 (by decide)))
            have r16 := zs_pt.kept r16 (ho5 _ (cs_ne t16 t0 (by decide)))
            have r17 := zs_pt.kept r17 (ho5 _ (cs_ne t17 t0 (by decide)))
            have r18 := zs_pt.kept r18 (ho5 _ (cs_ne t18 t0 (by decide)))
            have r19 := zs_pt.kept r19 (ho5 _ (cs_ne t19 t0 (by decide)))
            have r20 := zs_pt.kept r20 (ho5 _ (cs_ne t20 t0 (by decide)))
            have hp5 : zs_pt D x (.inr (7, [.int (nI (sc 0)), .int (nI (sc 1)), .int (nI (sc 2)), .int (nI (sc 3)), .int (nI 0), .ref (ad 5), .ref (ad 6), .ref (ad 7), .ref (ad 8), .ref (ad 9), .ref (ad 10), .ref (ad 11), .ref (ad 12), .ref (ad 13), .ref (ad 14), .ref (ad 15), .ref (ad 16), .ref (ad 17), .ref (ad 18), .ref (ad 19), .ref (ad 20)])) H5 := hp5
            have hO4 : md_O D E κ x ad (va_up sc 4 0) ar H5 := ⟨t0, hp5, t5, t6, t7, t8, t9, t10, t11, t12, t13, t14, t15, t16, t17, t18, t19, t20, r5, r6, r7, r8, r9, r10, r11, r12, r13, r14, r15, r16, r17, r18, r19, r20⟩
            refine zs_aload_n hE 1 dX7_rule_67 rfl rfl ?_
            refine zs_get hE fl_X7_22 hp5 rfl dX7_rule_68 ?_
            refine zs_if_leN (tgt := 76) hE (by decide) dX7_rule_71 (by decide) (fun h9 => ?_) (fun h9 => ?_)
            · refine zs_aload_n hE 1 dX7_rule_76 rfl rfl ?_
              refine zs_get hE fl_X7_35 hp5 rfl dX7_rule_77 ?_
              refine zs_iconst (v := (nI 4)) hE dX7_rule_80 (by decide) ?_
              refine zs_iload_n hE 2 dX7_rule_81 rfl rfl ?_
              refine zs_imulN hE dX7_rule_82 ?_
              refine zs_iload_n hE 3 dX7_rule_83 rfl rfl ?_
              refine zs_iaddN hE dX7_rule_84 ?_
              refine zs_cald hE r8 (by omega) (by decide) dX7_rule_85 ?_
              refine zs_top (v' := .int (nI (sp_ru S i q))) (by rw [hru q (by omega)]) ?_
              refine zs_istore (lo' := [(5, .int (nI (sp_ru S i q))), (4, .int (nI 1)), (0, .ref x), (1, .int (nI i)), (2, .int (nI q)), (3, .int (nI 110))]) hE dX7_rule_86 (by decide) rfl ?_
              refine zs_aload_n hE 2 dX7_rule_88 rfl rfl ?_
              refine zs_get hE fl_X7_35 hp5 rfl dX7_rule_89 ?_
              refine zs_iconst (v := (nI 4)) hE dX7_rule_92 (by decide) ?_
              refine zs_iload_n hE 3 dX7_rule_93 rfl rfl ?_
              refine zs_imulN hE dX7_rule_94 ?_
              refine zs_iload_n hE 4 dX7_rule_95 rfl rfl ?_
              refine zs_iaddN hE dX7_rule_96 ?_
              refine zs_iload_n hE 5 dX7_rule_97 rfl rfl ?_
              refine zs_cast hE r8 (Or.inl (show 500 ≤ κ (ad 8) by omega)) (by omega) (by decide) dX7_rule_98 (fun H6 hp6 hz6 ho6 => ?_)
              have hp5 := zs_pt.kept hp5 (ho6 _ (cs_ne t0 t8 (by decide)))
              have r5 := zs_pt.kept r5 (ho6 _ (cs_ne t5 t8 (by decide)))
              have r6 := zs_pt.kept r6 (ho6 _ (cs_ne t6 t8 (by decide)))
              have r7 := zs_pt.kept r7 (ho6 _ (cs_ne t7 t8 (by decide)))
              have r9 := zs_pt.kept r9 (ho6 _ (cs_ne t9 t8 (by decide)))
              have r10 := zs_pt.kept r10 (ho6 _ (cs_ne t10 t8 (by decide)))
              have r11 := zs_pt.kept r11 (ho6 _ (cs_ne t11 t8 (by decide)))
              have r12 := zs_pt.kept r12 (ho6 _ (cs_ne t12 t8 (by decide)))
              have r13 := zs_pt.kept r13 (ho6 _ (cs_ne t13 t8 (by decide)))
              have r14 := zs_pt.kept r14 (ho6 _ (cs_ne t14 t8 (by decide)))
              have r15 := zs_pt.kept r15 (ho6 _ (cs_ne t15 t8 (by decide)))
              have r16 := zs_pt.kept r16 (ho6 _ (cs_ne t16 t8 (by decide)))
              have r17 := zs_pt.kept r17 (ho6 _ (cs_ne t17 t8 (by decide)))
              have r18 := zs_pt.kept r18 (ho6 _ (cs_ne t18 t8 (by decide)))
              have r19 := zs_pt.kept r19 (ho6 _ (cs_ne t19 t8 (by decide)))
              have r20 := zs_pt.kept r20 (ho6 _ (cs_ne t20 t8 (by decide)))
              have hO5 : md_O D E κ x ad (va_up sc 4 0) (va_up ar 8 (va_up (ar 8) (4 * i + q) (vp_nar FieldType.char (nI 110)))) H6 := ⟨t0, hp5, t5, t6, t7, t8, t9, t10, t11, t12, t13, t14, t15, t16, t17, t18, t19, t20, r5, r6, r7, hp6, r9, r10, r11, r12, r13, r14, r15, r16, r17, r18, r19, r20⟩
              refine zs_iload hE 0 dX7_rule_99 rfl ?_
              exact zs_zret hE hr (nar_ru (wP.2 i q)) (mq_mk (sc := sc) (S' := s_rule S i q 110) (k := 0) (by rw [o_rule, ei]; simp only []; rw [eq]; simp only []; rw [pI_f (by decide), sp_n_nI (by decide)]) (by omega) (fun _ => rfl) hO5 (mi_4 (mi_rule hM (by omega) (va_up_self _ _ _) (fun k hk => va_up_ne _ _ hk)))) (by decide) (by decide) dX7_rule_101
            · exact absurd h9 (by decide)
          · refine zs_iload_n hE 4 dX7_rule_53 rfl rfl ?_
            refine zs_bipush (v := (nI 98)) hE dX7_rule_54 (by decide) ?_
            refine zs_icmp_eq (tgt := 63) hE dX7_rule_56 (by decide) (fun h98 => ?_) (fun h98 => ?_)
            · subst h98
              refine zs_iconst (v := (nI 0)) hE dX7_rule_63 (by decide) ?_
              refine zs_put (v := .int (nI 0)) hE fl_X7_22 hx (Or.inl (show 500 ≤ κ x by omega)) (rfl) (rfl) (Nat.le_of_ble_eq_true rfl) dX7_rule_64 (fun H7 hp7 hz7 ho7 => ?_)
              have r5 := zs_pt.kept r5 (ho7 _ (cs_ne t5 t0 (by decide)))
              have r6 := zs_pt.kept r6 (ho7 _ (cs_ne t6 t0 (by decide)))
              have r7 := zs_pt.kept r7 (ho7 _ (cs_ne t7 t0 (by decide)))
              have r8 := zs_pt.kept r8 (ho7 _ (cs_ne t8 t0 (by decide)))
              have r9 := zs_pt.kept r9 (ho7 _ (cs_ne t9 t0 (by decide)))
              have r10 := zs_pt.kept r10 (ho7 _ (cs_ne t10 t0 (by decide)))
              have r11 := zs_pt.kept r11 (ho7 _ (cs_ne t11 t0 (by decide)))
              have r12 := zs_pt.kept r12 (ho7 _ (cs_ne t12 t0 (by decide)))
              have r13 := zs_pt.kept r13 (ho7 _ (cs_ne t13 t0 (by decide)))
              have r14 := zs_pt.kept r14 (ho7 _ (cs_ne t14 t0 (by decide)))
              have r15 := zs_pt.kept r15 (ho7 _ (cs_ne t15 t0 (by decide)))
              have r16 := zs_pt.kept r16 (ho7 _ (cs_ne t16 t0 (by decide)))
              have r17 := zs_pt.kept r17 (ho7 _ (cs_ne t17 t0 (by decide)))
              have r18 := zs_pt.kept r18 (ho7 _ (cs_ne t18 t0 (by decide)))
              have r19 := zs_pt.kept r19 (ho7 _ (cs_ne t19 t0 (by decide)))
              have r20 := zs_pt.kept r20 (ho7 _ (cs_ne t20 t0 (by decide)))
              have hp7 : zs_pt D x (.inr (7, [.int (nI (sc 0)), .int (nI (sc 1)), .int (nI (sc 2)), .int (nI (sc 3)), .int (nI 0), .ref (ad 5), .ref (ad 6), .ref (ad 7), .ref (ad 8), .ref (ad 9), .ref (ad 10), .ref (ad 11), .ref (ad 12), .ref (ad 13), .ref (ad 14), .ref (ad 15), .ref (ad 16), .ref (ad 17), .ref (ad 18), .ref (ad 19), .ref (ad 20)])) H7 := hp7
              have hO4 : md_O D E κ x ad (va_up sc 4 0) ar H7 := ⟨t0, hp7, t5, t6, t7, t8, t9, t10, t11, t12, t13, t14, t15, t16, t17, t18, t19, t20, r5, r6, r7, r8, r9, r10, r11, r12, r13, r14, r15, r16, r17, r18, r19, r20⟩
              refine zs_aload_n hE 1 dX7_rule_67 rfl rfl ?_
              refine zs_get hE fl_X7_22 hp7 rfl dX7_rule_68 ?_
              refine zs_if_leN (tgt := 76) hE (by decide) dX7_rule_71 (by decide) (fun h9 => ?_) (fun h9 => ?_)
              · refine zs_aload_n hE 1 dX7_rule_76 rfl rfl ?_
                refine zs_get hE fl_X7_35 hp7 rfl dX7_rule_77 ?_
                refine zs_iconst (v := (nI 4)) hE dX7_rule_80 (by decide) ?_
                refine zs_iload_n hE 2 dX7_rule_81 rfl rfl ?_
                refine zs_imulN hE dX7_rule_82 ?_
                refine zs_iload_n hE 3 dX7_rule_83 rfl rfl ?_
                refine zs_iaddN hE dX7_rule_84 ?_
                refine zs_cald hE r8 (by omega) (by decide) dX7_rule_85 ?_
                refine zs_top (v' := .int (nI (sp_ru S i q))) (by rw [hru q (by omega)]) ?_
                refine zs_istore (lo' := [(5, .int (nI (sp_ru S i q))), (4, .int (nI 1)), (0, .ref x), (1, .int (nI i)), (2, .int (nI q)), (3, .int (nI 98))]) hE dX7_rule_86 (by decide) rfl ?_
                refine zs_aload_n hE 2 dX7_rule_88 rfl rfl ?_
                refine zs_get hE fl_X7_35 hp7 rfl dX7_rule_89 ?_
                refine zs_iconst (v := (nI 4)) hE dX7_rule_92 (by decide) ?_
                refine zs_iload_n hE 3 dX7_rule_93 rfl rfl ?_
                refine zs_imulN hE dX7_rule_94 ?_
                refine zs_iload_n hE 4 dX7_rule_95 rfl rfl ?_
                refine zs_iaddN hE dX7_rule_96 ?_
                refine zs_iload_n hE 5 dX7_rule_97 rfl rfl ?_
                refine zs_cast hE r8 (Or.inl (show 500 ≤ κ (ad 8) by omega)) (by omega) (by decide) dX7_rule_98 (fun H8 hp8 hz8 ho8 => ?_)
                have hp7 := zs_pt.kept hp7 (ho8 _ (cs_ne t0 t8 (by decide)))
                have r5 := zs_pt.kept r5 (ho8 _ (cs_ne t5 t8 (by decide)))
                have r6 := zs_pt.kept r6 (ho8 _ (cs_ne t6 t8 (by decide)))
                have r7 := zs_pt.kept r7 (ho8 _ (cs_ne t7 t8 (by decide)))
                have r9 := zs_pt.kept r9 (ho8 _ (cs_ne t9 t8 (by decide)))
                have r10 := zs_pt.kept r10 (ho8 _ (cs_ne t10 t8 (by decide)))
                have r11 := zs_pt.kept r11 (ho8 _ (cs_ne t11 t8 (by decide)))
                have r12 := zs_pt.kept r12 (ho8 _ (cs_ne t12 t8 (by decide)))
                have r13 := zs_pt.kept r13 (ho8 _ (cs_ne t13 t8 (by decide)))
                have r14 := zs_pt.kept r14 (ho8 _ (cs_ne t14 t8 (by decide)))
                have r15 := zs_pt.kept r15 (ho8 _ (cs_ne t15 t8 (by decide)))
                have r16 := zs_pt.kept r16 (ho8 _ (cs_ne t16 t8 (by decide)))
                have r17 := zs_pt.kept r17 (ho8 _ (cs_ne t17 t8 (by decide)))
                have r18 := zs_pt.kept r18 (ho8 _ (cs_ne t18 t8 (by decide)))
                have r19 := zs_pt.kept r19 (ho8 _ (cs_ne t19 t8 (by decide)))
                have r20 := zs_pt.kept r20 (ho8 _ (cs_ne t20 t8 (by decide)))
                have hO5 : md_O D E κ x ad (va_up sc 4 0) (va_up ar 8 (va_up (ar 8) (4 * i + q) (vp_nar FieldType.char (nI 98)))) H8 := ⟨t0, hp7, t5, t6, t7, t8, t9, t10, t11, t12, t13, t14, t15, t16, t17, t18, t19, t20, r5, r6, r7, hp8, r9, r10, r11, r12, r13, r14, r15, r16, r17, r18, r19, r20⟩
                refine zs_iload hE 0 dX7_rule_99 rfl ?_
                exact zs_zret hE hr (nar_ru (wP.2 i q)) (mq_mk (sc := sc) (S' := s_rule S i q 98) (k := 0) (by rw [o_rule, ei]; simp only []; rw [eq]; simp only []; rw [pI_f (by decide), sp_n_nI (by decide)]) (by omega) (fun _ => rfl) hO5 (mi_4 (mi_rule hM (by omega) (va_up_self _ _ _) (fun k hk => va_up_ne _ _ hk)))) (by decide) (by decide) dX7_rule_101
              · exact absurd h9 (by decide)
            · refine zs_iconst (v := (nI 2)) hE dX7_rule_59 (by decide) ?_
              refine zs_goto (tgt := 64) hE dX7_rule_60 (by decide) ?_
              refine zs_put (v := .int (nI 2)) hE fl_X7_22 hx (Or.inl (show 500 ≤ κ x by omega)) (rfl) (rfl) (Nat.le_of_ble_eq_true rfl) dX7_rule_64 (fun H9 hp9 hz9 ho9 => ?_)
              have r5 := zs_pt.kept r5 (ho9 _ (cs_ne t5 t0 (by decide)))
              have r6 := zs_pt.kept r6 (ho9 _ (cs_ne t6 t0 (by decide)))
              have r7 := zs_pt.kept r7 (ho9 _ (cs_ne t7 t0 (by decide)))
              have r8 := zs_pt.kept r8 (ho9 _ (cs_ne t8 t0 (by decide)))
              have r9 := zs_pt.kept r9 (ho9 _ (cs_ne t9 t0 (by decide)))
              have r10 := zs_pt.kept r10 (ho9 _ (cs_ne t10 t0 (by decide)))
              have r11 := zs_pt.kept r11 (ho9 _ (cs_ne t11 t0 (by decide)))
              have r12 := zs_pt.kept r12 (ho9 _ (cs_ne t12 t0 (by decide)))
              have r13 := zs_pt.kept r13 (ho9 _ (cs_ne t13 t0 (by decide)))
              have r14 := zs_pt.kept r14 (ho9 _ (cs_ne t14 t0 (by decide)))
              have r15 := zs_pt.kept r15 (ho9 _ (cs_ne t15 t0 (by decide)))
              have r16 := zs_pt.kept r16 (ho9 _ (cs_ne t16 t0 (by decide)))
              have r17 := zs_pt.kept r17 (ho9 _ (cs_ne t17 t0 (by decide)))
              have r18 := zs_pt.kept r18 (ho9 _ (cs_ne t18 t0 (by decide)))
              have r19 := zs_pt.kept r19 (ho9 _ (cs_ne t19 t0 (by decide)))
              have r20 := zs_pt.kept r20 (ho9 _ (cs_ne t20 t0 (by decide)))
              have hp9 : zs_pt D x (.inr (7, [.int (nI (sc 0)), .int (nI (sc 1)), .int (nI (sc 2)), .int (nI (sc 3)), .int (nI 2), .ref (ad 5), .ref (ad 6), .ref (ad 7), .ref (ad 8), .ref (ad 9), .ref (ad 10), .ref (ad 11), .ref (ad 12), .ref (ad 13), .ref (ad 14), .ref (ad 15), .ref (ad 16), .ref (ad 17), .ref (ad 18), .ref (ad 19), .ref (ad 20)])) H9 := hp9
              have hO4 : md_O D E κ x ad (va_up sc 4 2) ar H9 := ⟨t0, hp9, t5, t6, t7, t8, t9, t10, t11, t12, t13, t14, t15, t16, t17, t18, t19, t20, r5, r6, r7, r8, r9, r10, r11, r12, r13, r14, r15, r16, r17, r18, r19, r20⟩
              refine zs_aload_n hE 1 dX7_rule_67 rfl rfl ?_
              refine zs_get hE fl_X7_22 hp9 rfl dX7_rule_68 ?_
              refine zs_if_leN (tgt := 76) hE (by decide) dX7_rule_71 (by decide) (fun h9 => ?_) (fun h9 => ?_)
              · exact absurd h9 (by decide)
              · refine zs_iconst (v := (nI 0)) hE dX7_rule_74 (by decide) ?_
                exact zs_zret hE hr (rfl) (mq_mk (S' := S) (v := .null) (k := 2) (by rw [o_rule, ei]; simp only []; rw [eq]; simp only []; rw [pI_t ⟨h108, h110, h98⟩]; rfl) (by omega) (fun w9 => by cases w9) hO4 (mi_4 hM)) (by decide) (by decide) dX7_rule_75
      · exact absurd h8 (by decide)


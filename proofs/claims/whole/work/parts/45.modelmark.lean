/-! the model: mark, affirm -/
theorem mi_mark {S : sp_S} {sc : Nat → Nat} {ar : Nat → Nat → Int32} {i r j t : Nat} {f15 f16 : Nat → Int32} (h : mi_ S sc ar) (hi : i < 6) (hr : r < 4) (hj : j < 5) (a1 : f15 (5 * (6 * r + i) + j) = nI t) (a2 : ∀ k, k ≠ 5 * (6 * r + i) + j → f15 k = ar 15 k) (b1 : f16 (5 * (6 * r + i) + j) = 0) (b2 : ∀ k, k ≠ 5 * (6 * r + i) + j → f16 k = ar 16 k) (ht : t ≠ 0) : mi_ (s_mark S i r j t) sc (va_up (va_up ar 15 f15) 16 f16) := by
  obtain ⟨h1, h2, h3, h5, h6⟩ := h
  refine ⟨h1, h2, h3, fun r2 hr2 i2 hi2 => ?_, h6⟩
  obtain ⟨g1, g2⟩ := h5 r2 hr2 i2 hi2
  refine ⟨g1, fun j2 hj2 => ?_⟩
  obtain ⟨g3, g4⟩ := g2 j2 hj2
  show f15 (5 * (6 * r2 + i2) + j2) = nI (if i2 = i ∧ r2 = r ∧ j2 = j then t else sp_mk S i2 r2 j2) ∧ f16 (5 * (6 * r2 + i2) + j2) = nI (if (if i2 = i ∧ r2 = r ∧ j2 = j then t else sp_mk S i2 r2 j2) ≠ 0 ∧ (if i2 = i ∧ r2 = r ∧ j2 = j then t else sp_ct S i2 r2 j2) = 0 then 1 else 0)
  by_cases e : i2 = i ∧ r2 = r ∧ j2 = j
  · obtain ⟨rfl, rfl, rfl⟩ := e
    simp only [and_self, if_true]
    rw [a1, b1, if_neg (fun w => ht w.2)]
    exact ⟨rfl, rfl⟩
  · simp only [if_neg e]
    rw [a2 _ (by omega), b2 _ (by omega)]
    exact ⟨g3, g4⟩

set_option maxHeartbeats 4000000 in
set_option maxRecDepth 100000 in
theorem m_X7_mark (D : va_G) (E : Nat → ClassId) (B : Nat) (l : Launch) (κ : Nat → Nat) (x : Nat) (ad sc : Nat → Nat) (ar : Nat → Nat → Int32) (S : sp_S) (y z w t : Int32) (hM : mi_ S sc ar) (hw : sp_wf S) : zs_Ct D E B l yX7_mark cX7_mark 7 (some .int) ({ frames := 3, cells := 0, slots := 0, locals := 66 } : Room) [.ref x, .int y, .int z, .int w, .int t] (fun H => md_O D E κ x ad sc ar H) (md_F κ) (mq_ D E κ x ad (o_mark S y z w t)) := by
  refine zs_ct (by decide) (Nat.le_of_ble_eq_true rfl) (fun p e s m below meth c hE hr hin hp => ?_)
  refine zs_lo (lo' := [(0, .ref x), (1, .int y), (2, .int z), (3, .int w), (4, .int t)]) rfl ?_
  have hO := hp
  obtain ⟨t0, hx, t5, t6, t7, t8, t9, t10, t11, t12, t13, t14, t15, t16, t17, t18, t19, t20, r5, r6, r7, r8, r9, r10, r11, r12, r13, r14, r15, r16, r17, r18, r19, r20⟩ := id hO
  obtain ⟨wN, wP, wV, wA, wH, wZ, wF⟩ := id hw
  obtain ⟨n6, n40, n12, n8, n99⟩ := id wN
  obtain ⟨⟨mp0, mP⟩, ⟨mv0, mV⟩, ⟨mt0, mT⟩, mH, ⟨mz0, mZ⟩, mE⟩ := id hM
  refine zs_aload_n hE 0 dX7_mark_0 rfl rfl ?_
  refine zs_iload_n hE 1 dX7_mark_1 rfl rfl ?_
  refine zs_iload_n hE 2 dX7_mark_2 rfl rfl ?_
  refine zs_iload_n hE 3 dX7_mark_3 rfl rfl ?_
  refine zs_callVR (av := [.int y, .int z, .int w]) (st := []) (b := x) hE (m_X7_isMark D E B l κ x ad sc ar y z w (by omega)) rfl rfl sV_X7_144 hx rfl rfl (hO) ⟨by decide, by decide⟩ ⟨by decide, by decide⟩ (Nat.le_of_ble_eq_true rfl) dX7_mark_4 ?_
  refine zs_if_neB (tgt := 16) hE dX7_mark_7 (by decide) (fun h1 => ?_) (fun h1 => ?_)
  · rw [mp0] at h1
    obtain ⟨j, ej⟩ : ∃ e, sp_i y (5) = some e := by cases z9 : sp_i y (5) with | none => exact absurd z9 h1.1 | some q9 => exact ⟨q9, rfl⟩
    have lj := (sp_i_lt ej).1
    obtain ⟨r, er⟩ : ∃ e, sp_i z (4) = some e := by cases z9 : sp_i z (4) with | none => exact absurd z9 h1.2.1 | some q9 => exact ⟨q9, rfl⟩
    have lr := (sp_i_lt er).1
    obtain ⟨i, ei⟩ : ∃ e, sp_i w (sp_np S) = some e := by cases z9 : sp_i w (sp_np S) with | none => exact absurd z9 h1.2.2 | some q9 => exact ⟨q9, rfl⟩
    have li := (sp_i_lt ei).1
    refine zs_lo (lo' := [(0, .ref x), (1, .int (nI j)), (2, .int (nI r)), (3, .int (nI i)), (4, .int t)]) (by rw [(sp_i_lt ej).2, (sp_i_lt er).2, (sp_i_lt ei).2]) ?_
    obtain ⟨mh, mjk⟩ := mH r lr i (by omega)
    obtain ⟨mm, ma⟩ := mjk j lj
    have mb := sp_mkb wH i r j lj
    have hvb := (wH i r).2.1
    refine zs_iload hE 4 dX7_mark_16 rfl ?_
    refine zs_iconst (v := (nI 0)) hE dX7_mark_18 (by decide) ?_
    refine zs_bipush (v := (nI 20)) hE dX7_mark_19 (by decide) ?_
    refine zs_callSR (av := [.int t, .int (nI 0), .int (nI 20)]) (st := []) hE (m_X7_in D E B l t (nI 0) (nI 20)) rfl rfl sS_X7_77 (trivial) ⟨by decide, by decide⟩ ⟨by decide, by decide⟩ (Nat.le_of_ble_eq_true rfl) dX7_mark_21 ?_
    refine zs_top (v' := .int (zs_b (sp_i t 21 ≠ none))) (by rw [← zs_bc (in_i (y := t) (n := 21) (by decide))]; rfl) ?_
    refine zs_if_neB (tgt := 33) hE dX7_mark_24 (by decide) (fun h2 => ?_) (fun h2 => ?_)
    · obtain ⟨u, eu⟩ : ∃ e, sp_i t 21 = some e := by cases z9 : sp_i t 21 with | none => exact absurd z9 h2 | some q9 => exact ⟨q9, rfl⟩
      have lu := (sp_i_lt eu).1
      refine zs_lo (lo' := [(0, .ref x), (1, .int (nI j)), (2, .int (nI r)), (3, .int (nI i)), (4, .int (nI u))]) (by rw [(sp_i_lt eu).2]) ?_
      refine zs_aload_n hE 0 dX7_mark_33 rfl rfl ?_
      refine zs_get hE fl_X7_55 hx rfl dX7_mark_34 ?_
      refine zs_bipush (v := (nI 6)) hE dX7_mark_37 (by decide) ?_
      refine zs_iload_n hE 2 dX7_mark_39 rfl rfl ?_
      refine zs_imulN hE dX7_mark_40 ?_
      refine zs_iload_n hE 3 dX7_mark_41 rfl rfl ?_
      refine zs_iaddN hE dX7_mark_42 ?_
      refine zs_iald hE r14 (by omega) (by decide) dX7_mark_43 ?_
      refine zs_top (v' := .int (nI (sp_hv S i r))) (by rw [mh]) ?_
      refine zs_if_neN (tgt := 53) hE (by omega) dX7_mark_44 (by decide) (fun h3 => ?_) (fun h3 => ?_)
      · refine zs_iconst (v := (nI 5)) hE dX7_mark_53 (by decide) ?_
        refine zs_bipush (v := (nI 6)) hE dX7_mark_54 (by decide) ?_
        refine zs_iload_n hE 2 dX7_mark_56 rfl rfl ?_
        refine zs_imulN hE dX7_mark_57 ?_
        refine zs_iload_n hE 3 dX7_mark_58 rfl rfl ?_
        refine zs_iaddN hE dX7_mark_59 ?_
        refine zs_imulN hE dX7_mark_60 ?_
        refine zs_iload_n hE 1 dX7_mark_61 rfl rfl ?_
        refine zs_iaddN hE dX7_mark_62 ?_
        refine zs_istore (lo' := [(5, .int (nI (5 * (6 * r + i) + j))), (0, .ref x), (1, .int (nI j)), (2, .int (nI r)), (3, .int (nI i)), (4, .int (nI u))]) hE dX7_mark_63 (by decide) rfl ?_
        refine zs_aload_n hE 1 dX7_mark_65 rfl rfl ?_
        refine zs_get hE fl_X7_58 hx rfl dX7_mark_66 ?_
        refine zs_iload hE 0 dX7_mark_69 rfl ?_
        refine zs_iald hE r15 (by omega) (by decide) dX7_mark_71 ?_
        refine zs_top (v' := .int (nI (sp_mk S i r j))) (by rw [mm]) ?_
        refine zs_iconst (v := (nI 1)) hE dX7_mark_72 (by decide) ?_
        refine zs_isub hE dX7_mark_73 ?_
        refine zs_istore (lo' := [(6, .int ((nI (sp_mk S i r j)) - (nI 1))), (5, .int (nI (5 * (6 * r + i) + j))), (0, .ref x), (1, .int (nI j)), (2, .int (nI r)), (3, .int (nI i)), (4, .int (nI u))]) hE dX7_mark_74 (by decide) rfl ?_
        refine zs_aload_n hE 2 dX7_mark_76 rfl rfl ?_
        refine zs_get hE fl_X7_58 hx rfl dX7_mark_77 ?_
        refine zs_iload hE 1 dX7_mark_80 rfl ?_
        refine zs_iload hE 6 dX7_mark_82 rfl ?_
        refine zs_iconst (v := (nI 1)) hE dX7_mark_84 (by decide) ?_
        refine zs_iaddN hE dX7_mark_85 ?_
        refine zs_iast hE r15 (Or.inl (show 500 ≤ κ (ad 15) by omega)) (by omega) (by decide) dX7_mark_86 (fun H1 hp1 hz1 ho1 => ?_)
        have hx := zs_pt.kept hx (ho1 _ (cs_ne t0 t15 (by decide)))
        have r5 := zs_pt.kept r5 (ho1 _ (cs_ne t5 t15 (by decide)))
        have r6 := zs_pt.kept r6 (ho1 _ (cs_ne t6 t15 (by decide)))
        have r7 := zs_pt.kept r7 (ho1 _ (cs_ne t7 t15 (by decide)))
        have r8 := zs_pt.kept r8 (ho1 _ (cs_ne t8 t15 (by decide)))
        have r9 := zs_pt.kept r9 (ho1 _ (cs_ne t9 t15 (by decide)))
        have r10 := zs_pt.kept r10 (ho1 _ (cs_ne t10 t15 (by decide)))
        have r11 := zs_pt.kept r11 (ho1 _ (cs_ne t11 t15 (by decide)))
        have r12 := zs_pt.kept r12 (ho1 _ (cs_ne t12 t15 (by decide)))
        have r13 := zs_pt.kept r13 (ho1 _ (cs_ne t13 t15 (by decide)))
        have r14 := zs_pt.kept r14 (ho1 _ (cs_ne t14 t15 (by decide)))
        have r16 := zs_pt.kept r16 (ho1 _ (cs_ne t16 t15 (by decide)))
        have r17 := zs_pt.kept r17 (ho1 _ (cs_ne t17 t15 (by decide)))
        have r18 := zs_pt.kept r18 (ho1 _ (cs_ne t18 t15 (by decide)))
        have r19 := zs_pt.kept r19 (ho1 _ (cs_ne t19 t15 (by decide)))
        have r20 := zs_pt.kept r20 (ho1 _ (cs_ne t20 t15 (by decide)))
        refine zs_aload_n hE 2 dX7_mark_87 rfl rfl ?_
        refine zs_get hE fl_X7_61 hx rfl dX7_mark_88 ?_
        refine zs_iload hE 1 dX7_mark_91 rfl ?_
        refine zs_iconst (v := (nI 0)) hE dX7_mark_93 (by decide) ?_
        refine zs_zast hE r16 (Or.inl (show 500 ≤ κ (ad 16) by omega)) (by omega) (by decide) dX7_mark_94 (fun H2 hp2 hz2 ho2 => ?_)
        have hx := zs_pt.kept hx (ho2 _ (cs_ne t0 t16 (by decide)))
        have r5 := zs_pt.kept r5 (ho2 _ (cs_ne t5 t16 (by decide)))
        have r6 := zs_pt.kept r6 (ho2 _ (cs_ne t6 t16 (by decide)))
        have r7 := zs_pt.kept r7 (ho2 _ (cs_ne t7 t16 (by decide)))
        have r8 := zs_pt.kept r8 (ho2 _ (cs_ne t8 t16 (by decide)))
        have r9 := zs_pt.kept r9 (ho2 _ (cs_ne t9 t16 (by decide)))
        have r10 := zs_pt.kept r10 (ho2 _ (cs_ne t10 t16 (by decide)))
        have r11 := zs_pt.kept r11 (ho2 _ (cs_ne t11 t16 (by decide)))
        have r12 := zs_pt.kept r12 (ho2 _ (cs_ne t12 t16 (by decide)))
        have r13 := zs_pt.kept r13 (ho2 _ (cs_ne t13 t16 (by decide)))
        have r14 := zs_pt.kept r14 (ho2 _ (cs_ne t14 t16 (by decide)))
        have hp1 := zs_pt.kept hp1 (ho2 _ (cs_ne t15 t16 (by decide)))
        have r17 := zs_pt.kept r17 (ho2 _ (cs_ne t17 t16 (by decide)))
        have r18 := zs_pt.kept r18 (ho2 _ (cs_ne t18 t16 (by decide)))
        have r19 := zs_pt.kept r19 (ho2 _ (cs_ne t19 t16 (by decide)))
        have r20 := zs_pt.kept r20 (ho2 _ (cs_ne t20 t16 (by decide)))
        have hO2 : md_O D E κ x ad sc (va_up (va_up ar 15 (va_up (ar 15) (5 * (6 * r + i) + j) (nI (u + 1)))) 16 (va_up (ar 16) (5 * (6 * r + i) + j) (vp_nar FieldType.boolean (nI 0)))) H2 := ⟨t0, hx, t5, t6, t7, t8, t9, t10, t11, t12, t13, t14, t15, t16, t17, t18, t19, t20, r5, r6, r7, r8, r9, r10, r11, r12, r13, r14, hp1, hp2, r17, r18, r19, r20⟩
        refine zs_aload_n hE 2 dX7_mark_95 rfl rfl ?_
        refine zs_iload hE 0 dX7_mark_96 rfl ?_
        refine zs_callV (av := [.int ((nI (sp_mk S i r j)) - (nI 1))]) (st := []) hE (m_X7_tells D E B l κ x ad sc (va_up (va_up ar 15 (va_up (ar 15) (5 * (6 * r + i) + j) (nI (u + 1)))) 16 (va_up (ar 16) (5 * (6 * r + i) + j) (vp_nar FieldType.boolean (nI 0)))) ((nI (sp_mk S i r j)) - (nI 1))) sV_X7_93 hx rfl rfl (hO2) ⟨by decide, by decide⟩ ⟨by decide, by decide⟩ (fun q w9 => Or.inl w9) (Nat.le_of_ble_eq_true rfl) dX7_mark_98 (fun v3 H3 hv3 hz3 hk3 => ?_)
        obtain ⟨rfl, cz, cO⟩ := hv3
        refine zs_widen (k' := 0) (n' := 0) (by decide) (by decide) ?_
        exact zs_iret hE hr (mq_mk (S' := s_mark S i r j (u + 1)) (k := 0) (by rw [o_mark, er]; simp only []; rw [ei]; simp only []; rw [ej]; simp only []; rw [eu]; simp only []; rw [pI_f (by omega)]; rfl) (by omega) (fun _ => rfl) cO (mi_4 (mi_mark hM (by omega) lr lj (va_up_self _ _ _) (fun k hk => va_up_ne _ _ hk) (va_up_self _ _ _) (fun k hk => va_up_ne _ _ hk) (by omega)))) (by decide) (by decide) dX7_mark_101
      · refine zs_aload_n hE 0 dX7_mark_47 rfl rfl ?_
        refine zs_iconst (v := (nI 3)) hE dX7_mark_48 (by decide) ?_
        refine zs_callV (av := [.int (nI 3)]) (st := []) hE (m_X7_fails D E B l κ x ad sc ar 3) sV_X7_81 hx rfl rfl (hO) ⟨by decide, by decide⟩ ⟨by decide, by decide⟩ (fun q w9 => Or.inl w9) (Nat.le_of_ble_eq_true rfl) dX7_mark_49 (fun v4 H4 hv4 hz4 hk4 => ?_)
        obtain ⟨rfl, cz, cO⟩ := hv4
        refine zs_widen (k' := 0) (n' := 0) (by decide) (by decide) ?_
        exact zs_iret hE hr (mq_mk (S' := S) (v := .null) (k := 3) (by rw [o_mark, er]; simp only []; rw [ei]; simp only []; rw [ej]; simp only []; rw [eu]; simp only []; rw [pI_t (by omega)]; rfl) cz (fun w9 => by cases w9) cO (mi_4 hM)) (by decide) (by decide) dX7_mark_52
    · refine zs_aload_n hE 0 dX7_mark_27 rfl rfl ?_
      refine zs_iconst (v := (nI 2)) hE dX7_mark_28 (by decide) ?_
      refine zs_callV (av := [.int (nI 2)]) (st := []) hE (m_X7_fails D E B l κ x ad sc ar 2) sV_X7_81 hx rfl rfl (hO) ⟨by decide, by decide⟩ ⟨by decide, by decide⟩ (fun q w9 => Or.inl w9) (Nat.le_of_ble_eq_true rfl) dX7_mark_29 (fun v5 H5 hv5 hz5 hk5 => ?_)
      obtain ⟨rfl, cz, cO⟩ := hv5
      refine zs_widen (k' := 0) (n' := 0) (by decide) (by decide) ?_
      exact zs_iret hE hr (mq_mk (S' := S) (v := .null) (k := 2) (by rw [o_mark, er]; simp only []; rw [ei]; simp only []; rw [ej]; simp only []; rw [Classical.not_not.mp h2]; rfl) cz (fun w9 => by cases w9) cO (mi_4 hM)) (by decide) (by decide) dX7_mark_32
  · rw [mp0] at h1
    refine zs_aload_n hE 0 dX7_mark_10 rfl rfl ?_
    refine zs_iconst (v := (nI 1)) hE dX7_mark_11 (by decide) ?_
    refine zs_callV (av := [.int (nI 1)]) (st := []) hE (m_X7_fails D E B l κ x ad sc ar 1) sV_X7_81 hx rfl rfl (hO) ⟨by decide, by decide⟩ ⟨by decide, by decide⟩ (fun q w9 => Or.inl w9) (Nat.le_of_ble_eq_true rfl) dX7_mark_12 (fun v6 H6 hv6 hz6 hk6 => ?_)
    obtain ⟨rfl, cz, cO⟩ := hv6
    refine zs_widen (k' := 0) (n' := 0) (by decide) (by decide) ?_
    exact zs_iret hE hr (mq_mk (S' := S) (v := .null) (k := 1) (by rw [o_mark]; cases er : sp_i z 4 with | none => rfl | some r => (cases ei : sp_i w (sp_np S) with | none => rfl | some i => (cases ej : sp_i y 5 with | none => rfl | some j => exact absurd ⟨by rw [ej]; simp, by rw [er]; simp, by rw [ei]; simp⟩ h1))) cz (fun w9 => by cases w9) cO (mi_4 hM)) (by decide) (by decide) dX7_mark_15

set_option maxHeartbeats 4000000 in
set_option maxRecDepth 100000 in
theorem m_X7_affirm (D : va_G) (E : Nat → ClassId) (B : Nat) (l : Launch) (κ : Nat → Nat) (x : Nat) (ad sc : Nat → Nat) (ar : Nat → Nat → Int32) (S : sp_S) (y z w : Int32) (hM : mi_ S sc ar) (hw : sp_wf S) : zs_Ct D E B l yX7_affirm cX7_affirm 5 (some .int) ({ frames := 3, cells := 0, slots := 0, locals := 66 } : Room) [.ref x, .int y, .int z, .int w] (fun H => md_O D E κ x ad sc ar H) (md_F κ) (mq_ D E κ x ad (o_affirm S y z w)) := by
  refine zs_ct (by decide) (Nat.le_of_ble_eq_true rfl) (fun p e s m below meth c hE hr hin hp => ?_)
  refine zs_lo (lo' := [(0, .ref x), (1, .int y), (2, .int z), (3, .int w)]) rfl ?_
  have hO := hp
  obtain ⟨t0, hx, t5, t6, t7, t8, t9, t10, t11, t12, t13, t14, t15, t16, t17, t18, t19, t20, r5, r6, r7, r8, r9, r10, r11, r12, r13, r14, r15, r16, r17, r18, r19, r20⟩ := id hO
  obtain ⟨wN, wP, wV, wA, wH, wZ, wF⟩ := id hw
  obtain ⟨n6, n40, n12, n8, n99⟩ := id wN
  obtain ⟨⟨mp0, mP⟩, ⟨mv0, mV⟩, ⟨mt0, mT⟩, mH, ⟨mz0, mZ⟩, mE⟩ := id hM
  refine zs_aload_n hE 0 dX7_affirm_0 rfl rfl ?_
  refine zs_iload_n hE 1 dX7_affirm_1 rfl rfl ?_
  refine zs_iload_n hE 2 dX7_affirm_2 rfl rfl ?_
  refine zs_iload_n hE 3 dX7_affirm_3 rfl rfl ?_
  refine zs_callVR (av := [.int y, .int z, .int w]) (st := []) (b := x) hE (m_X7_isMark D E B l κ x ad sc ar y z w (by omega)) rfl rfl sV_X7_144 hx rfl rfl (hO) ⟨by decide, by decide⟩ ⟨by decide, by decide⟩ (Nat.le_of_ble_eq_true rfl) dX7_affirm_4 ?_
  refine zs_if_neB (tgt := 16) hE dX7_affirm_7 (by decide) (fun h1 => ?_) (fun h1 => ?_)
  · rw [mp0] at h1
    obtain ⟨j, ej⟩ : ∃ e, sp_i y (5) = some e := by cases z9 : sp_i y (5) with | none => exact absurd z9 h1.1 | some q9 => exact ⟨q9, rfl⟩
    have lj := (sp_i_lt ej).1
    obtain ⟨r, er⟩ : ∃ e, sp_i z (4) = some e := by cases z9 : sp_i z (4) with | none => exact absurd z9 h1.2.1 | some q9 => exact ⟨q9, rfl⟩
    have lr := (sp_i_lt er).1
    obtain ⟨i, ei⟩ : ∃ e, sp_i w (sp_np S) = some e := by cases z9 : sp_i w (sp_np S) with | none => exact absurd z9 h1.2.2 | some q9 => exact ⟨q9, rfl⟩
    have li := (sp_i_lt ei).1
    refine zs_lo (lo' := [(0, .ref x), (1, .int (nI j)), (2, .int (nI r)), (3, .int (nI i))]) (by rw [(sp_i_lt ej).2, (sp_i_lt er).2, (sp_i_lt ei).2]) ?_
    obtain ⟨mh, mjk⟩ := mH r lr i (by omega)
    obtain ⟨mm, ma⟩ := mjk j lj
    have mb := sp_mkb wH i r j lj
    have hvb := (wH i r).2.1
    refine zs_iconst (v := (nI 5)) hE dX7_affirm_16 (by decide) ?_
    refine zs_bipush (v := (nI 6)) hE dX7_affirm_17 (by decide) ?_
    refine zs_iload_n hE 2 dX7_affirm_19 rfl rfl ?_
    refine zs_imulN hE dX7_affirm_20 ?_
    refine zs_iload_n hE 3 dX7_affirm_21 rfl rfl ?_
    refine zs_iaddN hE dX7_affirm_22 ?_
    refine zs_imulN hE dX7_affirm_23 ?_
    refine zs_iload_n hE 1 dX7_affirm_24 rfl rfl ?_
    refine zs_iaddN hE dX7_affirm_25 ?_
    refine zs_istore (lo' := [(4, .int (nI (5 * (6 * r + i) + j))), (0, .ref x), (1, .int (nI j)), (2, .int (nI r)), (3, .int (nI i))]) hE dX7_affirm_26 (by decide) rfl ?_
    refine zs_aload_n hE 1 dX7_affirm_28 rfl rfl ?_
    refine zs_get hE fl_X7_61 hx rfl dX7_affirm_29 ?_
    refine zs_iload hE 0 dX7_affirm_32 rfl ?_
    refine zs_zald hE r16 (by omega) (by decide) dX7_affirm_34 ?_
    refine zs_top (v' := .int (zs_b (sp_mk S i r j ≠ 0 ∧ sp_ct S i r j = 0))) (by rw [ma]; by_cases w9 : sp_mk S i r j ≠ 0 ∧ sp_ct S i r j = 0; rw [if_pos w9]; exact vb1 w9; rw [if_neg w9]; exact vb0 w9) ?_
    refine zs_if_neB (tgt := 44) hE dX7_affirm_35 (by decide) (fun h2 => ?_) (fun h2 => ?_)
    · refine zs_aload_n hE 1 dX7_affirm_44 rfl rfl ?_
      refine zs_get hE fl_X7_61 hx rfl dX7_affirm_45 ?_
      refine zs_iload hE 0 dX7_affirm_48 rfl ?_
      refine zs_iconst (v := (nI 0)) hE dX7_affirm_50 (by decide) ?_
      refine zs_zast hE r16 (Or.inl (show 500 ≤ κ (ad 16) by omega)) (by omega) (by decide) dX7_affirm_51 (fun H1 hp1 hz1 ho1 => ?_)
      have hx := zs_pt.kept hx (ho1 _ (cs_ne t0 t16 (by decide)))
      have r5 := zs_pt.kept r5 (ho1 _ (cs_ne t5 t16 (by decide)))
      have r6 := zs_pt.kept r6 (ho1 _ (cs_ne t6 t16 (by decide)))
      have r7 := zs_pt.kept r7 (ho1 _ (cs_ne t7 t16 (by decide)))
      have r8 := zs_pt.kept r8 (ho1 _ (cs_ne t8 t16 (by decide)))
      have r9 := zs_pt.kept r9 (ho1 _ (cs_ne t9 t16 (by decide)))
      have r10 := zs_pt.kept r10 (ho1 _ (cs_ne t10 t16 (by decide)))
      have r11 := zs_pt.kept r11 (ho1 _ (cs_ne t11 t16 (by decide)))
      have r12 := zs_pt.kept r12 (ho1 _ (cs_ne t12 t16 (by decide)))
      have r13 := zs_pt.kept r13 (ho1 _ (cs_ne t13 t16 (by decide)))
      have r14 := zs_pt.kept r14 (ho1 _ (cs_ne t14 t16 (by decide)))
      have r15 := zs_pt.kept r15 (ho1 _ (cs_ne t15 t16 (by decide)))
      have r17 := zs_pt.kept r17 (ho1 _ (cs_ne t17 t16 (by decide)))
      have r18 := zs_pt.kept r18 (ho1 _ (cs_ne t18 t16 (by decide)))
      have r19 := zs_pt.kept r19 (ho1 _ (cs_ne t19 t16 (by decide)))
      have r20 := zs_pt.kept r20 (ho1 _ (cs_ne t20 t16 (by decide)))
      have hO2 : md_O D E κ x ad sc (va_up (va_up ar 15 (ar 15)) 16 (va_up (ar 16) (5 * (6 * r + i) + j) (vp_nar FieldType.boolean (nI 0)))) H1 := ⟨t0, hx, t5, t6, t7, t8, t9, t10, t11, t12, t13, t14, t15, t16, t17, t18, t19, t20, r5, r6, r7, r8, r9, r10, r11, r12, r13, r14, r15, hp1, r17, r18, r19, r20⟩
      refine zs_aload_n hE 1 dX7_affirm_52 rfl rfl ?_
      refine zs_aload_n hE 1 dX7_affirm_53 rfl rfl ?_
      refine zs_get hE fl_X7_58 hx rfl dX7_affirm_54 ?_
      refine zs_iload hE 0 dX7_affirm_57 rfl ?_
      refine zs_iald hE r15 (by omega) (by decide) dX7_affirm_59 ?_
      refine zs_top (v' := .int (nI (sp_mk S i r j))) (by rw [mm]) ?_
      refine zs_iconst (v := (nI 1)) hE dX7_affirm_60 (by decide) ?_
      refine zs_isub hE dX7_affirm_61 ?_
      refine zs_callV (av := [.int ((nI (sp_mk S i r j)) - (nI 1))]) (st := []) hE (m_X7_tells D E B l κ x ad sc (va_up (va_up ar 15 (ar 15)) 16 (va_up (ar 16) (5 * (6 * r + i) + j) (vp_nar FieldType.boolean (nI 0)))) ((nI (sp_mk S i r j)) - (nI 1))) sV_X7_93 hx rfl rfl (hO2) ⟨by decide, by decide⟩ ⟨by decide, by decide⟩ (fun q w9 => Or.inl w9) (Nat.le_of_ble_eq_true rfl) dX7_affirm_62 (fun v2 H2 hv2 hz2 hk2 => ?_)
      obtain ⟨rfl, cz, cO⟩ := hv2
      refine zs_widen (k' := 0) (n' := 0) (by decide) (by decide) ?_
      exact zs_iret hE hr (mq_mk (S' := s_mark S i r j (sp_mk S i r j)) (k := 0) (by rw [o_affirm, er]; simp only []; rw [ei]; simp only []; rw [ej]; simp only []; rw [pI_f (by omega)]; rfl) (by omega) (fun _ => rfl) cO (mi_4 (mi_mark hM (by omega) lr lj mm (fun k hk => rfl) (va_up_self _ _ _) (fun k hk => va_up_ne _ _ hk) h2.1))) (by decide) (by decide) dX7_affirm_65
    · refine zs_aload_n hE 1 dX7_affirm_38 rfl rfl ?_
      refine zs_iconst (v := (nI 2)) hE dX7_affirm_39 (by decide) ?_
      refine zs_callV (av := [.int (nI 2)]) (st := []) hE (m_X7_fails D E B l κ x ad sc ar 2) sV_X7_81 hx rfl rfl (hO) ⟨by decide, by decide⟩ ⟨by decide, by decide⟩ (fun q w9 => Or.inl w9) (Nat.le_of_ble_eq_true rfl) dX7_affirm_40 (fun v3 H3 hv3 hz3 hk3 => ?_)
      obtain ⟨rfl, cz, cO⟩ := hv3
      refine zs_widen (k' := 0) (n' := 0) (by decide) (by decide) ?_
      exact zs_iret hE hr (mq_mk (S' := S) (v := .null) (k := 2) (by rw [o_affirm, er]; simp only []; rw [ei]; simp only []; rw [ej]; simp only []; rw [pI_t (by omega)]; rfl) cz (fun w9 => by cases w9) cO (mi_4 hM)) (by decide) (by decide) dX7_affirm_43
  · rw [mp0] at h1
    refine zs_aload_n hE 0 dX7_affirm_10 rfl rfl ?_
    refine zs_iconst (v := (nI 1)) hE dX7_affirm_11 (by decide) ?_
    refine zs_callV (av := [.int (nI 1)]) (st := []) hE (m_X7_fails D E B l κ x ad sc ar 1) sV_X7_81 hx rfl rfl (hO) ⟨by decide, by decide⟩ ⟨by decide, by decide⟩ (fun q w9 => Or.inl w9) (Nat.le_of_ble_eq_true rfl) dX7_affirm_12 (fun v4 H4 hv4 hz4 hk4 => ?_)
    obtain ⟨rfl, cz, cO⟩ := hv4
    refine zs_widen (k' := 0) (n' := 0) (by decide) (by decide) ?_
    exact zs_iret hE hr (mq_mk (S' := S) (v := .null) (k := 1) (by rw [o_affirm]; cases er : sp_i z 4 with | none => rfl | some r => (cases ei : sp_i w (sp_np S) with | none => rfl | some i => (cases ej : sp_i y 5 with | none => rfl | some j => exact absurd ⟨by rw [ej]; simp, by rw [er]; simp, by rw [ei]; simp⟩ h1))) cz (fun w9 => by cases w9) cO (mi_4 hM)) (by decide) (by decide) dX7_affirm_15


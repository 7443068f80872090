/-! the model: hear -/
theorem mi_hear {S : sp_S} {sc : Nat → Nat} {ar : Nat → Nat → Int32} {i r v : Nat} {f14 f15 f16 : Nat → Int32} (h : mi_ S sc ar) (hi : i < 6) (hr : r < 4) (a1 : f14 (6 * r + i) = nI (v + 1)) (a2 : ∀ k, k ≠ 6 * r + i → f14 k = ar 14 k) (b1 : ∀ j, j < 5 → f15 (5 * (6 * r + i) + j) = 0 ∧ f16 (5 * (6 * r + i) + j) = 0) (b2 : ∀ k, (k < 5 * (6 * r + i) ∨ 5 * (6 * r + i) + 5 ≤ k) → f15 k = ar 15 k ∧ f16 k = ar 16 k) : mi_ (s_hear0 S i r v) sc (va_up (va_up (va_up ar 15 f15) 16 f16) 14 f14) := by
  obtain ⟨h1, h2, h3, h5, h6⟩ := h
  refine ⟨h1, h2, h3, fun r2 hr2 i2 hi2 => ?_, h6⟩
  obtain ⟨g1, g2⟩ := h5 r2 hr2 i2 hi2
  by_cases e : i2 = i ∧ r2 = r
  · obtain ⟨rfl, rfl⟩ := e
    refine ⟨?_, fun j2 hj2 => ?_⟩
    · show f14 (6 * r2 + i2) = nI (if i2 = i2 ∧ r2 = r2 then v + 1 else sp_hv S i2 r2)
      rw [a1, if_pos ⟨rfl, rfl⟩]
    · show f15 (5 * (6 * r2 + i2) + j2) = nI (if i2 = i2 ∧ r2 = r2 then 0 else sp_mk S i2 r2 j2) ∧ f16 (5 * (6 * r2 + i2) + j2) = nI (if (if i2 = i2 ∧ r2 = r2 then 0 else sp_mk S i2 r2 j2) ≠ 0 ∧ (if i2 = i2 ∧ r2 = r2 then 0 else sp_ct S i2 r2 j2) = 0 then 1 else 0)
      simp only [and_self, if_true]
      rw [(b1 j2 hj2).1, (b1 j2 hj2).2, if_neg (fun w => w.1 rfl)]
      exact ⟨rfl, rfl⟩
  · refine ⟨?_, fun j2 hj2 => ?_⟩
    · show f14 (6 * r2 + i2) = nI (if i2 = i ∧ r2 = r then v + 1 else sp_hv S i2 r2)
      rw [if_neg e, a2 _ (by omega)]; exact g1
    · show f15 (5 * (6 * r2 + i2) + j2) = nI (if i2 = i ∧ r2 = r then 0 else sp_mk S i2 r2 j2) ∧ f16 (5 * (6 * r2 + i2) + j2) = nI (if (if i2 = i ∧ r2 = r then 0 else sp_mk S i2 r2 j2) ≠ 0 ∧ (if i2 = i ∧ r2 = r then 0 else sp_ct S i2 r2 j2) = 0 then 1 else 0)
      simp only [if_neg e]
      obtain ⟨w1, w2⟩ := b2 (5 * (6 * r2 + i2) + j2) (by omega)
      rw [w1, w2]
      exact g2 j2 hj2
theorem up_id {α : Type} {f : Nat → α} {k : Nat} {v : α} (h : f k = v) : va_up f k v = f := by
  funext j
  by_cases e : j = k
  · rw [e, va_up_self, h]
  · rw [va_up_ne _ _ e]

set_option maxHeartbeats 4000000 in
set_option maxRecDepth 100000 in
theorem m_X7_hear (D : va_G) (E : Nat → ClassId) (B : Nat) (l : Launch) (κ : Nat → Nat) (x : Nat) (ad sc : Nat → Nat) (ar : Nat → Nat → Int32) (S : sp_S) (y z : Int32) (hM : mi_ S sc ar) (hw : sp_wf S) : zs_Ct D E B l yX7_hear cX7_hear 6 (some .int) ({ frames := 2, cells := 0, slots := 0, locals := 43 } : Room) [.ref x, .int y, .int z] (fun H => md_O D E κ x ad sc ar H) (md_F κ) (mq_ D E κ x ad (o_hear S y z)) := by
  refine zs_ct (by decide) (Nat.le_of_ble_eq_true rfl) (fun p e s m below meth c hE hr hin hp => ?_)
  refine zs_lo (lo' := [(0, .ref x), (1, .int y), (2, .int z)]) rfl ?_
  have hO := hp
  obtain ⟨t0, hx, t5, t6, t7, t8, t9, t10, t11, t12, t13, t14, t15, t16, t17, t18, t19, t20, r5, r6, r7, r8, r9, r10, r11, r12, r13, r14, r15, r16, r17, r18, r19, r20⟩ := id hO
  obtain ⟨wN, wP, wV, wA, wH, wZ, wF⟩ := id hw
  obtain ⟨n6, n40, n12, n8, n99⟩ := id wN
  obtain ⟨⟨mp0, mP⟩, ⟨mv0, mV⟩, ⟨mt0, mT⟩, mH, ⟨mz0, mZ⟩, mE⟩ := id hM
  refine zs_iload_n hE 1 dX7_hear_0 rfl rfl ?_
  refine zs_callSR (av := [.int y]) (st := []) hE (m_X7_isRound D E B l y) rfl rfl sS_X7_141 (trivial) ⟨by decide, by decide⟩ ⟨by decide, by decide⟩ (Nat.le_of_ble_eq_true rfl) dX7_hear_1 ?_
  refine zs_if_eqB (tgt := 15) hE dX7_hear_4 (by decide) (fun h1 => ?_) (fun h1 => ?_)
  · refine zs_aload_n hE 0 dX7_hear_15 rfl rfl ?_
    refine zs_iconst (v := (nI 1)) hE dX7_hear_16 (by decide) ?_
    refine zs_callV (av := [.int (nI 1)]) (st := []) hE (m_X7_fails D E B l κ x ad sc ar 1) sV_X7_81 hx rfl rfl (hO) ⟨by decide, by decide⟩ ⟨by decide, by decide⟩ (fun q w9 => Or.inl w9) (Nat.le_of_ble_eq_true rfl) dX7_hear_17 (fun v1 H1 hv1 hz1 hk1 => ?_)
    obtain ⟨rfl, cz, cO⟩ := hv1
    refine zs_widen (k' := 0) (n' := 0) (by decide) (by decide) ?_
    exact zs_iret hE hr (mq_mk (S' := S) (v := .null) (k := 1) (by rw [o_hear]; cases e9 : sp_i z (sp_nv S) with | none => rfl | some v => (simp only []; rw [Classical.not_not.mp h1]; rfl)) cz (fun w9 => by cases w9) cO (mi_4 hM)) (by decide) (by decide) dX7_hear_20
  · refine zs_aload_n hE 0 dX7_hear_7 rfl rfl ?_
    refine zs_iload_n hE 2 dX7_hear_8 rfl rfl ?_
    refine zs_callVR (av := [.int z]) (st := []) (b := x) hE (m_X7_isVersion D E B l κ x ad sc ar z (by omega)) rfl rfl sV_X7_100 hx rfl rfl (hO) ⟨by decide, by decide⟩ ⟨by decide, by decide⟩ (Nat.le_of_ble_eq_true rfl) dX7_hear_9 ?_
    refine zs_if_neB (tgt := 21) hE dX7_hear_12 (by decide) (fun h2 => ?_) (fun h2 => ?_)
    · obtain ⟨v, ev⟩ : ∃ e, sp_i z (sp_nv S) = some e := by cases z9 : sp_i z (sp_nv S) with | none => (rw [mv0] at h2; exact absurd z9 h2) | some j => exact ⟨j, rfl⟩
      have lv := (sp_i_lt ev).1
      refine zs_lo (lo' := [(0, .ref x), (1, .int y), (2, .int (nI v))]) (by rw [(sp_i_lt ev).2]) ?_
      obtain ⟨r, er⟩ : ∃ e, sp_i y 4 = some e := by cases z9 : sp_i y 4 with | none => exact absurd z9 h1 | some q9 => exact ⟨q9, rfl⟩
      have lr := (sp_i_lt er).1
      refine zs_lo (lo' := [(0, .ref x), (1, .int (nI r)), (2, .int (nI v))]) (by rw [(sp_i_lt er).2]) ?_
      have vwl := (wV v lv).1
      obtain ⟨mh, mjk⟩ := mH r lr (sp_vp S v) (by omega)
      have hvb := (wH (sp_vp S v) r).2.1
      refine zs_bipush (v := (nI 6)) hE dX7_hear_21 (by decide) ?_
      refine zs_iload_n hE 1 dX7_hear_23 rfl rfl ?_
      refine zs_imulN hE dX7_hear_24 ?_
      refine zs_aload_n hE 0 dX7_hear_25 rfl rfl ?_
      refine zs_get hE fl_X7_39 hx rfl dX7_hear_26 ?_
      refine zs_iload_n hE 2 dX7_hear_29 rfl rfl ?_
      refine zs_iald hE r9 (by omega) (by decide) dX7_hear_30 ?_
      refine zs_top (v' := .int (nI (sp_vp S v))) (by rw [(mV v lv).1]) ?_
      refine zs_iaddN hE dX7_hear_31 ?_
      refine zs_istore_n (lo' := [(3, .int (nI (6 * r + (sp_vp S v)))), (0, .ref x), (1, .int (nI r)), (2, .int (nI v))]) hE dX7_hear_32 rfl (by decide) rfl ?_
      refine zs_aload_n hE 1 dX7_hear_33 rfl rfl ?_
      refine zs_get hE fl_X7_55 hx rfl dX7_hear_34 ?_
      refine zs_iload_n hE 0 dX7_hear_37 rfl rfl ?_
      refine zs_iald hE r14 (by omega) (by decide) dX7_hear_38 ?_
      refine zs_top (v' := .int (nI (sp_hv S (sp_vp S v) r))) (by rw [mh]) ?_
      refine zs_iconst (v := (nI 1)) hE dX7_hear_39 (by decide) ?_
      refine zs_isub hE dX7_hear_40 ?_
      refine zs_istore (lo' := [(4, .int ((nI (sp_hv S (sp_vp S v) r)) - (nI 1))), (3, .int (nI (6 * r + (sp_vp S v)))), (0, .ref x), (1, .int (nI r)), (2, .int (nI v))]) hE dX7_hear_41 (by decide) rfl ?_
      refine zs_iload hE 0 dX7_hear_43 rfl ?_
      refine zs_iload_n hE 4 dX7_hear_45 rfl rfl ?_
      refine zs_icmp_eq (tgt := 88) hE dX7_hear_46 (by decide) (fun h3 => ?_) (fun h3 => ?_)
      · have hs := (hv_eq (by omega) (by omega)).mp h3
        refine zs_aload_n hE 2 dX7_hear_88 rfl rfl ?_
        refine zs_get hE fl_X7_55 hx rfl dX7_hear_89 ?_
        refine zs_iload_n hE 1 dX7_hear_92 rfl rfl ?_
        refine zs_iload_n hE 4 dX7_hear_93 rfl rfl ?_
        refine zs_iconst (v := (nI 1)) hE dX7_hear_94 (by decide) ?_
        refine zs_iaddN hE dX7_hear_95 ?_
        refine zs_iast hE r14 (Or.inl (show 500 ≤ κ (ad 14) by omega)) (by omega) (by decide) dX7_hear_96 (fun H2 hp2 hz2 ho2 => ?_)
        have hx := zs_pt.kept hx (ho2 _ (cs_ne t0 t14 (by decide)))
        have r5 := zs_pt.kept r5 (ho2 _ (cs_ne t5 t14 (by decide)))
        have r6 := zs_pt.kept r6 (ho2 _ (cs_ne t6 t14 (by decide)))
        have r7 := zs_pt.kept r7 (ho2 _ (cs_ne t7 t14 (by decide)))
        have r8 := zs_pt.kept r8 (ho2 _ (cs_ne t8 t14 (by decide)))
        have r9 := zs_pt.kept r9 (ho2 _ (cs_ne t9 t14 (by decide)))
        have r10 := zs_pt.kept r10 (ho2 _ (cs_ne t10 t14 (by decide)))
        have r11 := zs_pt.kept r11 (ho2 _ (cs_ne t11 t14 (by decide)))
        have r12 := zs_pt.kept r12 (ho2 _ (cs_ne t12 t14 (by decide)))
        have r13 := zs_pt.kept r13 (ho2 _ (cs_ne t13 t14 (by decide)))
        have r15 := zs_pt.kept r15 (ho2 _ (cs_ne t15 t14 (by decide)))
        have r16 := zs_pt.kept r16 (ho2 _ (cs_ne t16 t14 (by decide)))
        have r17 := zs_pt.kept r17 (ho2 _ (cs_ne t17 t14 (by decide)))
        have r18 := zs_pt.kept r18 (ho2 _ (cs_ne t18 t14 (by decide)))
        have r19 := zs_pt.kept r19 (ho2 _ (cs_ne t19 t14 (by decide)))
        have r20 := zs_pt.kept r20 (ho2 _ (cs_ne t20 t14 (by decide)))
        rw [up_id (show ar 14 (6 * r + sp_vp S v) = nI (v + 1) by rw [mh, hs])] at hp2
        have hO2 : md_O D E κ x ad sc ar H2 := ⟨t0, hx, t5, t6, t7, t8, t9, t10, t11, t12, t13, t14, t15, t16, t17, t18, t19, t20, r5, r6, r7, r8, r9, r10, r11, r12, r13, hp2, r15, r16, r17, r18, r19, r20⟩
        refine zs_aload_n hE 2 dX7_hear_97 rfl rfl ?_
        refine zs_iload hE 0 dX7_hear_98 rfl ?_
        refine zs_callV (av := [.int ((nI (sp_hv S (sp_vp S v) r)) - (nI 1))]) (st := []) hE (m_X7_tells D E B l κ x ad sc ar ((nI (sp_hv S (sp_vp S v) r)) - (nI 1))) sV_X7_93 hx rfl rfl (hO2) ⟨by decide, by decide⟩ ⟨by decide, by decide⟩ (fun q w9 => Or.inl w9) (Nat.le_of_ble_eq_true rfl) dX7_hear_100 (fun v3 H3 hv3 hz3 hk3 => ?_)
        obtain ⟨rfl, cz, cO⟩ := hv3
        refine zs_widen (k' := 0) (n' := 0) (by decide) (by decide) ?_
        exact zs_iret hE hr (mq_mk (S' := S) (k := 0) (by rw [o_hear, ev]; simp only []; rw [er]; simp only []; rw [s_hear, if_pos hs]; rfl) (by omega) (fun _ => rfl) cO (mi_4 hM)) (by decide) (by decide) dX7_hear_103
      · have hs : ¬ sp_hv S (sp_vp S v) r = v + 1 := fun w9 => h3 ((hv_eq (by omega) (by omega)).mpr w9)
        refine zs_iconst (v := (nI 0)) hE dX7_hear_49 (by decide) ?_
        refine zs_istore (lo' := [(5, .int (nI 0)), (4, .int ((nI (sp_hv S (sp_vp S v) r)) - (nI 1))), (3, .int (nI (6 * r + (sp_vp S v)))), (0, .ref x), (1, .int (nI r)), (2, .int (nI v))]) hE dX7_hear_50 (by decide) rfl ?_
        have hx0 := hx
        have r50 := r5
        have r60 := r6
        have r70 := r7
        have r80 := r8
        have r90 := r9
        have r100 := r10
        have r110 := r11
        have r120 := r12
        have r130 := r13
        have r140 := r14
        have r150 := r15
        have r160 := r16
        have r170 := r17
        have r180 := r18
        have r190 := r19
        have r200 := r20
        refine zs_sub (lo' := [(5, .int (nI 0)), (0, .ref x), (2, .int (nI v)), (3, .int (nI (6 * r + (sp_vp S v)))), (4, .int ((nI (sp_hv S (sp_vp S v) r)) - (nI 1)))]) [0, 3, 5, 2, 1] rfl ?_
        refine zs_ind4 (Hs := fun (j0 : Nat) (K : Heap) (g : Nat → Int32) (g2 : Nat → Int32) => K) (ks := fun (j0 : Nat) (K : Heap) (g : Nat → Int32) (g2 : Nat → Int32) => 0) (ns := fun (j0 : Nat) (K : Heap) (g : Nat → Int32) (g2 : Nat → Int32) => 0) (los := fun (j0 : Nat) (K : Heap) (g : Nat → Int32) (g2 : Nat → Int32) => [(5, .int (nI j0)), (0, .ref x), (2, .int (nI v)), (3, .int (nI (6 * r + sp_vp S v))), (4, .int (nI (sp_hv S (sp_vp S v) r) - 1))]) (I := fun (j0 : Nat) (K : Heap) (g : Nat → Int32) (g2 : Nat → Int32) => j0 ≤ 5 ∧ K.size = s.heap.size ∧ (∀ q, q < s.heap.size → q ≠ ad 15 → q ≠ ad 16 → K[q]? = s.heap[q]?) ∧ zs_pt D (ad 15) (.inl (E 0, 120, .inl g)) K ∧ zs_pt D (ad 16) (.inl (E 2, 120, .inl g2)) K ∧ ∀ k, (5 * (6 * r + sp_vp S v) ≤ k → k < 5 * (6 * r + sp_vp S v) + j0 → g k = 0 ∧ g2 k = 0) ∧ ((k < 5 * (6 * r + sp_vp S v) ∨ 5 * (6 * r + sp_vp S v) + j0 ≤ k) → g k = ar 15 k ∧ g2 k = ar 16 k)) (μ := fun (j0 : Nat) (K : Heap) (g : Nat → Int32) (g2 : Nat → Int32) => 5 - j0) 0 s.heap (ar 15) (ar 16) (⟨Nat.zero_le _, rfl, fun _ _ _ _ => rfl, r15, r16, fun k => ⟨fun w1 w2 => by omega, fun _ => ⟨rfl, rfl⟩⟩⟩) (fun j0 K g g2 hi ih => ?_)
        try dsimp only at hi ih ⊢
        obtain ⟨j5, kz, ko, k15, k16, kf⟩ := hi
        have hx := hx0.kept (ko _ hx0.lt (cs_ne t0 t15 (by decide)) (cs_ne t0 t16 (by decide)))
        have r5 := r50.kept (ko _ r50.lt (cs_ne t5 t15 (by decide)) (cs_ne t5 t16 (by decide)))
        have r6 := r60.kept (ko _ r60.lt (cs_ne t6 t15 (by decide)) (cs_ne t6 t16 (by decide)))
        have r7 := r70.kept (ko _ r70.lt (cs_ne t7 t15 (by decide)) (cs_ne t7 t16 (by decide)))
        have r8 := r80.kept (ko _ r80.lt (cs_ne t8 t15 (by decide)) (cs_ne t8 t16 (by decide)))
        have r9 := r90.kept (ko _ r90.lt (cs_ne t9 t15 (by decide)) (cs_ne t9 t16 (by decide)))
        have r10 := r100.kept (ko _ r100.lt (cs_ne t10 t15 (by decide)) (cs_ne t10 t16 (by decide)))
        have r11 := r110.kept (ko _ r110.lt (cs_ne t11 t15 (by decide)) (cs_ne t11 t16 (by decide)))
        have r12 := r120.kept (ko _ r120.lt (cs_ne t12 t15 (by decide)) (cs_ne t12 t16 (by decide)))
        have r13 := r130.kept (ko _ r130.lt (cs_ne t13 t15 (by decide)) (cs_ne t13 t16 (by decide)))
        have r14 := r140.kept (ko _ r140.lt (cs_ne t14 t15 (by decide)) (cs_ne t14 t16 (by decide)))
        have r17 := r170.kept (ko _ r170.lt (cs_ne t17 t15 (by decide)) (cs_ne t17 t16 (by decide)))
        have r18 := r180.kept (ko _ r180.lt (cs_ne t18 t15 (by decide)) (cs_ne t18 t16 (by decide)))
        have r19 := r190.kept (ko _ r190.lt (cs_ne t19 t15 (by decide)) (cs_ne t19 t16 (by decide)))
        have r20 := r200.kept (ko _ r200.lt (cs_ne t20 t15 (by decide)) (cs_ne t20 t16 (by decide)))
        refine zs_iload hE 0 dX7_hear_52 rfl ?_
        refine zs_iconst (v := (nI 5)) hE dX7_hear_54 (by decide) ?_
        refine zs_icmp_geN (tgt := 88) hE (by omega) (by decide) dX7_hear_55 (by decide) (fun h5 => ?_) (fun h => ?_)
        · obtain rfl : j0 = 5 := by omega
          refine zs_aload_n hE 1 dX7_hear_88 rfl rfl ?_
          refine zs_get hE fl_X7_55 hx rfl dX7_hear_89 ?_
          refine zs_iload_n hE 3 dX7_hear_92 rfl rfl ?_
          refine zs_iload_n hE 2 dX7_hear_93 rfl rfl ?_
          refine zs_iconst (v := (nI 1)) hE dX7_hear_94 (by decide) ?_
          refine zs_iaddN hE dX7_hear_95 ?_
          refine zs_iast hE r14 (Or.inl (show 500 ≤ κ (ad 14) by omega)) (by omega) (by decide) dX7_hear_96 (fun H4 hp4 hz4 ho4 => ?_)
          have hx := zs_pt.kept hx (ho4 _ (cs_ne t0 t14 (by decide)))
          have r5 := zs_pt.kept r5 (ho4 _ (cs_ne t5 t14 (by decide)))
          have r6 := zs_pt.kept r6 (ho4 _ (cs_ne t6 t14 (by decide)))
          have r7 := zs_pt.kept r7 (ho4 _ (cs_ne t7 t14 (by decide)))
          have r8 := zs_pt.kept r8 (ho4 _ (cs_ne t8 t14 (by decide)))
          have r9 := zs_pt.kept r9 (ho4 _ (cs_ne t9 t14 (by decide)))
          have r10 := zs_pt.kept r10 (ho4 _ (cs_ne t10 t14 (by decide)))
          have r11 := zs_pt.kept r11 (ho4 _ (cs_ne t11 t14 (by decide)))
          have r12 := zs_pt.kept r12 (ho4 _ (cs_ne t12 t14 (by decide)))
          have r13 := zs_pt.kept r13 (ho4 _ (cs_ne t13 t14 (by decide)))
          have k15 := zs_pt.kept k15 (ho4 _ (cs_ne t15 t14 (by decide)))
          have k16 := zs_pt.kept k16 (ho4 _ (cs_ne t16 t14 (by decide)))
          have r17 := zs_pt.kept r17 (ho4 _ (cs_ne t17 t14 (by decide)))
          have r18 := zs_pt.kept r18 (ho4 _ (cs_ne t18 t14 (by decide)))
          have r19 := zs_pt.kept r19 (ho4 _ (cs_ne t19 t14 (by decide)))
          have r20 := zs_pt.kept r20 (ho4 _ (cs_ne t20 t14 (by decide)))
          have hO2 : md_O D E κ x ad sc (va_up (va_up (va_up ar 15 g) 16 g2) 14 (va_up (ar 14) (6 * r + sp_vp S v) (nI (v + 1)))) H4 := ⟨t0, hx, t5, t6, t7, t8, t9, t10, t11, t12, t13, t14, t15, t16, t17, t18, t19, t20, r5, r6, r7, r8, r9, r10, r11, r12, r13, hp4, k15, k16, r17, r18, r19, r20⟩
          refine zs_aload_n hE 1 dX7_hear_97 rfl rfl ?_
          refine zs_iload hE 4 dX7_hear_98 rfl ?_
          refine zs_callV (av := [.int (nI (sp_hv S (sp_vp S v) r) - 1)]) (st := []) hE (m_X7_tells D E B l κ x ad sc (va_up (va_up (va_up ar 15 g) 16 g2) 14 (va_up (ar 14) (6 * r + sp_vp S v) (nI (v + 1)))) (nI (sp_hv S (sp_vp S v) r) - 1)) sV_X7_93 hx rfl rfl (hO2) ⟨by decide, by decide⟩ ⟨by decide, by decide⟩ (fun q w9 => Or.inl w9) (Nat.le_of_ble_eq_true rfl) dX7_hear_100 (fun v5 H5 hv5 hz5 hk5 => ?_)
          obtain ⟨rfl, cz, cO⟩ := hv5
          refine zs_widen (k' := 0) (n' := 0) (by decide) (by decide) ?_
          exact zs_iret hE hr (mq_mk (S' := s_hear0 S (sp_vp S v) r v) (k := 0) (by rw [o_hear, ev]; simp only []; rw [er]; simp only []; rw [s_hear, if_neg hs]) (by omega) (fun _ => rfl) cO (mi_4 (mi_hear hM (by omega) lr (va_up_self _ _ _) (fun k hk => va_up_ne _ _ hk) (fun j hj => (kf (5 * (6 * r + sp_vp S v) + j)).1 (by omega) (by omega)) (fun k hk => (kf k).2 (by omega))))) (by decide) (by decide) dX7_hear_103
        · refine zs_aload_n hE 1 dX7_hear_58 rfl rfl ?_
          refine zs_get hE fl_X7_58 hx rfl dX7_hear_59 ?_
          refine zs_iconst (v := (nI 5)) hE dX7_hear_62 (by decide) ?_
          refine zs_iload_n hE 3 dX7_hear_63 rfl rfl ?_
          refine zs_imulN hE dX7_hear_64 ?_
          refine zs_iload hE 0 dX7_hear_65 rfl ?_
          refine zs_iaddN hE dX7_hear_67 ?_
          refine zs_iconst (v := (nI 0)) hE dX7_hear_68 (by decide) ?_
          refine zs_iast hE k15 (Or.inl (show 500 ≤ κ (ad 15) by omega)) (by omega) (by decide) dX7_hear_69 (fun H6 hp6 hz6 ho6 => ?_)
          have hx := zs_pt.kept hx (ho6 _ (cs_ne t0 t15 (by decide)))
          have r5 := zs_pt.kept r5 (ho6 _ (cs_ne t5 t15 (by decide)))
          have r6 := zs_pt.kept r6 (ho6 _ (cs_ne t6 t15 (by decide)))
          have r7 := zs_pt.kept r7 (ho6 _ (cs_ne t7 t15 (by decide)))
          have r8 := zs_pt.kept r8 (ho6 _ (cs_ne t8 t15 (by decide)))
          have r9 := zs_pt.kept r9 (ho6 _ (cs_ne t9 t15 (by decide)))
          have r10 := zs_pt.kept r10 (ho6 _ (cs_ne t10 t15 (by decide)))
          have r11 := zs_pt.kept r11 (ho6 _ (cs_ne t11 t15 (by decide)))
          have r12 := zs_pt.kept r12 (ho6 _ (cs_ne t12 t15 (by decide)))
          have r13 := zs_pt.kept r13 (ho6 _ (cs_ne t13 t15 (by decide)))
          have r14 := zs_pt.kept r14 (ho6 _ (cs_ne t14 t15 (by decide)))
          have k16 := zs_pt.kept k16 (ho6 _ (cs_ne t16 t15 (by decide)))
          have r17 := zs_pt.kept r17 (ho6 _ (cs_ne t17 t15 (by decide)))
          have r18 := zs_pt.kept r18 (ho6 _ (cs_ne t18 t15 (by decide)))
          have r19 := zs_pt.kept r19 (ho6 _ (cs_ne t19 t15 (by decide)))
          have r20 := zs_pt.kept r20 (ho6 _ (cs_ne t20 t15 (by decide)))
          refine zs_aload_n hE 1 dX7_hear_70 rfl rfl ?_
          refine zs_get hE fl_X7_61 hx rfl dX7_hear_71 ?_
          refine zs_iconst (v := (nI 5)) hE dX7_hear_74 (by decide) ?_
          refine zs_iload_n hE 3 dX7_hear_75 rfl rfl ?_
          refine zs_imulN hE dX7_hear_76 ?_
          refine zs_iload hE 0 dX7_hear_77 rfl ?_
          refine zs_iaddN hE dX7_hear_79 ?_
          refine zs_iconst (v := (nI 0)) hE dX7_hear_80 (by decide) ?_
          refine zs_zast hE k16 (Or.inl (show 500 ≤ κ (ad 16) by omega)) (by omega) (by decide) dX7_hear_81 (fun H7 hp7 hz7 ho7 => ?_)
          have hx := zs_pt.kept hx (ho7 _ (cs_ne t0 t16 (by decide)))
          have r5 := zs_pt.kept r5 (ho7 _ (cs_ne t5 t16 (by decide)))
          have r6 := zs_pt.kept r6 (ho7 _ (cs_ne t6 t16 (by decide)))
          have r7 := zs_pt.kept r7 (ho7 _ (cs_ne t7 t16 (by decide)))
          have r8 := zs_pt.kept r8 (ho7 _ (cs_ne t8 t16 (by decide)))
          have r9 := zs_pt.kept r9 (ho7 _ (cs_ne t9 t16 (by decide)))
          have r10 := zs_pt.kept r10 (ho7 _ (cs_ne t10 t16 (by decide)))
          have r11 := zs_pt.kept r11 (ho7 _ (cs_ne t11 t16 (by decide)))
          have r12 := zs_pt.kept r12 (ho7 _ (cs_ne t12 t16 (by decide)))
          have r13 := zs_pt.kept r13 (ho7 _ (cs_ne t13 t16 (by decide)))
          have r14 := zs_pt.kept r14 (ho7 _ (cs_ne t14 t16 (by decide)))
          have hp6 := zs_pt.kept hp6 (ho7 _ (cs_ne t15 t16 (by decide)))
          have r17 := zs_pt.kept r17 (ho7 _ (cs_ne t17 t16 (by decide)))
          have r18 := zs_pt.kept r18 (ho7 _ (cs_ne t18 t16 (by decide)))
          have r19 := zs_pt.kept r19 (ho7 _ (cs_ne t19 t16 (by decide)))
          have r20 := zs_pt.kept r20 (ho7 _ (cs_ne t20 t16 (by decide)))
          refine zs_iincN (lo' := [(5, .int (nI (j0 + 1))), (0, .ref x), (2, .int (nI v)), (3, .int (nI (6 * r + sp_vp S v))), (4, .int (nI (sp_hv S (sp_vp S v) r) - 1))]) hE 0 dX7_hear_82 rfl (by decide) rfl ?_
          refine zs_goto (tgt := 52) hE dX7_hear_85 (by decide) ?_
          refine zs_sub (lo' := [(5, .int (nI (j0 + 1))), (0, .ref x), (2, .int (nI v)), (3, .int (nI (6 * r + sp_vp S v))), (4, .int (nI (sp_hv S (sp_vp S v) r) - 1))]) [0, 1, 2, 3, 4] rfl ?_
          refine ih (j0 + 1) H7 (va_up g (5 * (6 * r + sp_vp S v) + j0) (nI 0)) (va_up g2 (5 * (6 * r + sp_vp S v) + j0) (vp_nar FieldType.boolean (nI 0))) (⟨by omega, by omega, fun q w1 w2 w3 => (ho7 q w3).trans ((ho6 q w2).trans (ko q w1 w2 w3)), hp6, hp7, fun k => ?_⟩) (by omega)
          by_cases e : k = 5 * (6 * r + sp_vp S v) + j0
          · subst e
            rw [va_up_self, va_up_self]
            exact ⟨fun _ _ => ⟨rfl, rfl⟩, fun w => by omega⟩
          · rw [va_up_ne _ _ e, va_up_ne _ _ e]
            exact ⟨fun w1 w2 => (kf k).1 w1 (by omega), fun w => (kf k).2 (by omega)⟩
    · refine zs_aload_n hE 0 dX7_hear_15 rfl rfl ?_
      refine zs_iconst (v := (nI 1)) hE dX7_hear_16 (by decide) ?_
      refine zs_callV (av := [.int (nI 1)]) (st := []) hE (m_X7_fails D E B l κ x ad sc ar 1) sV_X7_81 hx rfl rfl (hO) ⟨by decide, by decide⟩ ⟨by decide, by decide⟩ (fun q w9 => Or.inl w9) (Nat.le_of_ble_eq_true rfl) dX7_hear_17 (fun v8 H8 hv8 hz8 hk8 => ?_)
      obtain ⟨rfl, cz, cO⟩ := hv8
      refine zs_widen (k' := 0) (n' := 0) (by decide) (by decide) ?_
      exact zs_iret hE hr (mq_mk (S' := S) (v := .null) (k := 1) (by rw [o_hear, show sp_i z (sp_nv S) = none by rw [← mv0]; exact Classical.not_not.mp h2]; rfl) cz (fun w9 => by cases w9) cO (mi_4 hM)) (by decide) (by decide) dX7_hear_20


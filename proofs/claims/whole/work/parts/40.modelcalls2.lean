/-! more of the model's calls -/
set_option maxHeartbeats 4000000 in
set_option maxRecDepth 100000 in
theorem m_X7_base (D : va_G) (E : Nat → ClassId) (B : Nat) (l : Launch) (κ : Nat → Nat) (x : Nat) (ad sc : Nat → Nat) (ar : Nat → Nat → Int32) (S : sp_S) (y z : Int32) (hM : mi_ S sc ar) (hw : sp_wf S) : zs_Ct D E B l yX7_base cX7_base 3 (some .int) ({ frames := 2, cells := 0, slots := 0, locals := 47 } : Room) [.ref x, .int y, .int z] (fun H => md_O D E κ x ad sc ar H) (md_F κ) (mq_ D E κ x ad (o_base S y z)) := by
  refine zs_ct (by decide) (Nat.le_of_ble_eq_true rfl) (fun p e s m below meth c hE hr hin hp => ?_)
  refine zs_lo (lo' := [(0, .ref x), (1, .int y), (2, .int z)]) rfl ?_
  have hO := hp
  obtain ⟨t0, hx, t5, t6, t7, t8, t9, t10, t11, t12, t13, t14, t15, t16, t17, t18, t19, t20, r5, r6, r7, r8, r9, r10, r11, r12, r13, r14, r15, r16, r17, r18, r19, r20⟩ := id hO
  obtain ⟨wN, wP, wV, wA, wH, wZ, wF⟩ := id hw
  obtain ⟨n6, n40, n12, n8, n99⟩ := id wN
  obtain ⟨⟨mp0, mP⟩, ⟨mv0, mV⟩, ⟨mt0, mT⟩, mH, ⟨mz0, mZ⟩, mE⟩ := id hM
  refine zs_aload_n hE 0 dX7_base_0 rfl rfl ?_
  refine zs_iload_n hE 1 dX7_base_1 rfl rfl ?_
  refine zs_callVR (av := [.int y]) (st := []) (b := x) hE (m_X7_isVersion D E B l κ x ad sc ar y (by omega)) rfl rfl sV_X7_100 hx rfl rfl (hO) ⟨by decide, by decide⟩ ⟨by decide, by decide⟩ (Nat.le_of_ble_eq_true rfl) dX7_base_2 ?_
  refine zs_if_eqB (tgt := 16) hE dX7_base_5 (by decide) (fun h1 => ?_) (fun h1 => ?_)
  · refine zs_aload_n hE 0 dX7_base_16 rfl rfl ?_
    refine zs_iconst (v := (nI 1)) hE dX7_base_17 (by decide) ?_
    refine zs_callV (av := [.int (nI 1)]) (st := []) hE (m_X7_fails D E B l κ x ad sc ar 1) sV_X7_81 hx rfl rfl (hO) ⟨by decide, by decide⟩ ⟨by decide, by decide⟩ (fun q w9 => Or.inl w9) (Nat.le_of_ble_eq_true rfl) dX7_base_18 (fun v1 H1 hv1 hz1 hk1 => ?_)
    obtain ⟨rfl, cz, cO⟩ := hv1
    refine zs_widen (k' := 0) (n' := 0) (by decide) (by decide) ?_
    exact zs_iret hE hr (mq_mk (S' := S) (v := .null) (k := 1) (by rw [o_base, show sp_i y (sp_nv S) = none by rw [← mv0]; exact Classical.not_not.mp h1]; rfl) cz (fun w9 => by cases w9) cO (mi_4 hM)) (by decide) (by decide) dX7_base_21
  · obtain ⟨v, ev⟩ : ∃ e, sp_i y (sp_nv S) = some e := by cases z9 : sp_i y (sp_nv S) with | none => (rw [mv0] at h1; exact absurd z9 h1) | some j => exact ⟨j, rfl⟩
    have lv := (sp_i_lt ev).1
    refine zs_lo (lo' := [(0, .ref x), (1, .int (nI v)), (2, .int z)]) (by rw [(sp_i_lt ev).2]) ?_
    refine zs_aload_n hE 0 dX7_base_8 rfl rfl ?_
    refine zs_iload_n hE 2 dX7_base_9 rfl rfl ?_
    refine zs_callVR (av := [.int z]) (st := []) (b := x) hE (m_X7_isVersion D E B l κ x ad sc ar z (by omega)) rfl rfl sV_X7_100 hx rfl rfl (hO) ⟨by decide, by decide⟩ ⟨by decide, by decide⟩ (Nat.le_of_ble_eq_true rfl) dX7_base_10 ?_
    refine zs_if_neB (tgt := 22) hE dX7_base_13 (by decide) (fun h2 => ?_) (fun h2 => ?_)
    · obtain ⟨w, ew⟩ : ∃ e, sp_i z (sp_nv S) = some e := by cases z9 : sp_i z (sp_nv S) with | none => (rw [mv0] at h2; exact absurd z9 h2) | some j => exact ⟨j, rfl⟩
      have lw := (sp_i_lt ew).1
      refine zs_lo (lo' := [(0, .ref x), (1, .int (nI v)), (2, .int (nI w))]) (by rw [(sp_i_lt ew).2]) ?_
      refine zs_aload_n hE 0 dX7_base_22 rfl rfl ?_
      refine zs_get hE fl_X7_39 hx rfl dX7_base_23 ?_
      refine zs_iload_n hE 1 dX7_base_26 rfl rfl ?_
      refine zs_iald hE r9 (by omega) (by decide) dX7_base_27 ?_
      refine zs_top (v' := .int (nI (sp_vp S v))) (by rw [(mV v lv).1]) ?_
      refine zs_aload_n hE 0 dX7_base_28 rfl rfl ?_
      refine zs_get hE fl_X7_39 hx rfl dX7_base_29 ?_
      refine zs_iload_n hE 2 dX7_base_32 rfl rfl ?_
      refine zs_iald hE r9 (by omega) (by decide) dX7_base_33 ?_
      refine zs_top (v' := .int (nI (sp_vp S w))) (by rw [(mV w lw).1]) ?_
      have b1 := (wV v lv).1
      have b2 := (wV w lw).1
      refine zs_icmp_neN (tgt := 50) hE (by omega) (by omega) dX7_base_34 (by decide) (fun h3 => ?_) (fun h3 => ?_)
      · refine zs_aload_n hE 0 dX7_base_50 rfl rfl ?_
        refine zs_iconst (v := (nI 2)) hE dX7_base_51 (by decide) ?_
        refine zs_callV (av := [.int (nI 2)]) (st := []) hE (m_X7_fails D E B l κ x ad sc ar 2) sV_X7_81 hx rfl rfl (hO) ⟨by decide, by decide⟩ ⟨by decide, by decide⟩ (fun q w9 => Or.inl w9) (Nat.le_of_ble_eq_true rfl) dX7_base_52 (fun v2 H2 hv2 hz2 hk2 => ?_)
        obtain ⟨rfl, cz, cO⟩ := hv2
        refine zs_widen (k' := 0) (n' := 0) (by decide) (by decide) ?_
        exact zs_iret hE hr (mq_mk (S' := S) (v := .null) (k := 2) (by rw [o_base, ev]; simp only []; rw [ew]; simp only []; rw [pI_f h3]; rfl) cz (fun w9 => by cases w9) cO (mi_4 hM)) (by decide) (by decide) dX7_base_55
      · refine zs_aload_n hE 0 dX7_base_37 rfl rfl ?_
        refine zs_aload_n hE 0 dX7_base_38 rfl rfl ?_
        refine zs_iload_n hE 1 dX7_base_39 rfl rfl ?_
        refine zs_iload_n hE 2 dX7_base_40 rfl rfl ?_
        refine zs_callV (av := [.int (nI v), .int (nI w)]) (st := [.ref x]) hE (m_X7_baseOf D E B l κ x ad sc ar S v w hM hw lv lw) sV_X7_123 hx rfl rfl (hO) ⟨by decide, by decide⟩ ⟨by decide, by decide⟩ (fun q w9 => Or.inl w9) (Nat.le_of_ble_eq_true rfl) dX7_base_41 (fun v3 H3 hv3 hz3 hk3 => ?_)
        obtain ⟨rfl, bz, f, bO⟩ := hv3
        refine zs_widen (k' := 0) (n' := 0) (by decide) (by decide) ?_
        obtain ⟨-, hx, -, -, -, -, -, -, -, -, -, -, -, -, -, -, -, -, r5, r6, r7, r8, r9, r10, r11, r12, r13, r14, r15, r16, r17, r18, r19, r20⟩ := id bO
        refine zs_callV (av := [.int (sp_oi (sp_bs S v w))]) (st := []) hE (m_X7_tells D E B l κ x ad sc (va_up ar 17 f) (sp_oi (sp_bs S v w))) sV_X7_93 hx rfl rfl (bO) ⟨by decide, by decide⟩ ⟨by decide, by decide⟩ (fun q w9 => Or.inl w9) (Nat.le_of_ble_eq_true rfl) dX7_base_44 (fun v4 H4 hv4 hz4 hk4 => ?_)
        obtain ⟨rfl, cz, cO⟩ := hv4
        refine zs_widen (k' := 0) (n' := 0) (by decide) (by decide) ?_
        refine zs_goto (tgt := 55) hE dX7_base_47 (by decide) ?_
        exact zs_iret hE hr (mq_mk (S' := S) (k := 0) (by rw [o_base, ev]; simp only []; rw [ew]; simp only []; rw [pI_t h3]) (by omega) (fun _ => rfl) cO (mi_4 (mi_17 hM))) (by decide) (by decide) dX7_base_55
    · refine zs_aload_n hE 0 dX7_base_16 rfl rfl ?_
      refine zs_iconst (v := (nI 1)) hE dX7_base_17 (by decide) ?_
      refine zs_callV (av := [.int (nI 1)]) (st := []) hE (m_X7_fails D E B l κ x ad sc ar 1) sV_X7_81 hx rfl rfl (hO) ⟨by decide, by decide⟩ ⟨by decide, by decide⟩ (fun q w9 => Or.inl w9) (Nat.le_of_ble_eq_true rfl) dX7_base_18 (fun v5 H5 hv5 hz5 hk5 => ?_)
      obtain ⟨rfl, cz, cO⟩ := hv5
      refine zs_widen (k' := 0) (n' := 0) (by decide) (by decide) ?_
      exact zs_iret hE hr (mq_mk (S' := S) (v := .null) (k := 1) (by rw [o_base, ev]; simp only []; rw [show sp_i z (sp_nv S) = none by rw [← mv0]; exact Classical.not_not.mp h2]; rfl) cz (fun w9 => by cases w9) cO (mi_4 hM)) (by decide) (by decide) dX7_base_21

set_option maxHeartbeats 4000000 in
set_option maxRecDepth 100000 in
theorem m_X7_unlike (D : va_G) (E : Nat → ClassId) (B : Nat) (l : Launch) (κ : Nat → Nat) (x : Nat) (ad sc : Nat → Nat) (ar : Nat → Nat → Int32) (S : sp_S) (y z : Int32) (hM : mi_ S sc ar) (hw : sp_wf S) : zs_Ct D E B l yX7_unlike cX7_unlike 3 (some .int) ({ frames := 3, cells := 0, slots := 0, locals := 72 } : Room) [.ref x, .int y, .int z] (fun H => md_O D E κ x ad sc ar H) (md_F κ) (mq_ D E κ x ad (o_unlike S y z)) := by
  refine zs_ct (by decide) (Nat.le_of_ble_eq_true rfl) (fun p e s m below meth c hE hr hin hp => ?_)
  refine zs_lo (lo' := [(0, .ref x), (1, .int y), (2, .int z)]) rfl ?_
  have hO := hp
  obtain ⟨t0, hx, t5, t6, t7, t8, t9, t10, t11, t12, t13, t14, t15, t16, t17, t18, t19, t20, r5, r6, r7, r8, r9, r10, r11, r12, r13, r14, r15, r16, r17, r18, r19, r20⟩ := id hO
  obtain ⟨wN, wP, wV, wA, wH, wZ, wF⟩ := id hw
  obtain ⟨n6, n40, n12, n8, n99⟩ := id wN
  obtain ⟨⟨mp0, mP⟩, ⟨mv0, mV⟩, ⟨mt0, mT⟩, mH, ⟨mz0, mZ⟩, mE⟩ := id hM
  refine zs_aload_n hE 0 dX7_unlike_0 rfl rfl ?_
  refine zs_iload_n hE 1 dX7_unlike_1 rfl rfl ?_
  refine zs_callVR (av := [.int y]) (st := []) (b := x) hE (m_X7_isVersion D E B l κ x ad sc ar y (by omega)) rfl rfl sV_X7_100 hx rfl rfl (hO) ⟨by decide, by decide⟩ ⟨by decide, by decide⟩ (Nat.le_of_ble_eq_true rfl) dX7_unlike_2 ?_
  refine zs_if_eqB (tgt := 16) hE dX7_unlike_5 (by decide) (fun h1 => ?_) (fun h1 => ?_)
  · refine zs_aload_n hE 0 dX7_unlike_16 rfl rfl ?_
    refine zs_iconst (v := (nI 1)) hE dX7_unlike_17 (by decide) ?_
    refine zs_callV (av := [.int (nI 1)]) (st := []) hE (m_X7_fails D E B l κ x ad sc ar 1) sV_X7_81 hx rfl rfl (hO) ⟨by decide, by decide⟩ ⟨by decide, by decide⟩ (fun q w9 => Or.inl w9) (Nat.le_of_ble_eq_true rfl) dX7_unlike_18 (fun v1 H1 hv1 hz1 hk1 => ?_)
    obtain ⟨rfl, cz, cO⟩ := hv1
    refine zs_widen (k' := 0) (n' := 0) (by decide) (by decide) ?_
    exact zs_iret hE hr (mq_mk (S' := S) (v := .null) (k := 1) (by rw [o_unlike, show sp_i y (sp_nv S) = none by rw [← mv0]; exact Classical.not_not.mp h1]; rfl) cz (fun w9 => by cases w9) cO (mi_4 hM)) (by decide) (by decide) dX7_unlike_21
  · obtain ⟨v, ev⟩ : ∃ e, sp_i y (sp_nv S) = some e := by cases z9 : sp_i y (sp_nv S) with | none => (rw [mv0] at h1; exact absurd z9 h1) | some j => exact ⟨j, rfl⟩
    have lv := (sp_i_lt ev).1
    refine zs_lo (lo' := [(0, .ref x), (1, .int (nI v)), (2, .int z)]) (by rw [(sp_i_lt ev).2]) ?_
    refine zs_aload_n hE 0 dX7_unlike_8 rfl rfl ?_
    refine zs_iload_n hE 2 dX7_unlike_9 rfl rfl ?_
    refine zs_callVR (av := [.int z]) (st := []) (b := x) hE (m_X7_isVersion D E B l κ x ad sc ar z (by omega)) rfl rfl sV_X7_100 hx rfl rfl (hO) ⟨by decide, by decide⟩ ⟨by decide, by decide⟩ (Nat.le_of_ble_eq_true rfl) dX7_unlike_10 ?_
    refine zs_if_neB (tgt := 22) hE dX7_unlike_13 (by decide) (fun h2 => ?_) (fun h2 => ?_)
    · obtain ⟨w, ew⟩ : ∃ e, sp_i z (sp_nv S) = some e := by cases z9 : sp_i z (sp_nv S) with | none => (rw [mv0] at h2; exact absurd z9 h2) | some j => exact ⟨j, rfl⟩
      have lw := (sp_i_lt ew).1
      refine zs_lo (lo' := [(0, .ref x), (1, .int (nI v)), (2, .int (nI w))]) (by rw [(sp_i_lt ew).2]) ?_
      refine zs_aload_n hE 0 dX7_unlike_22 rfl rfl ?_
      refine zs_get hE fl_X7_39 hx rfl dX7_unlike_23 ?_
      refine zs_iload_n hE 1 dX7_unlike_26 rfl rfl ?_
      refine zs_iald hE r9 (by omega) (by decide) dX7_unlike_27 ?_
      refine zs_top (v' := .int (nI (sp_vp S v))) (by rw [(mV v lv).1]) ?_
      refine zs_aload_n hE 0 dX7_unlike_28 rfl rfl ?_
      refine zs_get hE fl_X7_39 hx rfl dX7_unlike_29 ?_
      refine zs_iload_n hE 2 dX7_unlike_32 rfl rfl ?_
      refine zs_iald hE r9 (by omega) (by decide) dX7_unlike_33 ?_
      refine zs_top (v' := .int (nI (sp_vp S w))) (by rw [(mV w lw).1]) ?_
      have b1 := (wV v lv).1
      have b2 := (wV w lw).1
      refine zs_icmp_neN (tgt := 50) hE (by omega) (by omega) dX7_unlike_34 (by decide) (fun h3 => ?_) (fun h3 => ?_)
      · refine zs_aload_n hE 0 dX7_unlike_50 rfl rfl ?_
        refine zs_iconst (v := (nI 2)) hE dX7_unlike_51 (by decide) ?_
        refine zs_callV (av := [.int (nI 2)]) (st := []) hE (m_X7_fails D E B l κ x ad sc ar 2) sV_X7_81 hx rfl rfl (hO) ⟨by decide, by decide⟩ ⟨by decide, by decide⟩ (fun q w9 => Or.inl w9) (Nat.le_of_ble_eq_true rfl) dX7_unlike_52 (fun v2 H2 hv2 hz2 hk2 => ?_)
        obtain ⟨rfl, cz, cO⟩ := hv2
        refine zs_widen (k' := 0) (n' := 0) (by decide) (by decide) ?_
        exact zs_iret hE hr (mq_mk (S' := S) (v := .null) (k := 2) (by rw [o_unlike, ev]; simp only []; rw [ew]; simp only []; rw [pI_f h3]; rfl) cz (fun w9 => by cases w9) cO (mi_4 hM)) (by decide) (by decide) dX7_unlike_55
      · refine zs_aload_n hE 0 dX7_unlike_37 rfl rfl ?_
        refine zs_aload_n hE 0 dX7_unlike_38 rfl rfl ?_
        refine zs_iload_n hE 1 dX7_unlike_39 rfl rfl ?_
        refine zs_iload_n hE 2 dX7_unlike_40 rfl rfl ?_
        refine zs_callVR (av := [.int (nI v), .int (nI w)]) (st := [.ref x]) (b := x) hE (m_X7_unlikeOf D E B l κ x ad sc ar S v w hM hw lv lw h3) rfl rfl sV_X7_138 hx rfl rfl (hO) ⟨by decide, by decide⟩ ⟨by decide, by decide⟩ (Nat.le_of_ble_eq_true rfl) dX7_unlike_41 ?_
        refine zs_callV (av := [.int (nI (sp_un (sp_sl S v) (sp_sl S w) 32))]) (st := []) hE (m_X7_tells D E B l κ x ad sc ar (nI (sp_un (sp_sl S v) (sp_sl S w) 32))) sV_X7_93 hx rfl rfl (hO) ⟨by decide, by decide⟩ ⟨by decide, by decide⟩ (fun q w9 => Or.inl w9) (Nat.le_of_ble_eq_true rfl) dX7_unlike_44 (fun v3 H3 hv3 hz3 hk3 => ?_)
        obtain ⟨rfl, cz, cO⟩ := hv3
        refine zs_widen (k' := 0) (n' := 0) (by decide) (by decide) ?_
        refine zs_goto (tgt := 55) hE dX7_unlike_47 (by decide) ?_
        exact zs_iret hE hr (mq_mk (S' := S) (k := 0) (by rw [o_unlike, ev]; simp only []; rw [ew]; simp only []; rw [pI_t h3]) cz (fun _ => rfl) cO (mi_4 hM)) (by decide) (by decide) dX7_unlike_55
    · refine zs_aload_n hE 0 dX7_unlike_16 rfl rfl ?_
      refine zs_iconst (v := (nI 1)) hE dX7_unlike_17 (by decide) ?_
      refine zs_callV (av := [.int (nI 1)]) (st := []) hE (m_X7_fails D E B l κ x ad sc ar 1) sV_X7_81 hx rfl rfl (hO) ⟨by decide, by decide⟩ ⟨by decide, by decide⟩ (fun q w9 => Or.inl w9) (Nat.le_of_ble_eq_true rfl) dX7_unlike_18 (fun v4 H4 hv4 hz4 hk4 => ?_)
      obtain ⟨rfl, cz, cO⟩ := hv4
      refine zs_widen (k' := 0) (n' := 0) (by decide) (by decide) ?_
      exact zs_iret hE hr (mq_mk (S' := S) (v := .null) (k := 1) (by rw [o_unlike, ev]; simp only []; rw [show sp_i z (sp_nv S) = none by rw [← mv0]; exact Classical.not_not.mp h2]; rfl) cz (fun w9 => by cases w9) cO (mi_4 hM)) (by decide) (by decide) dX7_unlike_21

set_option maxHeartbeats 4000000 in
set_option maxRecDepth 100000 in
theorem m_X7_named (D : va_G) (E : Nat → ClassId) (B : Nat) (l : Launch) (κ : Nat → Nat) (x : Nat) (ad sc : Nat → Nat) (ar : Nat → Nat → Int32) (S : sp_S) (y : Int32) (hM : mi_ S sc ar) (hw : sp_wf S) : zs_Ct D E B l yX7_named cX7_named 2 (some .int) ({ frames := 1, cells := 0, slots := 0, locals := 22 } : Room) [.ref x, .int y] (fun H => md_O D E κ x ad sc ar H) (md_F κ) (mq_ D E κ x ad (o_named S y)) := by
  refine zs_ct (by decide) (Nat.le_of_ble_eq_true rfl) (fun p e s m below meth c hE hr hin hp => ?_)
  refine zs_lo (lo' := [(0, .ref x), (1, .int y)]) rfl ?_
  have hO := hp
  obtain ⟨t0, hx, t5, t6, t7, t8, t9, t10, t11, t12, t13, t14, t15, t16, t17, t18, t19, t20, r5, r6, r7, r8, r9, r10, r11, r12, r13, r14, r15, r16, r17, r18, r19, r20⟩ := id hO
  obtain ⟨wN, wP, wV, wA, wH, wZ, wF⟩ := id hw
  obtain ⟨n6, n40, n12, n8, n99⟩ := id wN
  obtain ⟨⟨mp0, mP⟩, ⟨mv0, mV⟩, ⟨mt0, mT⟩, mH, ⟨mz0, mZ⟩, mE⟩ := id hM
  refine zs_iload_n hE 1 dX7_named_0 rfl rfl ?_
  refine zs_iconst (v := (nI 0)) hE dX7_named_1 (by decide) ?_
  refine zs_aload_n hE 0 dX7_named_2 rfl rfl ?_
  refine zs_get hE fl_X7_19 hx rfl dX7_named_3 ?_
  refine zs_iconst (v := (nI 1)) hE dX7_named_6 (by decide) ?_
  refine zs_isub hE dX7_named_7 ?_
  refine zs_callSR (av := [.int y, .int (nI 0), .int ((nI (sc 3)) - (nI 1))]) (st := []) hE (m_X7_in D E B l y (nI 0) (nI (sc 3) - 1)) rfl rfl sS_X7_77 (trivial) ⟨by decide, by decide⟩ ⟨by decide, by decide⟩ (Nat.le_of_ble_eq_true rfl) dX7_named_8 ?_
  refine zs_top (v' := .int (zs_b (sp_i y (sc 3) ≠ none))) (by rw [zs_bc (in_i (by omega))]) ?_
  refine zs_if_eqB (tgt := 27) hE dX7_named_11 (by decide) (fun h1 => ?_) (fun h1 => ?_)
  · refine zs_aload_n hE 0 dX7_named_27 rfl rfl ?_
    refine zs_iconst (v := (nI 1)) hE dX7_named_28 (by decide) ?_
    refine zs_callV (av := [.int (nI 1)]) (st := []) hE (m_X7_fails D E B l κ x ad sc ar 1) sV_X7_81 hx rfl rfl (hO) ⟨by decide, by decide⟩ ⟨by decide, by decide⟩ (fun q w9 => Or.inl w9) (Nat.le_of_ble_eq_true rfl) dX7_named_29 (fun v1 H1 hv1 hz1 hk1 => ?_)
    obtain ⟨rfl, cz, cO⟩ := hv1
    refine zs_widen (k' := 0) (n' := 0) (by decide) (by decide) ?_
    exact zs_iret hE hr (mq_mk (S' := S) (v := .null) (k := 1) (by rw [o_named, show sp_i y (sp_nz S) = none by rw [← mz0]; exact Classical.not_not.mp h1]; rfl) cz (fun w9 => by cases w9) cO (mi_4 hM)) (by decide) (by decide) dX7_named_32
  · obtain ⟨z, ez⟩ : ∃ e, sp_i y (sp_nz S) = some e := by cases z9 : sp_i y (sp_nz S) with | none => (rw [mz0] at h1; exact absurd z9 h1) | some j => exact ⟨j, rfl⟩
    have lz := (sp_i_lt ez).1
    refine zs_lo (lo' := [(0, .ref x), (1, .int (nI z))]) (by rw [(sp_i_lt ez).2]) ?_
    refine zs_aload_n hE 0 dX7_named_14 rfl rfl ?_
    refine zs_aload_n hE 0 dX7_named_15 rfl rfl ?_
    refine zs_get hE fl_X7_68 hx rfl dX7_named_16 ?_
    refine zs_iload_n hE 1 dX7_named_19 rfl rfl ?_
    refine zs_iald hE r18 (by omega) (by decide) dX7_named_20 ?_
    refine zs_top (v' := .int (nI (sp_zv S z))) (by rw [(mZ z lz).1]) ?_
    refine zs_callV (av := [.int (nI (sp_zv S z))]) (st := []) hE (m_X7_tells D E B l κ x ad sc ar (nI (sp_zv S z))) sV_X7_93 hx rfl rfl (hO) ⟨by decide, by decide⟩ ⟨by decide, by decide⟩ (fun q w9 => Or.inl w9) (Nat.le_of_ble_eq_true rfl) dX7_named_21 (fun v2 H2 hv2 hz2 hk2 => ?_)
    obtain ⟨rfl, cz, cO⟩ := hv2
    refine zs_widen (k' := 0) (n' := 0) (by decide) (by decide) ?_
    refine zs_goto (tgt := 32) hE dX7_named_24 (by decide) ?_
    exact zs_iret hE hr (mq_mk (S' := S) (k := 0) (by rw [o_named, ez]) cz (fun _ => rfl) cO (mi_4 hM)) (by decide) (by decide) dX7_named_32

set_option maxHeartbeats 4000000 in
set_option maxRecDepth 100000 in
theorem m_X7_share (D : va_G) (E : Nat → ClassId) (B : Nat) (l : Launch) (κ : Nat → Nat) (x : Nat) (ad sc : Nat → Nat) (ar : Nat → Nat → Int32) (S : sp_S) (y w : Int32) (hM : mi_ S sc ar) (hw : sp_wf S) : zs_Ct D E B l yX7_share cX7_share 3 (some .int) ({ frames := 1, cells := 0, slots := 0, locals := 22 } : Room) [.ref x, .int y, .int w] (fun H => md_O D E κ x ad sc ar H) (md_F κ) (mq_ D E κ x ad (o_share S y w)) := by
  refine zs_ct (by decide) (Nat.le_of_ble_eq_true rfl) (fun p e s m below meth c hE hr hin hp => ?_)
  refine zs_lo (lo' := [(0, .ref x), (1, .int y), (2, .int w)]) rfl ?_
  have hO := hp
  obtain ⟨t0, hx, t5, t6, t7, t8, t9, t10, t11, t12, t13, t14, t15, t16, t17, t18, t19, t20, r5, r6, r7, r8, r9, r10, r11, r12, r13, r14, r15, r16, r17, r18, r19, r20⟩ := id hO
  obtain ⟨wN, wP, wV, wA, wH, wZ, wF⟩ := id hw
  obtain ⟨n6, n40, n12, n8, n99⟩ := id wN
  obtain ⟨⟨mp0, mP⟩, ⟨mv0, mV⟩, ⟨mt0, mT⟩, mH, ⟨mz0, mZ⟩, mE⟩ := id hM
  refine zs_iload_n hE 1 dX7_share_0 rfl rfl ?_
  refine zs_iconst (v := (nI 0)) hE dX7_share_1 (by decide) ?_
  refine zs_aload_n hE 0 dX7_share_2 rfl rfl ?_
  refine zs_get hE fl_X7_19 hx rfl dX7_share_3 ?_
  refine zs_iconst (v := (nI 1)) hE dX7_share_6 (by decide) ?_
  refine zs_isub hE dX7_share_7 ?_
  refine zs_callSR (av := [.int y, .int (nI 0), .int ((nI (sc 3)) - (nI 1))]) (st := []) hE (m_X7_in D E B l y (nI 0) (nI (sc 3) - 1)) rfl rfl sS_X7_77 (trivial) ⟨by decide, by decide⟩ ⟨by decide, by decide⟩ (Nat.le_of_ble_eq_true rfl) dX7_share_8 ?_
  refine zs_top (v' := .int (zs_b (sp_i y (sc 3) ≠ none))) (by rw [zs_bc (in_i (by omega))]) ?_
  refine zs_if_eqB (tgt := 41) hE dX7_share_11 (by decide) (fun h1 => ?_) (fun h1 => ?_)
  · refine zs_aload_n hE 0 dX7_share_41 rfl rfl ?_
    refine zs_iconst (v := (nI 1)) hE dX7_share_42 (by decide) ?_
    refine zs_callV (av := [.int (nI 1)]) (st := []) hE (m_X7_fails D E B l κ x ad sc ar 1) sV_X7_81 hx rfl rfl (hO) ⟨by decide, by decide⟩ ⟨by decide, by decide⟩ (fun q w9 => Or.inl w9) (Nat.le_of_ble_eq_true rfl) dX7_share_43 (fun v1 H1 hv1 hz1 hk1 => ?_)
    obtain ⟨rfl, cz, cO⟩ := hv1
    refine zs_widen (k' := 0) (n' := 0) (by decide) (by decide) ?_
    exact zs_iret hE hr (mq_mk (S' := S) (v := .null) (k := 1) (by rw [o_share, show sp_i y (sp_nz S) = none by rw [← mz0]; exact Classical.not_not.mp h1]; rfl) cz (fun w9 => by cases w9) cO (mi_4 hM)) (by decide) (by decide) dX7_share_46
  · obtain ⟨z, ez⟩ : ∃ e, sp_i y (sp_nz S) = some e := by cases z9 : sp_i y (sp_nz S) with | none => (rw [mz0] at h1; exact absurd z9 h1) | some j => exact ⟨j, rfl⟩
    have lz := (sp_i_lt ez).1
    refine zs_lo (lo' := [(0, .ref x), (1, .int (nI z)), (2, .int w)]) (by rw [(sp_i_lt ez).2]) ?_
    refine zs_iload_n hE 2 dX7_share_14 rfl rfl ?_
    refine zs_iconst (v := (nI 0)) hE dX7_share_15 (by decide) ?_
    refine zs_iconst (v := (nI 5)) hE dX7_share_16 (by decide) ?_
    refine zs_callSR (av := [.int w, .int (nI 0), .int (nI 5)]) (st := []) hE (m_X7_in D E B l w (nI 0) (nI 5)) rfl rfl sS_X7_77 (trivial) ⟨by decide, by decide⟩ ⟨by decide, by decide⟩ (Nat.le_of_ble_eq_true rfl) dX7_share_17 ?_
    refine zs_top (v' := .int (zs_b (sp_i w 6 ≠ none))) (by rw [← zs_bc (in_i (y := w) (n := 6) (by decide))]; rfl) ?_
    refine zs_if_eqB (tgt := 41) hE dX7_share_20 (by decide) (fun h2 => ?_) (fun h2 => ?_)
    · refine zs_aload_n hE 0 dX7_share_41 rfl rfl ?_
      refine zs_iconst (v := (nI 1)) hE dX7_share_42 (by decide) ?_
      refine zs_callV (av := [.int (nI 1)]) (st := []) hE (m_X7_fails D E B l κ x ad sc ar 1) sV_X7_81 hx rfl rfl (hO) ⟨by decide, by decide⟩ ⟨by decide, by decide⟩ (fun q w9 => Or.inl w9) (Nat.le_of_ble_eq_true rfl) dX7_share_43 (fun v2 H2 hv2 hz2 hk2 => ?_)
      obtain ⟨rfl, cz, cO⟩ := hv2
      refine zs_widen (k' := 0) (n' := 0) (by decide) (by decide) ?_
      exact zs_iret hE hr (mq_mk (S' := S) (v := .null) (k := 1) (by rw [o_share, ez]; simp only []; rw [Classical.not_not.mp h2]; rfl) cz (fun w9 => by cases w9) cO (mi_4 hM)) (by decide) (by decide) dX7_share_46
    · obtain ⟨ed, eed⟩ : ∃ e, sp_i w 6 = some e := by cases w : sp_i w 6 with | none => exact absurd w h2 | some j => exact ⟨j, rfl⟩
      obtain ⟨edl, rfl⟩ := sp_i_lt eed
      refine zs_aload_n hE 0 dX7_share_23 rfl rfl ?_
      refine zs_aload_n hE 0 dX7_share_24 rfl rfl ?_
      refine zs_get hE fl_X7_74 hx rfl dX7_share_25 ?_
      refine zs_bipush (v := (nI 6)) hE dX7_share_28 (by decide) ?_
      refine zs_iload_n hE 1 dX7_share_30 rfl rfl ?_
      refine zs_imulN hE dX7_share_31 ?_
      refine zs_iload_n hE 2 dX7_share_32 rfl rfl ?_
      refine zs_iaddN hE dX7_share_33 ?_
      refine zs_iald hE r20 (by omega) (by decide) dX7_share_34 ?_
      refine zs_top (v' := .int (nI (sp_zs S z ed))) (by rw [(mZ z lz).2.2 ed edl]) ?_
      refine zs_callV (av := [.int (nI (sp_zs S z ed))]) (st := []) hE (m_X7_tells D E B l κ x ad sc ar (nI (sp_zs S z ed))) sV_X7_93 hx rfl rfl (hO) ⟨by decide, by decide⟩ ⟨by decide, by decide⟩ (fun q w9 => Or.inl w9) (Nat.le_of_ble_eq_true rfl) dX7_share_35 (fun v3 H3 hv3 hz3 hk3 => ?_)
      obtain ⟨rfl, cz, cO⟩ := hv3
      refine zs_widen (k' := 0) (n' := 0) (by decide) (by decide) ?_
      refine zs_goto (tgt := 46) hE dX7_share_38 (by decide) ?_
      exact zs_iret hE hr (mq_mk (S' := S) (k := 0) (by rw [o_share, ez]; simp only []; rw [eed]) cz (fun _ => rfl) cO (mi_4 hM)) (by decide) (by decide) dX7_share_46

set_option maxHeartbeats 4000000 in
set_option maxRecDepth 100000 in
theorem m_X7_partsOf (D : va_G) (E : Nat → ClassId) (B : Nat) (l : Launch) (κ : Nat → Nat) (x : Nat) (ad sc : Nat → Nat) (ar : Nat → Nat → Int32) (S : sp_S) (y w : Int32) (hM : mi_ S sc ar) (hw : sp_wf S) : zs_Ct D E B l yX7_partsOf cX7_partsOf 3 (some .int) ({ frames := 2, cells := 0, slots := 0, locals := 49 } : Room) [.ref x, .int y, .int w] (fun H => md_O D E κ x ad sc ar H) (md_F κ) (mq_ D E κ x ad (o_partsOf S y w)) := by
  refine zs_ct (by decide) (Nat.le_of_ble_eq_true rfl) (fun p e s m below meth c hE hr hin hp => ?_)
  refine zs_lo (lo' := [(0, .ref x), (1, .int y), (2, .int w)]) rfl ?_
  have hO := hp
  obtain ⟨t0, hx, t5, t6, t7, t8, t9, t10, t11, t12, t13, t14, t15, t16, t17, t18, t19, t20, r5, r6, r7, r8, r9, r10, r11, r12, r13, r14, r15, r16, r17, r18, r19, r20⟩ := id hO
  obtain ⟨wN, wP, wV, wA, wH, wZ, wF⟩ := id hw
  obtain ⟨n6, n40, n12, n8, n99⟩ := id wN
  obtain ⟨⟨mp0, mP⟩, ⟨mv0, mV⟩, ⟨mt0, mT⟩, mH, ⟨mz0, mZ⟩, mE⟩ := id hM
  refine zs_aload_n hE 0 dX7_partsOf_0 rfl rfl ?_
  refine zs_iload_n hE 1 dX7_partsOf_1 rfl rfl ?_
  refine zs_callVR (av := [.int y]) (st := []) (b := x) hE (m_X7_isVersion D E B l κ x ad sc ar y (by omega)) rfl rfl sV_X7_100 hx rfl rfl (hO) ⟨by decide, by decide⟩ ⟨by decide, by decide⟩ (Nat.le_of_ble_eq_true rfl) dX7_partsOf_2 ?_
  refine zs_if_neB (tgt := 14) hE dX7_partsOf_5 (by decide) (fun h1 => ?_) (fun h1 => ?_)
  · obtain ⟨v, ev⟩ : ∃ e, sp_i y (sp_nv S) = some e := by cases z9 : sp_i y (sp_nv S) with | none => (rw [mv0] at h1; exact absurd z9 h1) | some j => exact ⟨j, rfl⟩
    have lv := (sp_i_lt ev).1
    refine zs_lo (lo' := [(0, .ref x), (1, .int (nI v)), (2, .int w)]) (by rw [(sp_i_lt ev).2]) ?_
    refine zs_iload_n hE 2 dX7_partsOf_14 rfl rfl ?_
    refine zs_iconst (v := (nI 0)) hE dX7_partsOf_15 (by decide) ?_
    refine zs_bipush (v := (nI 63)) hE dX7_partsOf_16 (by decide) ?_
    refine zs_callSR (av := [.int w, .int (nI 0), .int (nI 63)]) (st := []) hE (m_X7_in D E B l w (nI 0) (nI 63)) rfl rfl sS_X7_77 (trivial) ⟨by decide, by decide⟩ ⟨by decide, by decide⟩ (Nat.le_of_ble_eq_true rfl) dX7_partsOf_18 ?_
    refine zs_top (v' := .int (zs_b (sp_i w 64 ≠ none))) (by rw [← zs_bc (in_i (y := w) (n := 64) (by decide))]; rfl) ?_
    refine zs_if_eqB (tgt := 37) hE dX7_partsOf_21 (by decide) (fun h2 => ?_) (fun h2 => ?_)
    · refine zs_aload_n hE 0 dX7_partsOf_37 rfl rfl ?_
      refine zs_iconst (v := (nI 2)) hE dX7_partsOf_38 (by decide) ?_
      refine zs_callV (av := [.int (nI 2)]) (st := []) hE (m_X7_fails D E B l κ x ad sc ar 2) sV_X7_81 hx rfl rfl (hO) ⟨by decide, by decide⟩ ⟨by decide, by decide⟩ (fun q w9 => Or.inl w9) (Nat.le_of_ble_eq_true rfl) dX7_partsOf_39 (fun v1 H1 hv1 hz1 hk1 => ?_)
      obtain ⟨rfl, cz, cO⟩ := hv1
      refine zs_widen (k' := 0) (n' := 0) (by decide) (by decide) ?_
      exact zs_iret hE hr (mq_mk (S' := S) (v := .null) (k := 2) (by rw [o_partsOf, ev]; simp only []; rw [Classical.not_not.mp h2]; rfl) cz (fun w9 => by cases w9) cO (mi_4 hM)) (by decide) (by decide) dX7_partsOf_42
    · obtain ⟨ed, eed⟩ : ∃ e, sp_i w 64 = some e := by cases w : sp_i w 64 with | none => exact absurd w h2 | some j => exact ⟨j, rfl⟩
      obtain ⟨edl, rfl⟩ := sp_i_lt eed
      refine zs_aload_n hE 0 dX7_partsOf_24 rfl rfl ?_
      refine zs_aload_n hE 0 dX7_partsOf_25 rfl rfl ?_
      refine zs_iload_n hE 1 dX7_partsOf_26 rfl rfl ?_
      refine zs_iload_n hE 2 dX7_partsOf_27 rfl rfl ?_
      refine zs_callVR (av := [.int (nI v), .int (nI ed)]) (st := [.ref x]) (b := x) hE (m_X7_partsOfAll D E B l κ x ad sc ar S v ed hM hw lv edl) rfl rfl sV_X7_165 hx rfl rfl (hO) ⟨by decide, by decide⟩ ⟨by decide, by decide⟩ (Nat.le_of_ble_eq_true rfl) dX7_partsOf_28 ?_
      refine zs_callV (av := [.int (nI (sp_w (sp_sl S v) ed))]) (st := []) hE (m_X7_tells D E B l κ x ad sc ar (nI (sp_w (sp_sl S v) ed))) sV_X7_93 hx rfl rfl (hO) ⟨by decide, by decide⟩ ⟨by decide, by decide⟩ (fun q w9 => Or.inl w9) (Nat.le_of_ble_eq_true rfl) dX7_partsOf_31 (fun v2 H2 hv2 hz2 hk2 => ?_)
      obtain ⟨rfl, cz, cO⟩ := hv2
      refine zs_widen (k' := 0) (n' := 0) (by decide) (by decide) ?_
      refine zs_goto (tgt := 42) hE dX7_partsOf_34 (by decide) ?_
      exact zs_iret hE hr (mq_mk (S' := S) (k := 0) (by rw [o_partsOf, ev]; simp only []; rw [eed]) cz (fun _ => rfl) cO (mi_4 hM)) (by decide) (by decide) dX7_partsOf_42
  · refine zs_aload_n hE 0 dX7_partsOf_8 rfl rfl ?_
    refine zs_iconst (v := (nI 1)) hE dX7_partsOf_9 (by decide) ?_
    refine zs_callV (av := [.int (nI 1)]) (st := []) hE (m_X7_fails D E B l κ x ad sc ar 1) sV_X7_81 hx rfl rfl (hO) ⟨by decide, by decide⟩ ⟨by decide, by decide⟩ (fun q w9 => Or.inl w9) (Nat.le_of_ble_eq_true rfl) dX7_partsOf_10 (fun v3 H3 hv3 hz3 hk3 => ?_)
    obtain ⟨rfl, cz, cO⟩ := hv3
    refine zs_widen (k' := 0) (n' := 0) (by decide) (by decide) ?_
    exact zs_iret hE hr (mq_mk (S' := S) (v := .null) (k := 1) (by rw [o_partsOf, show sp_i y (sp_nv S) = none by rw [← mv0]; exact Classical.not_not.mp h1]; rfl) cz (fun w9 => by cases w9) cO (mi_4 hM)) (by decide) (by decide) dX7_partsOf_13


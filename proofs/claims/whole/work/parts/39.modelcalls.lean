/-! the model's calls -/
def mq_ (D : va_G) (E : Nat → ClassId) (κ : Nat → Nat) (x : Nat) (ad : Nat → Nat) (o : sp_R3) : Option Value → Heap → Heap → Prop := fun u H H1 => H1.size = H.size ∧ (∃ w : Int32, u = some (.int w) ∧ (o.1 = 0 → Value.int w = o.2.1)) ∧ ∃ (sc : Nat → Nat) (ar : Nat → Nat → Int32), md_O D E κ x ad sc ar H1 ∧ mi_ o.2.2 sc ar ∧ sc 4 = o.1
theorem mi_4 {S : sp_S} {sc : Nat → Nat} {ar : Nat → Nat → Int32} {k : Nat} (h : mi_ S sc ar) : mi_ S (va_up sc 4 k) ar := h
theorem mq_mk {D : va_G} {E : Nat → ClassId} {κ : Nat → Nat} {x : Nat} {ad : Nat → Nat} {o : sp_R3} {w : Int32} {H H1 : Heap} {sc : Nat → Nat} {ar : Nat → Nat → Int32} {S' : sp_S} {k : Nat} {v : Value} (ho : o = (k, v, S')) (hz : H1.size = H.size) (hv : k = 0 → Value.int w = v) (hO : md_O D E κ x ad (va_up sc 4 k) ar H1) (hM : mi_ S' (va_up sc 4 k) ar) : mq_ D E κ x ad o (some (.int w)) H H1 := by
  subst ho
  exact ⟨hz, ⟨w, rfl, hv⟩, _, _, hO, hM, va_up_self _ _ _⟩

set_option maxHeartbeats 4000000 in
set_option maxRecDepth 100000 in
theorem m_X7_firstOf (D : va_G) (E : Nat → ClassId) (B : Nat) (l : Launch) (κ : Nat → Nat) (x : Nat) (ad sc : Nat → Nat) (ar : Nat → Nat → Int32) (S : sp_S) (y : Int32) (hM : mi_ S sc ar) (hw : sp_wf S) : zs_Ct D E B l yX7_firstOf cX7_firstOf 2 (some .int) ({ frames := 2, cells := 0, slots := 0, locals := 43 } : Room) [.ref x, .int y] (fun H => md_O D E κ x ad sc ar H) (md_F κ) (mq_ D E κ x ad (o_firstOf S y)) := by
  refine zs_ct (by decide) (Nat.le_of_ble_eq_true rfl) (fun p e s m below meth c hE hr hin hp => ?_)
  refine zs_lo (lo' := [(0, .ref x), (1, .int y)]) rfl ?_
  have hO := hp
  obtain ⟨t0, hx, t5, t6, t7, t8, t9, t10, t11, t12, t13, t14, t15, t16, t17, t18, t19, t20, r5, r6, r7, r8, r9, r10, r11, r12, r13, r14, r15, r16, r17, r18, r19, r20⟩ := id hO
  obtain ⟨wN, wP, wV, wA, wH, wZ, wF⟩ := id hw
  obtain ⟨n6, n40, n12, n8, n99⟩ := id wN
  obtain ⟨⟨mp0, mP⟩, ⟨mv0, mV⟩, ⟨mt0, mT⟩, mH, ⟨mz0, mZ⟩, mE⟩ := id hM
  refine zs_aload_n hE 0 dX7_firstOf_0 rfl rfl ?_
  refine zs_iload_n hE 1 dX7_firstOf_1 rfl rfl ?_
  refine zs_callVR (av := [.int y]) (st := []) (b := x) hE (m_X7_isPiece D E B l κ x ad sc ar y (by omega)) rfl rfl sV_X7_96 hx rfl rfl (hO) ⟨by decide, by decide⟩ ⟨by decide, by decide⟩ (Nat.le_of_ble_eq_true rfl) dX7_firstOf_2 ?_
  refine zs_if_eqB (tgt := 21) hE dX7_firstOf_5 (by decide) (fun h1 => ?_) (fun h1 => ?_)
  · refine zs_aload_n hE 0 dX7_firstOf_21 rfl rfl ?_
    refine zs_iconst (v := (nI 1)) hE dX7_firstOf_22 (by decide) ?_
    refine zs_callV (av := [.int (nI 1)]) (st := []) hE (m_X7_fails D E B l κ x ad sc ar 1) sV_X7_81 hx rfl rfl (hO) ⟨by decide, by decide⟩ ⟨by decide, by decide⟩ (fun q w9 => Or.inl w9) (Nat.le_of_ble_eq_true rfl) dX7_firstOf_23 (fun v1 H1 hv1 hz1 hk1 => ?_)
    obtain ⟨rfl, cz, cO⟩ := hv1
    refine zs_widen (k' := 0) (n' := 0) (by decide) (by decide) ?_
    exact zs_iret hE hr (mq_mk (S' := S) (v := .null) (k := 1) (by rw [o_firstOf, show sp_i y (sp_np S) = none by rw [← mp0]; exact Classical.not_not.mp h1]; rfl) cz (fun w9 => by cases w9) cO (mi_4 hM)) (by decide) (by decide) dX7_firstOf_26
  · obtain ⟨i, ei⟩ : ∃ e, sp_i y (sp_np S) = some e := by cases z : sp_i y (sp_np S) with | none => (rw [mp0] at h1; exact absurd z h1) | some j => exact ⟨j, rfl⟩
    obtain ⟨il, rfl⟩ := sp_i_lt ei
    refine zs_aload_n hE 0 dX7_firstOf_8 rfl rfl ?_
    refine zs_aload_n hE 0 dX7_firstOf_9 rfl rfl ?_
    refine zs_get hE fl_X7_32 hx rfl dX7_firstOf_10 ?_
    refine zs_iload_n hE 1 dX7_firstOf_13 rfl rfl ?_
    refine zs_iald hE r7 (by omega) (by decide) dX7_firstOf_14 ?_
    refine zs_top (v' := .int (nI (sp_fi S i))) (by rw [(mP i il).2.2.1]) ?_
    refine zs_callV (av := [.int (nI (sp_fi S i))]) (st := []) hE (m_X7_tells D E B l κ x ad sc ar (nI (sp_fi S i))) sV_X7_93 hx rfl rfl (hO) ⟨by decide, by decide⟩ ⟨by decide, by decide⟩ (fun q w9 => Or.inl w9) (Nat.le_of_ble_eq_true rfl) dX7_firstOf_15 (fun v2 H2 hv2 hz2 hk2 => ?_)
    obtain ⟨rfl, cz, cO⟩ := hv2
    refine zs_widen (k' := 0) (n' := 0) (by decide) (by decide) ?_
    refine zs_goto (tgt := 26) hE dX7_firstOf_18 (by decide) ?_
    exact zs_iret hE hr (mq_mk (S' := S) (k := 0) (by rw [o_firstOf, ei]) cz (fun _ => rfl) cO (mi_4 hM)) (by decide) (by decide) dX7_firstOf_26

set_option maxHeartbeats 4000000 in
set_option maxRecDepth 100000 in
theorem m_X7_pieceOf (D : va_G) (E : Nat → ClassId) (B : Nat) (l : Launch) (κ : Nat → Nat) (x : Nat) (ad sc : Nat → Nat) (ar : Nat → Nat → Int32) (S : sp_S) (y : Int32) (hM : mi_ S sc ar) (hw : sp_wf S) : zs_Ct D E B l yX7_pieceOf cX7_pieceOf 2 (some .int) ({ frames := 2, cells := 0, slots := 0, locals := 43 } : Room) [.ref x, .int y] (fun H => md_O D E κ x ad sc ar H) (md_F κ) (mq_ D E κ x ad (o_pieceOf S y)) := by
  refine zs_ct (by decide) (Nat.le_of_ble_eq_true rfl) (fun p e s m below meth c hE hr hin hp => ?_)
  refine zs_lo (lo' := [(0, .ref x), (1, .int y)]) rfl ?_
  have hO := hp
  obtain ⟨t0, hx, t5, t6, t7, t8, t9, t10, t11, t12, t13, t14, t15, t16, t17, t18, t19, t20, r5, r6, r7, r8, r9, r10, r11, r12, r13, r14, r15, r16, r17, r18, r19, r20⟩ := id hO
  obtain ⟨wN, wP, wV, wA, wH, wZ, wF⟩ := id hw
  obtain ⟨n6, n40, n12, n8, n99⟩ := id wN
  obtain ⟨⟨mp0, mP⟩, ⟨mv0, mV⟩, ⟨mt0, mT⟩, mH, ⟨mz0, mZ⟩, mE⟩ := id hM
  refine zs_aload_n hE 0 dX7_pieceOf_0 rfl rfl ?_
  refine zs_iload_n hE 1 dX7_pieceOf_1 rfl rfl ?_
  refine zs_callVR (av := [.int y]) (st := []) (b := x) hE (m_X7_isVersion D E B l κ x ad sc ar y (by omega)) rfl rfl sV_X7_100 hx rfl rfl (hO) ⟨by decide, by decide⟩ ⟨by decide, by decide⟩ (Nat.le_of_ble_eq_true rfl) dX7_pieceOf_2 ?_
  refine zs_if_eqB (tgt := 21) hE dX7_pieceOf_5 (by decide) (fun h1 => ?_) (fun h1 => ?_)
  · refine zs_aload_n hE 0 dX7_pieceOf_21 rfl rfl ?_
    refine zs_iconst (v := (nI 1)) hE dX7_pieceOf_22 (by decide) ?_
    refine zs_callV (av := [.int (nI 1)]) (st := []) hE (m_X7_fails D E B l κ x ad sc ar 1) sV_X7_81 hx rfl rfl (hO) ⟨by decide, by decide⟩ ⟨by decide, by decide⟩ (fun q w9 => Or.inl w9) (Nat.le_of_ble_eq_true rfl) dX7_pieceOf_23 (fun v1 H1 hv1 hz1 hk1 => ?_)
    obtain ⟨rfl, cz, cO⟩ := hv1
    refine zs_widen (k' := 0) (n' := 0) (by decide) (by decide) ?_
    exact zs_iret hE hr (mq_mk (S' := S) (v := .null) (k := 1) (by rw [o_pieceOf, show sp_i y (sp_nv S) = none by rw [← mv0]; exact Classical.not_not.mp h1]; rfl) cz (fun w9 => by cases w9) cO (mi_4 hM)) (by decide) (by decide) dX7_pieceOf_26
  · obtain ⟨i, ei⟩ : ∃ e, sp_i y (sp_nv S) = some e := by cases z : sp_i y (sp_nv S) with | none => (rw [mv0] at h1; exact absurd z h1) | some j => exact ⟨j, rfl⟩
    obtain ⟨il, rfl⟩ := sp_i_lt ei
    refine zs_aload_n hE 0 dX7_pieceOf_8 rfl rfl ?_
    refine zs_aload_n hE 0 dX7_pieceOf_9 rfl rfl ?_
    refine zs_get hE fl_X7_39 hx rfl dX7_pieceOf_10 ?_
    refine zs_iload_n hE 1 dX7_pieceOf_13 rfl rfl ?_
    refine zs_iald hE r9 (by omega) (by decide) dX7_pieceOf_14 ?_
    refine zs_top (v' := .int (nI (sp_vp S i))) (by rw [(mV i il).1]) ?_
    refine zs_callV (av := [.int (nI (sp_vp S i))]) (st := []) hE (m_X7_tells D E B l κ x ad sc ar (nI (sp_vp S i))) sV_X7_93 hx rfl rfl (hO) ⟨by decide, by decide⟩ ⟨by decide, by decide⟩ (fun q w9 => Or.inl w9) (Nat.le_of_ble_eq_true rfl) dX7_pieceOf_15 (fun v2 H2 hv2 hz2 hk2 => ?_)
    obtain ⟨rfl, cz, cO⟩ := hv2
    refine zs_widen (k' := 0) (n' := 0) (by decide) (by decide) ?_
    refine zs_goto (tgt := 26) hE dX7_pieceOf_18 (by decide) ?_
    exact zs_iret hE hr (mq_mk (S' := S) (k := 0) (by rw [o_pieceOf, ei]) cz (fun _ => rfl) cO (mi_4 hM)) (by decide) (by decide) dX7_pieceOf_26

set_option maxHeartbeats 4000000 in
set_option maxRecDepth 100000 in
theorem m_X7_versions (D : va_G) (E : Nat → ClassId) (B : Nat) (l : Launch) (κ : Nat → Nat) (x : Nat) (ad sc : Nat → Nat) (ar : Nat → Nat → Int32) (S : sp_S) (hM : mi_ S sc ar) (hw : sp_wf S) : zs_Ct D E B l yX7_versions cX7_versions 1 (some .int) ({ frames := 1, cells := 0, slots := 0, locals := 21 } : Room) [.ref x] (fun H => md_O D E κ x ad sc ar H) (md_F κ) (mq_ D E κ x ad (o_versions S)) := by
  refine zs_ct (by decide) (Nat.le_of_ble_eq_true rfl) (fun p e s m below meth c hE hr hin hp => ?_)
  refine zs_lo (lo' := [(0, .ref x)]) rfl ?_
  have hO := hp
  obtain ⟨t0, hx, t5, t6, t7, t8, t9, t10, t11, t12, t13, t14, t15, t16, t17, t18, t19, t20, r5, r6, r7, r8, r9, r10, r11, r12, r13, r14, r15, r16, r17, r18, r19, r20⟩ := id hO
  obtain ⟨wN, wP, wV, wA, wH, wZ, wF⟩ := id hw
  obtain ⟨n6, n40, n12, n8, n99⟩ := id wN
  obtain ⟨⟨mp0, mP⟩, ⟨mv0, mV⟩, ⟨mt0, mT⟩, mH, ⟨mz0, mZ⟩, mE⟩ := id hM
  refine zs_aload_n hE 0 dX7_versions_0 rfl rfl ?_
  refine zs_aload_n hE 0 dX7_versions_1 rfl rfl ?_
  refine zs_get hE fl_X7_13 hx rfl dX7_versions_2 ?_
  refine zs_top (v' := .int (nI (sp_nv S))) (by rw [mv0]) ?_
  refine zs_callV (av := [.int (nI (sp_nv S))]) (st := []) hE (m_X7_tells D E B l κ x ad sc ar (nI (sp_nv S))) sV_X7_93 hx rfl rfl (hO) ⟨by decide, by decide⟩ ⟨by decide, by decide⟩ (fun q w9 => Or.inl w9) (Nat.le_of_ble_eq_true rfl) dX7_versions_5 (fun v1 H1 hv1 hz1 hk1 => ?_)
  obtain ⟨rfl, cz, cO⟩ := hv1
  refine zs_widen (k' := 0) (n' := 0) (by decide) (by decide) ?_
  exact zs_iret hE hr (mq_mk (S' := S) (k := 0) (rfl) cz (fun _ => rfl) cO (mi_4 hM)) (by decide) (by decide) dX7_versions_8


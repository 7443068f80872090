/-! the base of two versions, in the model -/
theorem mi_17 {S : sp_S} {sc : Nat → Nat} {ar : Nat → Nat → Int32} {f : Nat → Int32} (h : mi_ S sc ar) : mi_ S sc (va_up ar 17 f) := h
theorem md_17 {D : va_G} {E : Nat → ClassId} {κ : Nat → Nat} {x : Nat} {ad sc : Nat → Nat} {ar : Nat → Nat → Int32} {f g : Nat → Int32} {H : Heap} (h : md_O D E κ x ad sc (va_up (va_up ar 17 f) 17 g) H) : md_O D E κ x ad sc (va_up ar 17 g) H := h
theorem md_17r {D : va_G} {E : Nat → ClassId} {κ : Nat → Nat} {x : Nat} {ad sc : Nat → Nat} {ar : Nat → Nat → Int32} {H : Heap} (h : md_O D E κ x ad sc ar H) : md_O D E κ x ad sc (va_up ar 17 (ar 17)) H := h

set_option maxHeartbeats 4000000 in
set_option maxRecDepth 100000 in
theorem m_X7_baseOf (D : va_G) (E : Nat → ClassId) (B : Nat) (l : Launch) (κ : Nat → Nat) (x : Nat) (ad sc : Nat → Nat) (ar : Nat → Nat → Int32) (S : sp_S) (v w : Nat) (hM : mi_ S sc ar) (hw : sp_wf S) (vl : v < sp_nv S) (wl : w < sp_nv S) : zs_Ct D E B l yX7_baseOf cX7_baseOf 5 (some .int) ({ frames := 1, cells := 0, slots := 0, locals := 23 } : Room) [.ref x, .int (nI v), .int (nI w)] (fun H => md_O D E κ x ad sc ar H) (md_F κ) (fun u H H1 => u = some (.int (sp_oi (sp_bs S v w))) ∧ H1.size = H.size ∧ ∃ f, md_O D E κ x ad sc (va_up ar 17 f) H1) := by
  refine zs_ct (by decide) (Nat.le_of_ble_eq_true rfl) (fun p e s m below meth c hE hr hin hp => ?_)
  refine zs_lo (lo' := [(0, .ref x), (1, .int (nI v)), (2, .int (nI w))]) rfl ?_
  have hO := hp
  obtain ⟨t0, hx, t5, t6, t7, t8, t9, t10, t11, t12, t13, t14, t15, t16, t17, t18, t19, t20, r5, r6, r7, r8, r9, r10, r11, r12, r13, r14, r15, r16, r17, r18, r19, r20⟩ := id hO
  obtain ⟨wN, wP, wV, wA, wH, wZ, wF⟩ := id hw
  obtain ⟨n6, n40, n12, n8, n99⟩ := id wN
  obtain ⟨⟨mp0, mP⟩, ⟨mv0, mV⟩, ⟨mt0, mT⟩, mH, ⟨mz0, mZ⟩, mE⟩ := id hM
  refine zs_iconst (v := (-1)) hE dX7_baseOf_0 (by decide) ?_
  refine zs_istore_n (lo' := [(3, .int (-1)), (0, .ref x), (1, .int (nI v)), (2, .int (nI w))]) hE dX7_baseOf_1 rfl (by decide) rfl ?_
  refine zs_iconst (v := (nI 0)) hE dX7_baseOf_2 (by decide) ?_
  refine zs_istore (lo' := [(4, .int (nI 0)), (3, .int (-1)), (0, .ref x), (1, .int (nI v)), (2, .int (nI w))]) hE dX7_baseOf_3 (by decide) rfl ?_
  refine zs_sub (lo' := [(4, .int (nI 0)), (3, .int (-1)), (0, .ref x), (1, .int (nI v)), (2, .int (nI w))]) [0, 1, 2, 3, 4] rfl ?_
  refine zs_ind3 (Hs := fun (k0 : Nat) (K : Heap) (f : Nat → Int32) => K) (ks := fun (k0 : Nat) (K : Heap) (f : Nat → Int32) => 0) (ns := fun (k0 : Nat) (K : Heap) (f : Nat → Int32) => 0) (los := fun (k0 : Nat) (K : Heap) (f : Nat → Int32) => [(4, .int (nI k0)), (3, .int (sp_oi (gr (fun k => (sp_am S v).testBit k = true ∧ (sp_am S w).testBit k = true) (k0)))), (0, .ref x), (1, .int (nI v)), (2, .int (nI w))]) (I := fun (k0 : Nat) (K : Heap) (f : Nat → Int32) => k0 ≤ sp_nv S ∧ K.size = s.heap.size ∧ md_O D E κ x ad sc (va_up ar 17 f) K) (μ := fun (k0 : Nat) (K : Heap) (f : Nat → Int32) => sp_nv S - k0) 0 s.heap (ar 17) (⟨Nat.zero_le _, rfl, md_17r hO⟩) (fun k0 K f hi ih => ?_)
  try dsimp only at hi ih ⊢
  obtain ⟨kl0, kz, kO⟩ := hi
  obtain ⟨-, hx, -, -, -, -, -, -, -, -, -, -, -, -, -, -, -, -, r5, r6, r7, r8, r9, r10, r11, r12, r13, r14, r15, r16, r17, r18, r19, r20⟩ := id kO
  refine zs_iload hE 0 dX7_baseOf_5 rfl ?_
  refine zs_aload_n hE 2 dX7_baseOf_7 rfl rfl ?_
  refine zs_get hE fl_X7_13 hx rfl dX7_baseOf_8 ?_
  refine zs_icmp_geN (tgt := 47) hE (by omega) (by omega) dX7_baseOf_11 (by decide) (fun h5 => ?_) (fun h => ?_)
  · obtain rfl : k0 = sp_nv S := by omega
    refine zs_iload_n hE 1 dX7_baseOf_47 rfl rfl ?_
    exact zs_iret hE hr (⟨rfl, kz, f, kO⟩) (by decide) (by decide) dX7_baseOf_48
  · have kl : k0 < sp_nv S := by omega
    refine zs_aload_n hE 2 dX7_baseOf_14 rfl rfl ?_
    refine zs_iload hE 0 dX7_baseOf_15 rfl ?_
    refine zs_iload_n hE 3 dX7_baseOf_17 rfl rfl ?_
    refine zs_callV (av := [.int (nI k0), .int (nI v)]) (st := []) hE (m_X7_isAboveOf D E B l κ x ad sc (va_up ar 17 f) S k0 v (mi_17 hM) hw kl vl) sV_X7_116 hx rfl rfl (kO) ⟨by decide, by decide⟩ ⟨by decide, by decide⟩ (fun q w9 => Or.inl w9) (Nat.le_of_ble_eq_true rfl) dX7_baseOf_18 (fun v1 H1 hv1 hz1 hk1 => ?_)
    obtain ⟨rfl, cz, f1, c1⟩ := hv1
    refine zs_widen (k' := 0) (n' := 0) (by decide) (by decide) ?_
    have c1 := md_17 c1
    obtain ⟨-, hx, -, -, -, -, -, -, -, -, -, -, -, -, -, -, -, -, r5, r6, r7, r8, r9, r10, r11, r12, r13, r14, r15, r16, r17, r18, r19, r20⟩ := id c1
    refine zs_if_eqB (tgt := 39) hE dX7_baseOf_21 (by decide) (fun h6 => ?_) (fun h6 => ?_)
    · refine zs_iload_n hE 1 dX7_baseOf_39 rfl rfl ?_
      refine zs_istore_n (lo' := [(3, .int (sp_oi (gr (fun k => (sp_am S v).testBit k = true ∧ (sp_am S w).testBit k = true) (k0)))), (4, .int (nI k0)), (0, .ref x), (1, .int (nI v)), (2, .int (nI w))]) hE dX7_baseOf_40 rfl (by decide) rfl ?_
      refine zs_iincN (lo' := [(4, .int (nI (k0 + 1))), (3, .int (sp_oi (gr (fun k => (sp_am S v).testBit k = true ∧ (sp_am S w).testBit k = true) (k0)))), (0, .ref x), (1, .int (nI v)), (2, .int (nI w))]) hE 1 dX7_baseOf_41 rfl (by decide) rfl ?_
      refine zs_goto (tgt := 5) hE dX7_baseOf_44 (by decide) ?_
      refine zs_sub (lo' := [(4, .int (nI (k0 + 1))), (3, .int (sp_oi (gr (fun k => (sp_am S v).testBit k = true ∧ (sp_am S w).testBit k = true) (k0)))), (0, .ref x), (1, .int (nI v)), (2, .int (nI w))]) [0, 1, 2, 3, 4] rfl ?_
      refine zs_lo (lo' := [(4, .int (nI (k0 + 1))), (3, .int (sp_oi (gr (fun k => (sp_am S v).testBit k = true ∧ (sp_am S w).testBit k = true) (k0 + 1)))), (0, .ref x), (1, .int (nI v)), (2, .int (nI w))]) (by rw [gr_f (p := fun k => (sp_am S v).testBit k = true ∧ (sp_am S w).testBit k = true) (fun q => h6 q.1)]) ?_
      refine zs_sub (lo' := [(4, .int (nI (k0 + 1))), (3, .int (sp_oi (gr (fun k => (sp_am S v).testBit k = true ∧ (sp_am S w).testBit k = true) (k0 + 1)))), (0, .ref x), (1, .int (nI v)), (2, .int (nI w))]) [0, 1, 2, 3, 4] rfl ?_
      exact ih (k0 + 1) H1 f1 (⟨by omega, by omega, c1⟩) (by omega)
    · refine zs_aload_n hE 2 dX7_baseOf_24 rfl rfl ?_
      refine zs_iload hE 0 dX7_baseOf_25 rfl ?_
      refine zs_iload_n hE 4 dX7_baseOf_27 rfl rfl ?_
      refine zs_callV (av := [.int (nI k0), .int (nI w)]) (st := []) hE (m_X7_isAboveOf D E B l κ x ad sc (va_up ar 17 f1) S k0 w (mi_17 hM) hw kl wl) sV_X7_116 hx rfl rfl (c1) ⟨by decide, by decide⟩ ⟨by decide, by decide⟩ (fun q w9 => Or.inl w9) (Nat.le_of_ble_eq_true rfl) dX7_baseOf_28 (fun v2 H2 hv2 hz2 hk2 => ?_)
      obtain ⟨rfl, dz, f2, d1⟩ := hv2
      refine zs_widen (k' := 0) (n' := 0) (by decide) (by decide) ?_
      have d1 := md_17 d1
      refine zs_if_eqB (tgt := 39) hE dX7_baseOf_31 (by decide) (fun h7 => ?_) (fun h7 => ?_)
      · refine zs_iload_n hE 1 dX7_baseOf_39 rfl rfl ?_
        refine zs_istore_n (lo' := [(3, .int (sp_oi (gr (fun k => (sp_am S v).testBit k = true ∧ (sp_am S w).testBit k = true) (k0)))), (4, .int (nI k0)), (0, .ref x), (1, .int (nI v)), (2, .int (nI w))]) hE dX7_baseOf_40 rfl (by decide) rfl ?_
        refine zs_iincN (lo' := [(4, .int (nI (k0 + 1))), (3, .int (sp_oi (gr (fun k => (sp_am S v).testBit k = true ∧ (sp_am S w).testBit k = true) (k0)))), (0, .ref x), (1, .int (nI v)), (2, .int (nI w))]) hE 1 dX7_baseOf_41 rfl (by decide) rfl ?_
        refine zs_goto (tgt := 5) hE dX7_baseOf_44 (by decide) ?_
        refine zs_sub (lo' := [(4, .int (nI (k0 + 1))), (3, .int (sp_oi (gr (fun k => (sp_am S v).testBit k = true ∧ (sp_am S w).testBit k = true) (k0)))), (0, .ref x), (1, .int (nI v)), (2, .int (nI w))]) [0, 1, 2, 3, 4] rfl ?_
        refine zs_lo (lo' := [(4, .int (nI (k0 + 1))), (3, .int (sp_oi (gr (fun k => (sp_am S v).testBit k = true ∧ (sp_am S w).testBit k = true) (k0 + 1)))), (0, .ref x), (1, .int (nI v)), (2, .int (nI w))]) (by rw [gr_f (p := fun k => (sp_am S v).testBit k = true ∧ (sp_am S w).testBit k = true) (fun q => h7 q.2)]) ?_
        refine zs_sub (lo' := [(4, .int (nI (k0 + 1))), (3, .int (sp_oi (gr (fun k => (sp_am S v).testBit k = true ∧ (sp_am S w).testBit k = true) (k0 + 1)))), (0, .ref x), (1, .int (nI v)), (2, .int (nI w))]) [0, 1, 2, 3, 4] rfl ?_
        exact ih (k0 + 1) H2 f2 (⟨by omega, by omega, d1⟩) (by omega)
      · refine zs_iload hE 0 dX7_baseOf_34 rfl ?_
        refine zs_goto (tgt := 40) hE dX7_baseOf_36 (by decide) ?_
        refine zs_istore_n (lo' := [(3, .int (nI k0)), (4, .int (nI k0)), (0, .ref x), (1, .int (nI v)), (2, .int (nI w))]) hE dX7_baseOf_40 rfl (by decide) rfl ?_
        refine zs_iincN (lo' := [(4, .int (nI (k0 + 1))), (3, .int (nI k0)), (0, .ref x), (1, .int (nI v)), (2, .int (nI w))]) hE 1 dX7_baseOf_41 rfl (by decide) rfl ?_
        refine zs_goto (tgt := 5) hE dX7_baseOf_44 (by decide) ?_
        refine zs_sub (lo' := [(4, .int (nI (k0 + 1))), (3, .int (nI k0)), (0, .ref x), (1, .int (nI v)), (2, .int (nI w))]) [0, 1, 2, 3, 4] rfl ?_
        refine zs_lo (lo' := [(4, .int (nI (k0 + 1))), (3, .int (sp_oi (gr (fun k => (sp_am S v).testBit k = true ∧ (sp_am S w).testBit k = true) (k0 + 1)))), (0, .ref x), (1, .int (nI v)), (2, .int (nI w))]) (by rw [gr_t (p := fun k => (sp_am S v).testBit k = true ∧ (sp_am S w).testBit k = true) ⟨h6, h7⟩]; rfl) ?_
        refine zs_sub (lo' := [(4, .int (nI (k0 + 1))), (3, .int (sp_oi (gr (fun k => (sp_am S v).testBit k = true ∧ (sp_am S w).testBit k = true) (k0 + 1)))), (0, .ref x), (1, .int (nI v)), (2, .int (nI w))]) [0, 1, 2, 3, 4] rfl ?_
        exact ih (k0 + 1) H2 f2 (⟨by omega, by omega, d1⟩) (by omega)


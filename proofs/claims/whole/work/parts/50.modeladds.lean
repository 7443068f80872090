/-! the model: a version more -/
theorem md_up {D : va_G} {E : Nat → ClassId} {κ : Nat → Nat} {x : Nat} {ad sc : Nat → Nat} {ar : Nat → Nat → Int32} {H : Heap} (k : Nat) (h : md_O D E κ x ad sc ar H) : md_O D E κ x ad sc (va_up ar k (ar k)) H := by
  rw [up_id rfl]; exact h
theorem md_eq {D : va_G} {E : Nat → ClassId} {κ : Nat → Nat} {x : Nat} {ad sc sc' : Nat → Nat} {ar ar' : Nat → Nat → Int32} {H : Heap} (h : md_O D E κ x ad sc ar H) (e1 : sc = sc') (e2 : ar = ar') : md_O D E κ x ad sc' ar' H := by
  rw [← e1, ← e2]; exact h

set_option maxHeartbeats 4000000 in
set_option maxRecDepth 100000 in
theorem m_X7_adds (D : va_G) (E : Nat → ClassId) (B : Nat) (l : Launch) (κ : Nat → Nat) (x : Nat) (ad sc : Nat → Nat) (ar : Nat → Nat → Int32) (pq aq bq : Int32) (hn : sc 1 < 40) : zs_Ct D E B l yX7_adds cX7_adds 4 (some .int) ({ frames := 0, cells := 0, slots := 0, locals := 0 } : Room) [.ref x, .int pq, .int aq, .int bq] (fun H => md_O D E κ x ad sc ar H) (md_F κ) (fun u H H1 => u = some (.int (nI (sc 1))) ∧ H1.size = H.size ∧ md_O D E κ x ad (va_up sc 1 (sc 1 + 1)) (va_up (va_up (va_up ar 9 (va_up (ar 9) (sc 1) pq)) 10 (va_up (ar 10) (sc 1) aq)) 11 (va_up (ar 11) (sc 1) bq)) H1) := by
  refine zs_ct (by decide) (Nat.le_of_ble_eq_true rfl) (fun p e s m below meth c hE hr hin hp => ?_)
  refine zs_lo (lo' := [(0, .ref x), (1, .int pq), (2, .int aq), (3, .int bq)]) rfl ?_
  have hO := hp
  obtain ⟨t0, hx, t5, t6, t7, t8, t9, t10, t11, t12, t13, t14, t15, t16, t17, t18, t19, t20, r5, r6, r7, r8, r9, r10, r11, r12, r13, r14, r15, r16, r17, r18, r19, r20⟩ := id hO
  refine zs_aload_n hE 0 dX7_adds_0 rfl rfl ?_
  refine zs_get hE fl_X7_39 hx rfl dX7_adds_1 ?_
  refine zs_aload_n hE 0 dX7_adds_4 rfl rfl ?_
  refine zs_get hE fl_X7_13 hx rfl dX7_adds_5 ?_
  refine zs_iload_n hE 1 dX7_adds_8 rfl rfl ?_
  refine zs_iast hE r9 (Or.inl (show 500 ≤ κ (ad 9) by omega)) (by omega) (by decide) dX7_adds_9 (fun H1 hp1 hz1 ho1 => ?_)
  have hx := zs_pt.kept hx (ho1 _ (cs_ne t0 t9 (by decide)))
  have r5 := zs_pt.kept r5 (ho1 _ (cs_ne t5 t9 (by decide)))
  have r6 := zs_pt.kept r6 (ho1 _ (cs_ne t6 t9 (by decide)))
  have r7 := zs_pt.kept r7 (ho1 _ (cs_ne t7 t9 (by decide)))
  have r8 := zs_pt.kept r8 (ho1 _ (cs_ne t8 t9 (by decide)))
  have r10 := zs_pt.kept r10 (ho1 _ (cs_ne t10 t9 (by decide)))
  have r11 := zs_pt.kept r11 (ho1 _ (cs_ne t11 t9 (by decide)))
  have r12 := zs_pt.kept r12 (ho1 _ (cs_ne t12 t9 (by decide)))
  have r13 := zs_pt.kept r13 (ho1 _ (cs_ne t13 t9 (by decide)))
  have r14 := zs_pt.kept r14 (ho1 _ (cs_ne t14 t9 (by decide)))
  have r15 := zs_pt.kept r15 (ho1 _ (cs_ne t15 t9 (by decide)))
  have r16 := zs_pt.kept r16 (ho1 _ (cs_ne t16 t9 (by decide)))
  have r17 := zs_pt.kept r17 (ho1 _ (cs_ne t17 t9 (by decide)))
  have r18 := zs_pt.kept r18 (ho1 _ (cs_ne t18 t9 (by decide)))
  have r19 := zs_pt.kept r19 (ho1 _ (cs_ne t19 t9 (by decide)))
  have r20 := zs_pt.kept r20 (ho1 _ (cs_ne t20 t9 (by decide)))
  refine zs_aload_n hE 0 dX7_adds_10 rfl rfl ?_
  refine zs_get hE fl_X7_42 hx rfl dX7_adds_11 ?_
  refine zs_aload_n hE 0 dX7_adds_14 rfl rfl ?_
  refine zs_get hE fl_X7_13 hx rfl dX7_adds_15 ?_
  refine zs_iload_n hE 2 dX7_adds_18 rfl rfl ?_
  refine zs_iast hE r10 (Or.inl (show 500 ≤ κ (ad 10) by omega)) (by omega) (by decide) dX7_adds_19 (fun H2 hp2 hz2 ho2 => ?_)
  have hx := zs_pt.kept hx (ho2 _ (cs_ne t0 t10 (by decide)))
  have r5 := zs_pt.kept r5 (ho2 _ (cs_ne t5 t10 (by decide)))
  have r6 := zs_pt.kept r6 (ho2 _ (cs_ne t6 t10 (by decide)))
  have r7 := zs_pt.kept r7 (ho2 _ (cs_ne t7 t10 (by decide)))
  have r8 := zs_pt.kept r8 (ho2 _ (cs_ne t8 t10 (by decide)))
  have hp1 := zs_pt.kept hp1 (ho2 _ (cs_ne t9 t10 (by decide)))
  have r11 := zs_pt.kept r11 (ho2 _ (cs_ne t11 t10 (by decide)))
  have r12 := zs_pt.kept r12 (ho2 _ (cs_ne t12 t10 (by decide)))
  have r13 := zs_pt.kept r13 (ho2 _ (cs_ne t13 t10 (by decide)))
  have r14 := zs_pt.kept r14 (ho2 _ (cs_ne t14 t10 (by decide)))
  have r15 := zs_pt.kept r15 (ho2 _ (cs_ne t15 t10 (by decide)))
  have r16 := zs_pt.kept r16 (ho2 _ (cs_ne t16 t10 (by decide)))
  have r17 := zs_pt.kept r17 (ho2 _ (cs_ne t17 t10 (by decide)))
  have r18 := zs_pt.kept r18 (ho2 _ (cs_ne t18 t10 (by decide)))
  have r19 := zs_pt.kept r19 (ho2 _ (cs_ne t19 t10 (by decide)))
  have r20 := zs_pt.kept r20 (ho2 _ (cs_ne t20 t10 (by decide)))
  refine zs_aload_n hE 0 dX7_adds_20 rfl rfl ?_
  refine zs_get hE fl_X7_45 hx rfl dX7_adds_21 ?_
  refine zs_aload_n hE 0 dX7_adds_24 rfl rfl ?_
  refine zs_get hE fl_X7_13 hx rfl dX7_adds_25 ?_
  refine zs_iload_n hE 3 dX7_adds_28 rfl rfl ?_
  refine zs_iast hE r11 (Or.inl (show 500 ≤ κ (ad 11) by omega)) (by omega) (by decide) dX7_adds_29 (fun H3 hp3 hz3 ho3 => ?_)
  have hx := zs_pt.kept hx (ho3 _ (cs_ne t0 t11 (by decide)))
  have r5 := zs_pt.kept r5 (ho3 _ (cs_ne t5 t11 (by decide)))
  have r6 := zs_pt.kept r6 (ho3 _ (cs_ne t6 t11 (by decide)))
  have r7 := zs_pt.kept r7 (ho3 _ (cs_ne t7 t11 (by decide)))
  have r8 := zs_pt.kept r8 (ho3 _ (cs_ne t8 t11 (by decide)))
  have hp1 := zs_pt.kept hp1 (ho3 _ (cs_ne t9 t11 (by decide)))
  have hp2 := zs_pt.kept hp2 (ho3 _ (cs_ne t10 t11 (by decide)))
  have r12 := zs_pt.kept r12 (ho3 _ (cs_ne t12 t11 (by decide)))
  have r13 := zs_pt.kept r13 (ho3 _ (cs_ne t13 t11 (by decide)))
  have r14 := zs_pt.kept r14 (ho3 _ (cs_ne t14 t11 (by decide)))
  have r15 := zs_pt.kept r15 (ho3 _ (cs_ne t15 t11 (by decide)))
  have r16 := zs_pt.kept r16 (ho3 _ (cs_ne t16 t11 (by decide)))
  have r17 := zs_pt.kept r17 (ho3 _ (cs_ne t17 t11 (by decide)))
  have r18 := zs_pt.kept r18 (ho3 _ (cs_ne t18 t11 (by decide)))
  have r19 := zs_pt.kept r19 (ho3 _ (cs_ne t19 t11 (by decide)))
  have r20 := zs_pt.kept r20 (ho3 _ (cs_ne t20 t11 (by decide)))
  refine zs_aload_n hE 0 dX7_adds_30 rfl rfl ?_
  refine zs_dup hE dX7_adds_31 rfl ?_
  refine zs_get hE fl_X7_13 hx rfl dX7_adds_32 ?_
  refine zs_iconst (v := (nI 1)) hE dX7_adds_35 (by decide) ?_
  refine zs_iaddN hE dX7_adds_36 ?_
  refine zs_put (v := .int (nI (sc 1 + 1))) hE fl_X7_13 hx (Or.inl (show 500 ≤ κ x by omega)) (rfl) (rfl) (Nat.le_of_ble_eq_true rfl) dX7_adds_37 (fun H4 hp4 hz4 ho4 => ?_)
  have r5 := zs_pt.kept r5 (ho4 _ (cs_ne t5 t0 (by decide)))
  have r6 := zs_pt.kept r6 (ho4 _ (cs_ne t6 t0 (by decide)))
  have r7 := zs_pt.kept r7 (ho4 _ (cs_ne t7 t0 (by decide)))
  have r8 := zs_pt.kept r8 (ho4 _ (cs_ne t8 t0 (by decide)))
  have hp1 := zs_pt.kept hp1 (ho4 _ (cs_ne t9 t0 (by decide)))
  have hp2 := zs_pt.kept hp2 (ho4 _ (cs_ne t10 t0 (by decide)))
  have hp3 := zs_pt.kept hp3 (ho4 _ (cs_ne t11 t0 (by decide)))
  have r12 := zs_pt.kept r12 (ho4 _ (cs_ne t12 t0 (by decide)))
  have r13 := zs_pt.kept r13 (ho4 _ (cs_ne t13 t0 (by decide)))
  have r14 := zs_pt.kept r14 (ho4 _ (cs_ne t14 t0 (by decide)))
  have r15 := zs_pt.kept r15 (ho4 _ (cs_ne t15 t0 (by decide)))
  have r16 := zs_pt.kept r16 (ho4 _ (cs_ne t16 t0 (by decide)))
  have r17 := zs_pt.kept r17 (ho4 _ (cs_ne t17 t0 (by decide)))
  have r18 := zs_pt.kept r18 (ho4 _ (cs_ne t18 t0 (by decide)))
  have r19 := zs_pt.kept r19 (ho4 _ (cs_ne t19 t0 (by decide)))
  have r20 := zs_pt.kept r20 (ho4 _ (cs_ne t20 t0 (by decide)))
  have hp4 : zs_pt D x (.inr (7, [.int (nI (sc 0)), .int (nI (sc 1 + 1)), .int (nI (sc 2)), .int (nI (sc 3)), .int (nI (sc 4)), .ref (ad 5), .ref (ad 6), .ref (ad 7), .ref (ad 8), .ref (ad 9), .ref (ad 10), .ref (ad 11), .ref (ad 12), .ref (ad 13), .ref (ad 14), .ref (ad 15), .ref (ad 16), .ref (ad 17), .ref (ad 18), .ref (ad 19), .ref (ad 20)])) H4 := hp4
  refine zs_aload_n hE 0 dX7_adds_40 rfl rfl ?_
  refine zs_get hE fl_X7_13 hp4 rfl dX7_adds_41 ?_
  refine zs_iconst (v := (nI 1)) hE dX7_adds_44 (by decide) ?_
  refine zs_isubN hE (by omega) dX7_adds_45 ?_
  refine zs_top (v' := .int (nI (sc 1))) (by rw [Nat.add_sub_cancel]) ?_
  have hO2 : md_O D E κ x ad (va_up sc 1 (sc 1 + 1)) (va_up (va_up (va_up ar 9 (va_up (ar 9) (sc 1) pq)) 10 (va_up (ar 10) (sc 1) aq)) 11 (va_up (ar 11) (sc 1) bq)) H4 := ⟨t0, hp4, t5, t6, t7, t8, t9, t10, t11, t12, t13, t14, t15, t16, t17, t18, t19, t20, r5, r6, r7, r8, hp1, hp2, hp3, r12, r13, r14, r15, r16, r17, r18, r19, r20⟩
  exact zs_iret hE hr (⟨rfl, by omega, hO2⟩) (by decide) (by decide) dX7_adds_46

set_option maxHeartbeats 4000000 in
set_option maxRecDepth 100000 in
theorem m_X7_copies (D : va_G) (E : Nat → ClassId) (B : Nat) (l : Launch) (κ : Nat → Nat) (x : Nat) (ad sc : Nat → Nat) (ar : Nat → Nat → Int32) (a b : Nat) (ha : a + 41 ≤ 52480) (hb : b + 41 ≤ 52480) (hd : a + 41 ≤ b ∨ b + 41 ≤ a) : zs_Ct D E B l yX7_copies cX7_copies 4 none ({ frames := 0, cells := 0, slots := 0, locals := 0 } : Room) [.ref x, .int (nI a), .int (nI b)] (fun H => md_O D E κ x ad sc ar H) (md_F κ) (fun u H H1 => u = none ∧ H1.size = H.size ∧ ∃ f, md_O D E κ x ad sc (va_up ar 12 f) H1 ∧ (∀ j, j < 41 → f (b + j) = ar 12 (a + j)) ∧ ∀ q, (q < b ∨ b + 41 ≤ q) → f q = ar 12 q) := by
  refine zs_ct (by decide) (Nat.le_of_ble_eq_true rfl) (fun p e s m below meth c hE hr hin hp => ?_)
  refine zs_lo (lo' := [(0, .ref x), (1, .int (nI a)), (2, .int (nI b))]) rfl ?_
  have hO := hp
  obtain ⟨t0, hx, t5, t6, t7, t8, t9, t10, t11, t12, t13, t14, t15, t16, t17, t18, t19, t20, r5, r6, r7, r8, r9, r10, r11, r12, r13, r14, r15, r16, r17, r18, r19, r20⟩ := id hO
  refine zs_iconst (v := (nI 0)) hE dX7_copies_0 (by decide) ?_
  refine zs_istore_n (lo' := [(3, .int (nI 0)), (0, .ref x), (1, .int (nI a)), (2, .int (nI b))]) hE dX7_copies_1 rfl (by decide) rfl ?_
  refine zs_sub (lo' := [(3, .int (nI 0)), (0, .ref x), (1, .int (nI a)), (2, .int (nI b))]) [0, 1, 2, 3] rfl ?_
  refine zs_ind3 (Hs := fun (k0 : Nat) (K : Heap) (f : Nat → Int32) => K) (ks := fun (k0 : Nat) (K : Heap) (f : Nat → Int32) => 0) (ns := fun (k0 : Nat) (K : Heap) (f : Nat → Int32) => 0) (los := fun (k0 : Nat) (K : Heap) (f : Nat → Int32) => [(3, .int (nI k0)), (0, .ref x), (1, .int (nI a)), (2, .int (nI b))]) (I := fun (k0 : Nat) (K : Heap) (f : Nat → Int32) => k0 ≤ 41 ∧ K.size = s.heap.size ∧ md_O D E κ x ad sc (va_up ar 12 f) K ∧ (∀ j, j < k0 → f (b + j) = ar 12 (a + j)) ∧ ∀ q, (q < b ∨ b + k0 ≤ q) → f q = ar 12 q) (μ := fun (k0 : Nat) (K : Heap) (f : Nat → Int32) => 41 - k0) 0 s.heap (ar 12) (⟨Nat.zero_le _, rfl, md_up 12 hO, fun j hj => absurd hj (Nat.not_lt_zero _), fun q _ => rfl⟩) (fun k0 K f hi ih => ?_)
  try dsimp only at hi ih ⊢
  obtain ⟨k41, kz, kO, kf, ke⟩ := hi
  obtain ⟨-, hx, -, -, -, -, -, -, -, -, -, -, -, -, -, -, -, -, r5, r6, r7, r8, r9, r10, r11, r12, r13, r14, r15, r16, r17, r18, r19, r20⟩ := id kO
  have hx : zs_pt D x (.inr (7, [.int (nI (sc 0)), .int (nI (sc 1)), .int (nI (sc 2)), .int (nI (sc 3)), .int (nI (sc 4)), .ref (ad 5), .ref (ad 6), .ref (ad 7), .ref (ad 8), .ref (ad 9), .ref (ad 10), .ref (ad 11), .ref (ad 12), .ref (ad 13), .ref (ad 14), .ref (ad 15), .ref (ad 16), .ref (ad 17), .ref (ad 18), .ref (ad 19), .ref (ad 20)])) K := hx
  have r5 : zs_pt D (ad 5) (.inl (E 0, 6, .inl (ar 5))) K := r5
  have r6 : zs_pt D (ad 6) (.inl (E 0, 6, .inl (ar 6))) K := r6
  have r7 : zs_pt D (ad 7) (.inl (E 0, 6, .inl (ar 7))) K := r7
  have r8 : zs_pt D (ad 8) (.inl (E 1, 24, .inl (ar 8))) K := r8
  have r9 : zs_pt D (ad 9) (.inl (E 0, 40, .inl (ar 9))) K := r9
  have r10 : zs_pt D (ad 10) (.inl (E 0, 40, .inl (ar 10))) K := r10
  have r11 : zs_pt D (ad 11) (.inl (E 0, 40, .inl (ar 11))) K := r11
  have r12 : zs_pt D (ad 12) (.inl (E 0, 52480, .inl (f))) K := r12
  have r13 : zs_pt D (ad 13) (.inl (E 0, 8, .inl (ar 13))) K := r13
  have r14 : zs_pt D (ad 14) (.inl (E 0, 24, .inl (ar 14))) K := r14
  have r15 : zs_pt D (ad 15) (.inl (E 0, 120, .inl (ar 15))) K := r15
  have r16 : zs_pt D (ad 16) (.inl (E 2, 120, .inl (ar 16))) K := r16
  have r17 : zs_pt D (ad 17) (.inl (E 2, 40, .inl (ar 17))) K := r17
  have r18 : zs_pt D (ad 18) (.inl (E 0, 12, .inl (ar 18))) K := r18
  have r19 : zs_pt D (ad 19) (.inl (E 0, 12, .inl (ar 19))) K := r19
  have r20 : zs_pt D (ad 20) (.inl (E 0, 72, .inl (ar 20))) K := r20
  refine zs_iload_n hE 0 dX7_copies_2 rfl rfl ?_
  refine zs_bipush (v := (nI 41)) hE dX7_copies_3 (by decide) ?_
  refine zs_icmp_geN (tgt := 30) hE (by omega) (by decide) dX7_copies_5 (by decide) (fun h5 => ?_) (fun h => ?_)
  · obtain rfl : k0 = 41 := by omega
    exact zs_vret hE hr (⟨rfl, kz, f, kO, kf, ke⟩) (by decide) (by decide) dX7_copies_30
  · refine zs_aload_n hE 1 dX7_copies_8 rfl rfl ?_
    refine zs_get hE fl_X7_49 hx rfl dX7_copies_9 ?_
    refine zs_iload_n hE 3 dX7_copies_12 rfl rfl ?_
    refine zs_iload_n hE 0 dX7_copies_13 rfl rfl ?_
    refine zs_iaddN hE dX7_copies_14 ?_
    refine zs_aload_n hE 1 dX7_copies_15 rfl rfl ?_
    refine zs_get hE fl_X7_49 hx rfl dX7_copies_16 ?_
    refine zs_iload_n hE 2 dX7_copies_19 rfl rfl ?_
    refine zs_iload_n hE 0 dX7_copies_20 rfl rfl ?_
    refine zs_iaddN hE dX7_copies_21 ?_
    refine zs_iald hE r12 (by omega) (by decide) dX7_copies_22 ?_
    refine zs_iast hE r12 (Or.inl (show 500 ≤ κ (ad 12) by omega)) (by omega) (by decide) dX7_copies_23 (fun H1 hp1 hz1 ho1 => ?_)
    have hx := zs_pt.kept hx (ho1 _ (cs_ne t0 t12 (by decide)))
    have r5 := zs_pt.kept r5 (ho1 _ (cs_ne t5 t12 (by decide)))
    have r6 := zs_pt.kept r6 (ho1 _ (cs_ne t6 t12 (by decide)))
    have r7 := zs_pt.kept r7 (ho1 _ (cs_ne t7 t12 (by decide)))
    have r8 := zs_pt.kept r8 (ho1 _ (cs_ne t8 t12 (by decide)))
    have r9 := zs_pt.kept r9 (ho1 _ (cs_ne t9 t12 (by decide)))
    have r10 := zs_pt.kept r10 (ho1 _ (cs_ne t10 t12 (by decide)))
    have r11 := zs_pt.kept r11 (ho1 _ (cs_ne t11 t12 (by decide)))
    have r13 := zs_pt.kept r13 (ho1 _ (cs_ne t13 t12 (by decide)))
    have r14 := zs_pt.kept r14 (ho1 _ (cs_ne t14 t12 (by decide)))
    have r15 := zs_pt.kept r15 (ho1 _ (cs_ne t15 t12 (by decide)))
    have r16 := zs_pt.kept r16 (ho1 _ (cs_ne t16 t12 (by decide)))
    have r17 := zs_pt.kept r17 (ho1 _ (cs_ne t17 t12 (by decide)))
    have r18 := zs_pt.kept r18 (ho1 _ (cs_ne t18 t12 (by decide)))
    have r19 := zs_pt.kept r19 (ho1 _ (cs_ne t19 t12 (by decide)))
    have r20 := zs_pt.kept r20 (ho1 _ (cs_ne t20 t12 (by decide)))
    have kO2 : md_O D E κ x ad sc (va_up ar 12 (va_up f (b + k0) (f (a + k0)))) H1 := ⟨t0, hx, t5, t6, t7, t8, t9, t10, t11, t12, t13, t14, t15, t16, t17, t18, t19, t20, r5, r6, r7, r8, r9, r10, r11, hp1, r13, r14, r15, r16, r17, r18, r19, r20⟩
    refine zs_iincN (lo' := [(3, .int (nI (k0 + 1))), (0, .ref x), (1, .int (nI a)), (2, .int (nI b))]) hE 0 dX7_copies_24 rfl (by decide) rfl ?_
    refine zs_goto (tgt := 2) hE dX7_copies_27 (by decide) ?_
    refine zs_sub (lo' := [(3, .int (nI (k0 + 1))), (0, .ref x), (1, .int (nI a)), (2, .int (nI b))]) [0, 1, 2, 3] rfl ?_
    refine ih (k0 + 1) H1 (va_up f (b + k0) (f (a + k0))) (⟨by omega, by omega, kO2, fun j hj => ?_, fun q hq => ?_⟩) (by omega)
    · by_cases e : j = k0
      · subst e; rw [va_up_self, ke _ (by omega)]
      · rw [va_up_ne _ _ (by omega)]; exact kf j (by omega)
    · rw [va_up_ne _ _ (by omega)]; exact ke q (by omega)


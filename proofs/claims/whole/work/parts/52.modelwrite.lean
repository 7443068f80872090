/-! the model: write -/
theorem md_12 {D : va_G} {E : Nat → ClassId} {κ : Nat → Nat} {x : Nat} {ad sc : Nat → Nat} {ar : Nat → Nat → Int32} {f g : Nat → Int32} {H : Heap} (h : md_O D E κ x ad sc (va_up (va_up ar 12 f) 12 g) H) : md_O D E κ x ad sc (va_up ar 12 g) H := h
theorem mi_write {S : sp_S} {sc : Nat → Nat} {ar : Nat → Nat → Int32} {v e i k : Nat} {f g : Nat → Int32} (h : mi_ S sc ar) (hP : sw_P S) (hV : sw_V S) (hN : sw_N S) (hv : v < sp_nv S) (he : e < 6) (hik : sp_pa S (sp_vp S v) * i + k < sp_ba S (sp_vp S v) * sp_pa S (sp_vp S v))
    (a1 : ∀ j, j < sp_ba S (sp_vp S v) * sp_pa S (sp_vp S v) → ∀ t, t < 41 → f (41 * (32 * sp_nv S + j) + t) = ar 12 (41 * (32 * v + j) + t)) (a2 : ∀ t, (t < 1312 * sp_nv S ∨ 1312 * (sp_nv S + 1) ≤ t) → f t = ar 12 t)
    (b0 : g (41 * (32 * sp_nv S + (sp_pa S (sp_vp S v) * i + k))) = nI 1) (b1 : g (41 * (32 * sp_nv S + (sp_pa S (sp_vp S v) * i + k)) + 1) = nI e) (b2 : g (41 * (32 * sp_nv S + (sp_pa S (sp_vp S v) * i + k)) + 2) = nI (sp_ty S).length) (b3 : ∀ j, j < (sp_ty S).length → g (41 * (32 * sp_nv S + (sp_pa S (sp_vp S v) * i + k)) + 3 + j) = ar 13 j)
    (b4 : ∀ t, (t < 41 * (32 * sp_nv S + (sp_pa S (sp_vp S v) * i + k)) ∨ 41 * (32 * sp_nv S + (sp_pa S (sp_vp S v) * i + k)) + 11 ≤ t) → g t = f t) (hn : sp_nv S < 40) :
    mi_ (s_write S v e i k) (va_up (va_up sc 1 (sp_nv S + 1)) 2 0) (va_up (va_up (va_up (va_up ar 9 (va_up (ar 9) (sp_nv S) (nI (sp_vp S v)))) 10 (va_up (ar 10) (sp_nv S) (nI v))) 11 (va_up (ar 11) (sp_nv S) (-1))) 12 g) := by
  obtain ⟨h1, ⟨v0, v1⟩, ⟨m1, m2⟩, h5, h6, hE⟩ := h
  have hvp := (hV v hv).1
  have h32 := sz_le hP hvp
  generalize hA : sp_pa S (sp_vp S v) * i + k = A at *
  refine ⟨h1, ⟨rfl, fun w hw => ?_⟩, ⟨rfl, fun j hj => absurd hj (Nat.not_lt_zero _)⟩, h5, h6, fun t ht h9 => ?_⟩
  · have hw : w < sp_nv S + 1 := hw
    refine ⟨up_s (fun e => (v1 w (by omega)).1), up_1 (by rw [nI_m2 (by omega)]; rfl) (fun e => (v1 w (by omega)).2.1), up_1 rfl (fun e => (v1 w (by omega)).2.2.1), ?_⟩
    show ∀ j, j < sp_ba S (va_up (sp_vp S) (sp_nv S) (sp_vp S v) w) * sp_pa S (va_up (sp_vp S) (sp_nv S) (sp_vp S v) w) → md_s g (41 * (32 * w + j)) (va_up (sp_sv S) (sp_nv S) (va_up (sp_sv S v) (sp_pa S (sp_vp S v) * i + k) [(e, sp_ty S)]) w j)
    rw [hA]
    by_cases e0 : w = sp_nv S
    · rw [e0, va_up_self, va_up_self]
      intro j hj
      by_cases e1 : j = A
      · rw [e1, va_up_self]
        refine ⟨b0, fun n hn2 => ?_⟩
        have hn2 : n < 1 := hn2
        obtain rfl : n = 0 := by omega
        refine ⟨b1, b2, fun k2 hk2 => ?_⟩
        have hk2 : k2 < (sp_ty S).length := hk2
        show g (41 * (32 * sp_nv S + A) + 1 + 10 * 0 + 2 + k2) = nI ((sp_ty S).getD k2 0)
        rw [← m2 k2 hk2, ← b3 k2 hk2]
      · rw [va_up_ne _ _ e1]
        exact ((v1 v hv).2.2.2 j hj).mv (sv_ok hV hv hj) (fun t ht => by rw [b4 _ (by omega)]; exact a1 j hj t ht)
    · rw [va_up_ne _ _ e0, va_up_ne _ _ e0]
      intro j hj
      have hw2 : w < sp_nv S := by omega
      have h33 := sz_le hP (hV w hw2).1
      exact ((v1 w hw2).2.2.2 j hj).mv (sv_ok hV hw2 hj) (fun t ht => by rw [b4 _ (by omega)]; exact a2 _ (by omega))
  · have ht : 1312 * (sp_nv S + 1) ≤ t := ht
    show g t = 0
    rw [b4 t (by omega), a2 t (by omega)]; exact hE t (by omega) h9

set_option maxHeartbeats 4000000 in
set_option maxRecDepth 100000 in
theorem m_X7_at9 (D : va_G) (E : Nat → ClassId) (B : Nat) (l : Launch) (κ : Nat → Nat) (x : Nat) (ad sc : Nat → Nat) (ar : Nat → Nat → Int32) (v b p9 pc q9 : Nat) (vl : v < 40) (ep : ar 9 v = nI pc) (pl : pc < 6) (eq : ar 6 pc = nI q9) : zs_Ct D E B l yX7_at cX7_at 4 (some .int) ({ frames := 0, cells := 0, slots := 0, locals := 0 } : Room) [.ref x, .int (nI v), .int (nI b), .int (nI p9)] (fun H => md_O D E κ x ad sc ar H) (zs_N) (zs_ro (.int (nI (41 * (32 * v + (q9 * b + p9)))))) := by
  refine zs_ct (by decide) (Nat.le_of_ble_eq_true rfl) (fun p e s m below meth c hE hr hin hp => ?_)
  refine zs_lo (lo' := [(0, .ref x), (1, .int (nI v)), (2, .int (nI b)), (3, .int (nI p9))]) rfl ?_
  have hO := hp
  obtain ⟨t0, hx, t5, t6, t7, t8, t9, t10, t11, t12, t13, t14, t15, t16, t17, t18, t19, t20, r5, r6, r7, r8, r9, r10, r11, r12, r13, r14, r15, r16, r17, r18, r19, r20⟩ := id hO
  refine zs_bipush (v := (nI 41)) hE dX7_at_0 (by decide) ?_
  refine zs_bipush (v := (nI 32)) hE dX7_at_2 (by decide) ?_
  refine zs_iload_n hE 1 dX7_at_4 rfl rfl ?_
  refine zs_imulN hE dX7_at_5 ?_
  refine zs_aload_n hE 0 dX7_at_6 rfl rfl ?_
  refine zs_get hE fl_X7_29 hx rfl dX7_at_7 ?_
  refine zs_aload_n hE 0 dX7_at_10 rfl rfl ?_
  refine zs_get hE fl_X7_39 hx rfl dX7_at_11 ?_
  refine zs_iload_n hE 1 dX7_at_14 rfl rfl ?_
  refine zs_iald hE r9 (by omega) (by decide) dX7_at_15 ?_
  refine zs_top (v' := .int (nI pc)) (by rw [ep]) ?_
  refine zs_iald hE r6 (by omega) (by decide) dX7_at_16 ?_
  refine zs_top (v' := .int (nI q9)) (by rw [eq]) ?_
  refine zs_iload_n hE 2 dX7_at_17 rfl rfl ?_
  refine zs_imulN hE dX7_at_18 ?_
  refine zs_iaddN hE dX7_at_19 ?_
  refine zs_iload_n hE 3 dX7_at_20 rfl rfl ?_
  refine zs_iaddN hE dX7_at_21 ?_
  refine zs_imulN hE dX7_at_22 ?_
  refine zs_top (v' := .int (nI (41 * (32 * v + (q9 * b + p9))))) (by rw [Nat.add_assoc]) ?_
  exact zs_iret hE hr (⟨rfl, rfl⟩) (by decide) (by decide) dX7_at_23

set_option maxHeartbeats 4000000 in
set_option maxRecDepth 100000 in
theorem m_X7_write (D : va_G) (E : Nat → ClassId) (B : Nat) (l : Launch) (κ : Nat → Nat) (x : Nat) (ad sc : Nat → Nat) (ar : Nat → Nat → Int32) (S : sp_S) (y u z w : Int32) (hM : mi_ S sc ar) (hw : sp_wf S) : zs_Ct D E B l yX7_write cX7_write 8 (some .int) ({ frames := 3, cells := 0, slots := 0, locals := 66 } : Room) [.ref x, .int y, .int u, .int z, .int w] (fun H => md_O D E κ x ad sc ar H) (md_F κ) (mq_ D E κ x ad (o_write S y u z w)) := by
  refine zs_ct (by decide) (Nat.le_of_ble_eq_true rfl) (fun p e s m below meth c hE hr hin hp => ?_)
  refine zs_lo (lo' := [(0, .ref x), (1, .int y), (2, .int u), (3, .int z), (4, .int w)]) rfl ?_
  have hO := hp
  obtain ⟨t0, hx, t5, t6, t7, t8, t9, t10, t11, t12, t13, t14, t15, t16, t17, t18, t19, t20, r5, r6, r7, r8, r9, r10, r11, r12, r13, r14, r15, r16, r17, r18, r19, r20⟩ := id hO
  obtain ⟨wN, wP, wV, wA, wH, wZ, wF⟩ := id hw
  obtain ⟨n6, n40, n12, n8, n99⟩ := id wN
  obtain ⟨⟨mp0, mP⟩, ⟨mv0, mV⟩, ⟨mt0, mT⟩, mH, ⟨mz0, mZ⟩, mE⟩ := id hM
  refine zs_aload_n hE 0 dX7_write_0 rfl rfl ?_
  refine zs_iload_n hE 1 dX7_write_1 rfl rfl ?_
  refine zs_iload_n hE 3 dX7_write_2 rfl rfl ?_
  refine zs_iload hE 4 dX7_write_3 rfl ?_
  refine zs_callVR (av := [.int y, .int z, .int w]) (st := []) (b := x) hE (m_X7_isSheaf D E B l κ x ad sc ar S y z w hM hw) rfl rfl sV_X7_103 hx rfl rfl (hO) ⟨by decide, by decide⟩ ⟨by decide, by decide⟩ (Nat.le_of_ble_eq_true rfl) dX7_write_5 ?_
  refine zs_if_neB (tgt := 17) hE dX7_write_8 (by decide) (fun h1 => ?_) (fun h1 => ?_)
  · obtain ⟨v, i, k, ev, ei, ek, esh, kb⟩ := shx wP wV h1
    have lv := (sp_i_lt ev).1
    have vwl := (wV v lv).1
    have szl := sz_le wP vwl
    have li := (sp_i_lt ei).1
    have lk := (sp_i_lt ek).1
    obtain ⟨-, b8, -, p4, -⟩ := wP.1 _ vwl
    refine zs_lo (lo' := [(0, .ref x), (1, .int (nI v)), (2, .int u), (3, .int (nI i)), (4, .int (nI k))]) (by rw [(sp_i_lt ev).2, (sp_i_lt ei).2, (sp_i_lt ek).2]) ?_
    refine zs_iload_n hE 2 dX7_write_17 rfl rfl ?_
    refine zs_iconst (v := (nI 0)) hE dX7_write_18 (by decide) ?_
    refine zs_iconst (v := (nI 5)) hE dX7_write_19 (by decide) ?_
    refine zs_callSR (av := [.int u, .int (nI 0), .int (nI 5)]) (st := []) hE (m_X7_in D E B l u (nI 0) (nI 5)) rfl rfl sS_X7_77 (trivial) ⟨by decide, by decide⟩ ⟨by decide, by decide⟩ (Nat.le_of_ble_eq_true rfl) dX7_write_20 ?_
    refine zs_top (v' := .int (zs_b (sp_i u 6 ≠ none))) (by rw [← zs_bc (in_i (y := u) (n := 6) (by decide))]; rfl) ?_
    refine zs_if_neB (tgt := 32) hE dX7_write_23 (by decide) (fun h2 => ?_) (fun h2 => ?_)
    · obtain ⟨e9, ee⟩ : ∃ e, sp_i u 6 = some e := by cases z9 : sp_i u 6 with | none => exact absurd z9 h2 | some q9 => exact ⟨q9, rfl⟩
      have le9 := (sp_i_lt ee).1
      refine zs_lo (lo' := [(0, .ref x), (1, .int (nI v)), (2, .int (nI e9)), (3, .int (nI i)), (4, .int (nI k))]) (by rw [(sp_i_lt ee).2]) ?_
      refine zs_aload_n hE 0 dX7_write_32 rfl rfl ?_
      refine zs_get hE fl_X7_13 hx rfl dX7_write_33 ?_
      refine zs_top (v' := .int (nI (sp_nv S))) (by rw [mv0]) ?_
      refine zs_bipush (v := (nI 40)) hE dX7_write_36 (by decide) ?_
      refine zs_icmp_neN (tgt := 47) hE (by omega) (by decide) dX7_write_38 (by decide) (fun h3 => ?_) (fun h3 => ?_)
      · have nvl : sp_nv S < 40 := by omega
        refine zs_aload_n hE 0 dX7_write_47 rfl rfl ?_
        refine zs_aload_n hE 0 dX7_write_48 rfl rfl ?_
        refine zs_get hE fl_X7_39 hx rfl dX7_write_49 ?_
        refine zs_iload_n hE 1 dX7_write_52 rfl rfl ?_
        refine zs_iald hE r9 (by omega) (by decide) dX7_write_53 ?_
        refine zs_top (v' := .int (nI (sp_vp S v))) (by rw [(mV v lv).1]) ?_
        refine zs_iload_n hE 1 dX7_write_54 rfl rfl ?_
        refine zs_iconst (v := (-1)) hE dX7_write_55 (by decide) ?_
        refine zs_callV (av := [.int (nI (sp_vp S v)), .int (nI v), .int (-1)]) (st := []) hE (m_X7_adds D E B l κ x ad sc ar (nI (sp_vp S v)) (nI v) (-1) (by omega)) sV_X7_85 hx rfl rfl (hO) ⟨by decide, by decide⟩ ⟨by decide, by decide⟩ (fun q9 w9 => Or.inl w9) (Nat.le_of_ble_eq_true rfl) dX7_write_56 (fun v1 H1 hv1 hz1 hk1 => ?_)
        obtain ⟨rfl, az, aO0⟩ := hv1
        refine zs_widen (k' := 0) (n' := 0) (by decide) (by decide) ?_
        refine zs_top (v' := .int (nI (sp_nv S))) (by rw [mv0]) ?_
        have hOa : md_O D E κ x ad (va_up sc 1 (sp_nv S + 1)) (va_up (va_up (va_up ar 9 (va_up (ar 9) (sp_nv S) (nI (sp_vp S v)))) 10 (va_up (ar 10) (sp_nv S) (nI v))) 11 (va_up (ar 11) (sp_nv S) (-1))) H1 := by rw [← mv0]; exact aO0
        refine zs_istore (lo' := [(5, .int (nI (sp_nv S))), (0, .ref x), (1, .int (nI v)), (2, .int (nI e9)), (3, .int (nI i)), (4, .int (nI k))]) hE dX7_write_59 (by decide) rfl ?_
        refine zs_iconst (v := (nI 0)) hE dX7_write_61 (by decide) ?_
        refine zs_istore (lo' := [(6, .int (nI 0)), (5, .int (nI (sp_nv S))), (0, .ref x), (1, .int (nI v)), (2, .int (nI e9)), (3, .int (nI i)), (4, .int (nI k))]) hE dX7_write_62 (by decide) rfl ?_
        refine zs_sub (lo' := [(6, .int (nI 0)), (0, .ref x), (1, .int (nI v)), (2, .int (nI e9)), (3, .int (nI i)), (4, .int (nI k)), (5, .int (nI (sp_nv S)))]) [0, 2, 3, 4, 5, 6, 1] rfl ?_
        refine zs_ind3 (Hs := fun (k0 : Nat) (K : Heap) (f : Nat → Int32) => K) (ks := fun (k0 : Nat) (K : Heap) (f : Nat → Int32) => 0) (ns := fun (k0 : Nat) (K : Heap) (f : Nat → Int32) => 0) (los := fun (k0 : Nat) (K : Heap) (f : Nat → Int32) => [(6, .int (nI k0)), (0, .ref x), (1, .int (nI v)), (2, .int (nI e9)), (3, .int (nI i)), (4, .int (nI k)), (5, .int (nI (sp_nv S)))]) (I := fun (k0 : Nat) (K : Heap) (f : Nat → Int32) => k0 ≤ sp_ba S (sp_vp S v) * sp_pa S (sp_vp S v) ∧ K.size = s.heap.size ∧ md_O D E κ x ad (va_up sc 1 (sp_nv S + 1)) (va_up (va_up (va_up (va_up ar 9 (va_up (ar 9) (sp_nv S) (nI (sp_vp S v)))) 10 (va_up (ar 10) (sp_nv S) (nI v))) 11 (va_up (ar 11) (sp_nv S) (-1))) 12 f) K ∧ (∀ j, j < k0 → ∀ t, t < 41 → f (41 * (32 * sp_nv S + j) + t) = ar 12 (41 * (32 * v + j) + t)) ∧ ∀ t, (t < 1312 * sp_nv S ∨ 1312 * (sp_nv S + 1) ≤ t) → f t = ar 12 t) (μ := fun (k0 : Nat) (K : Heap) (f : Nat → Int32) => sp_ba S (sp_vp S v) * sp_pa S (sp_vp S v) - k0) 0 H1 (ar 12) (⟨Nat.zero_le _, by omega, md_up 12 hOa, fun j hj => absurd hj (Nat.not_lt_zero _), fun t _ => rfl⟩) (fun k0 K f hi ih => ?_)
        try dsimp only at hi ih ⊢
        obtain ⟨kl, kz, kO, kf, ke⟩ := hi
        obtain ⟨-, hx, -, -, -, -, -, -, -, -, -, -, -, -, -, -, -, -, r5, r6, r7, r8, r9, r10, r11, r12, r13, r14, r15, r16, r17, r18, r19, r20⟩ := id kO
        have hx : zs_pt D x (.inr (7, [.int (nI (sc 0)), .int (nI (sp_nv S + 1)), .int (nI (sc 2)), .int (nI (sc 3)), .int (nI (sc 4)), .ref (ad 5), .ref (ad 6), .ref (ad 7), .ref (ad 8), .ref (ad 9), .ref (ad 10), .ref (ad 11), .ref (ad 12), .ref (ad 13), .ref (ad 14), .ref (ad 15), .ref (ad 16), .ref (ad 17), .ref (ad 18), .ref (ad 19), .ref (ad 20)])) K := hx
        have r5 : zs_pt D (ad 5) (.inl (E 0, 6, .inl (ar 5))) K := r5
        have r6 : zs_pt D (ad 6) (.inl (E 0, 6, .inl (ar 6))) K := r6
        have r7 : zs_pt D (ad 7) (.inl (E 0, 6, .inl (ar 7))) K := r7
        have r8 : zs_pt D (ad 8) (.inl (E 1, 24, .inl (ar 8))) K := r8
        have r9 : zs_pt D (ad 9) (.inl (E 0, 40, .inl (va_up (ar 9) (sp_nv S) (nI (sp_vp S v))))) K := r9
        have r10 : zs_pt D (ad 10) (.inl (E 0, 40, .inl (va_up (ar 10) (sp_nv S) (nI v)))) K := r10
        have r11 : zs_pt D (ad 11) (.inl (E 0, 40, .inl (va_up (ar 11) (sp_nv S) (-1)))) K := r11
        have r12 : zs_pt D (ad 12) (.inl (E 0, 52480, .inl (f))) K := r12
        have r13 : zs_pt D (ad 13) (.inl (E 0, 8, .inl (ar 13))) K := r13
        have r14 : zs_pt D (ad 14) (.inl (E 0, 24, .inl (ar 14))) K := r14
        have r15 : zs_pt D (ad 15) (.inl (E 0, 120, .inl (ar 15))) K := r15
        have r16 : zs_pt D (ad 16) (.inl (E 2, 120, .inl (ar 16))) K := r16
        have r17 : zs_pt D (ad 17) (.inl (E 2, 40, .inl (ar 17))) K := r17
        have r18 : zs_pt D (ad 18) (.inl (E 0, 12, .inl (ar 18))) K := r18
        have r19 : zs_pt D (ad 19) (.inl (E 0, 12, .inl (ar 19))) K := r19
        have r20 : zs_pt D (ad 20) (.inl (E 0, 72, .inl (ar 20))) K := r20
        refine zs_iload hE 0 dX7_write_64 rfl ?_
        refine zs_aload_n hE 1 dX7_write_66 rfl rfl ?_
        refine zs_aload_n hE 1 dX7_write_67 rfl rfl ?_
        refine zs_get hE fl_X7_39 hx rfl dX7_write_68 ?_
        refine zs_iload_n hE 2 dX7_write_71 rfl rfl ?_
        refine zs_iald hE r9 (by omega) (by decide) dX7_write_72 ?_
        refine zs_top (v' := .int (nI (sp_vp S v))) (by rw [va_up_ne _ _ (by omega), (mV v lv).1]) ?_
        refine zs_callVR (av := [.int (nI (sp_vp S v))]) (st := [.int (nI k0)]) (b := x) hE (m_X7_size D E B l κ x ad (va_up sc 1 (sp_nv S + 1)) (va_up (va_up (va_up (va_up ar 9 (va_up (ar 9) (sp_nv S) (nI (sp_vp S v)))) 10 (va_up (ar 10) (sp_nv S) (nI v))) 11 (va_up (ar 11) (sp_nv S) (-1))) 12 f) (sp_vp S v) (sp_ba S (sp_vp S v)) (sp_pa S (sp_vp S v)) (by omega) (mP _ vwl).1 (mP _ vwl).2.1) rfl rfl sV_X7_106 hx rfl rfl (kO) ⟨by decide, by decide⟩ ⟨by decide, by decide⟩ (Nat.le_of_ble_eq_true rfl) dX7_write_73 ?_
        refine zs_icmp_geN (tgt := 104) hE (by omega) (by omega) dX7_write_76 (by decide) (fun h5 => ?_) (fun h => ?_)
        · obtain rfl : k0 = sp_ba S (sp_vp S v) * sp_pa S (sp_vp S v) := by omega
          refine zs_aload_n hE 1 dX7_write_104 rfl rfl ?_
          refine zs_iload hE 6 dX7_write_105 rfl ?_
          refine zs_iload_n hE 4 dX7_write_107 rfl rfl ?_
          refine zs_iload hE 5 dX7_write_108 rfl ?_
          refine zs_callVR (av := [.int (nI (sp_nv S)), .int (nI i), .int (nI k)]) (st := []) (b := x) hE (m_X7_at9 D E B l κ x ad (va_up sc 1 (sp_nv S + 1)) (va_up (va_up (va_up (va_up ar 9 (va_up (ar 9) (sp_nv S) (nI (sp_vp S v)))) 10 (va_up (ar 10) (sp_nv S) (nI v))) 11 (va_up (ar 11) (sp_nv S) (-1))) 12 f) (sp_nv S) i k (sp_vp S v) (sp_pa S (sp_vp S v)) nvl (va_up_self _ _ _) (by omega) (mP _ vwl).2.1) rfl rfl sV_X7_113 hx rfl rfl (kO) ⟨by decide, by decide⟩ ⟨by decide, by decide⟩ (Nat.le_of_ble_eq_true rfl) dX7_write_110 ?_
          refine zs_istore (lo' := [(6, .int (nI (41 * (32 * sp_nv S + (sp_pa S (sp_vp S v) * i + k))))), (0, .ref x), (1, .int (nI v)), (2, .int (nI e9)), (3, .int (nI i)), (4, .int (nI k)), (5, .int (nI (sp_nv S)))]) hE dX7_write_113 (by decide) rfl ?_
          refine zs_aload_n hE 1 dX7_write_115 rfl rfl ?_
          refine zs_get hE fl_X7_49 hx rfl dX7_write_116 ?_
          refine zs_iload hE 0 dX7_write_119 rfl ?_
          refine zs_iconst (v := (nI 1)) hE dX7_write_121 (by decide) ?_
          refine zs_iast hE r12 (Or.inl (show 500 ≤ κ (ad 12) by omega)) (by omega) (by decide) dX7_write_122 (fun H2 hp2 hz2 ho2 => ?_)
          have hx := zs_pt.kept hx (ho2 _ (cs_ne t0 t12 (by decide)))
          have r5 := zs_pt.kept r5 (ho2 _ (cs_ne t5 t12 (by decide)))
          have r6 := zs_pt.kept r6 (ho2 _ (cs_ne t6 t12 (by decide)))
          have r7 := zs_pt.kept r7 (ho2 _ (cs_ne t7 t12 (by decide)))
          have r8 := zs_pt.kept r8 (ho2 _ (cs_ne t8 t12 (by decide)))
          have r9 := zs_pt.kept r9 (ho2 _ (cs_ne t9 t12 (by decide)))
          have r10 := zs_pt.kept r10 (ho2 _ (cs_ne t10 t12 (by decide)))
          have r11 := zs_pt.kept r11 (ho2 _ (cs_ne t11 t12 (by decide)))
          have r13 := zs_pt.kept r13 (ho2 _ (cs_ne t13 t12 (by decide)))
          have r14 := zs_pt.kept r14 (ho2 _ (cs_ne t14 t12 (by decide)))
          have r15 := zs_pt.kept r15 (ho2 _ (cs_ne t15 t12 (by decide)))
          have r16 := zs_pt.kept r16 (ho2 _ (cs_ne t16 t12 (by decide)))
          have r17 := zs_pt.kept r17 (ho2 _ (cs_ne t17 t12 (by decide)))
          have r18 := zs_pt.kept r18 (ho2 _ (cs_ne t18 t12 (by decide)))
          have r19 := zs_pt.kept r19 (ho2 _ (cs_ne t19 t12 (by decide)))
          have r20 := zs_pt.kept r20 (ho2 _ (cs_ne t20 t12 (by decide)))
          refine zs_aload_n hE 1 dX7_write_123 rfl rfl ?_
          refine zs_get hE fl_X7_49 hx rfl dX7_write_124 ?_
          refine zs_iload hE 0 dX7_write_127 rfl ?_
          refine zs_iconst (v := (nI 1)) hE dX7_write_129 (by decide) ?_
          refine zs_iaddN hE dX7_write_130 ?_
          refine zs_iload_n hE 3 dX7_write_131 rfl rfl ?_
          refine zs_iast hE hp2 (Or.inl (show 500 ≤ κ (ad 12) by omega)) (by omega) (by decide) dX7_write_132 (fun H3 hp3 hz3 ho3 => ?_)
          have hx := zs_pt.kept hx (ho3 _ (cs_ne t0 t12 (by decide)))
          have r5 := zs_pt.kept r5 (ho3 _ (cs_ne t5 t12 (by decide)))
          have r6 := zs_pt.kept r6 (ho3 _ (cs_ne t6 t12 (by decide)))
          have r7 := zs_pt.kept r7 (ho3 _ (cs_ne t7 t12 (by decide)))
          have r8 := zs_pt.kept r8 (ho3 _ (cs_ne t8 t12 (by decide)))
          have r9 := zs_pt.kept r9 (ho3 _ (cs_ne t9 t12 (by decide)))
          have r10 := zs_pt.kept r10 (ho3 _ (cs_ne t10 t12 (by decide)))
          have r11 := zs_pt.kept r11 (ho3 _ (cs_ne t11 t12 (by decide)))
          have r13 := zs_pt.kept r13 (ho3 _ (cs_ne t13 t12 (by decide)))
          have r14 := zs_pt.kept r14 (ho3 _ (cs_ne t14 t12 (by decide)))
          have r15 := zs_pt.kept r15 (ho3 _ (cs_ne t15 t12 (by decide)))
          have r16 := zs_pt.kept r16 (ho3 _ (cs_ne t16 t12 (by decide)))
          have r17 := zs_pt.kept r17 (ho3 _ (cs_ne t17 t12 (by decide)))
          have r18 := zs_pt.kept r18 (ho3 _ (cs_ne t18 t12 (by decide)))
          have r19 := zs_pt.kept r19 (ho3 _ (cs_ne t19 t12 (by decide)))
          have r20 := zs_pt.kept r20 (ho3 _ (cs_ne t20 t12 (by decide)))
          refine zs_aload_n hE 1 dX7_write_133 rfl rfl ?_
          refine zs_get hE fl_X7_49 hx rfl dX7_write_134 ?_
          refine zs_iload hE 0 dX7_write_137 rfl ?_
          refine zs_iconst (v := (nI 2)) hE dX7_write_139 (by decide) ?_
          refine zs_iaddN hE dX7_write_140 ?_
          refine zs_aload_n hE 1 dX7_write_141 rfl rfl ?_
          refine zs_get hE fl_X7_16 hx rfl dX7_write_142 ?_
          refine zs_top (v' := .int (nI ((sp_ty S).length))) (by rw [mt0]) ?_
          refine zs_iast hE hp3 (Or.inl (show 500 ≤ κ (ad 12) by omega)) (by omega) (by decide) dX7_write_145 (fun H4 hp4 hz4 ho4 => ?_)
          have hx := zs_pt.kept hx (ho4 _ (cs_ne t0 t12 (by decide)))
          have r5 := zs_pt.kept r5 (ho4 _ (cs_ne t5 t12 (by decide)))
          have r6 := zs_pt.kept r6 (ho4 _ (cs_ne t6 t12 (by decide)))
          have r7 := zs_pt.kept r7 (ho4 _ (cs_ne t7 t12 (by decide)))
          have r8 := zs_pt.kept r8 (ho4 _ (cs_ne t8 t12 (by decide)))
          have r9 := zs_pt.kept r9 (ho4 _ (cs_ne t9 t12 (by decide)))
          have r10 := zs_pt.kept r10 (ho4 _ (cs_ne t10 t12 (by decide)))
          have r11 := zs_pt.kept r11 (ho4 _ (cs_ne t11 t12 (by decide)))
          have r13 := zs_pt.kept r13 (ho4 _ (cs_ne t13 t12 (by decide)))
          have r14 := zs_pt.kept r14 (ho4 _ (cs_ne t14 t12 (by decide)))
          have r15 := zs_pt.kept r15 (ho4 _ (cs_ne t15 t12 (by decide)))
          have r16 := zs_pt.kept r16 (ho4 _ (cs_ne t16 t12 (by decide)))
          have r17 := zs_pt.kept r17 (ho4 _ (cs_ne t17 t12 (by decide)))
          have r18 := zs_pt.kept r18 (ho4 _ (cs_ne t18 t12 (by decide)))
          have r19 := zs_pt.kept r19 (ho4 _ (cs_ne t19 t12 (by decide)))
          have r20 := zs_pt.kept r20 (ho4 _ (cs_ne t20 t12 (by decide)))
          have hOb : md_O D E κ x ad (va_up sc 1 (sp_nv S + 1)) (va_up (va_up (va_up (va_up ar 9 (va_up (ar 9) (sp_nv S) (nI (sp_vp S v)))) 10 (va_up (ar 10) (sp_nv S) (nI v))) 11 (va_up (ar 11) (sp_nv S) (-1))) 12 (va_up (va_up (va_up f (41 * (32 * sp_nv S + (sp_pa S (sp_vp S v) * i + k))) (nI 1)) (41 * (32 * sp_nv S + (sp_pa S (sp_vp S v) * i + k)) + 1) (nI e9)) (41 * (32 * sp_nv S + (sp_pa S (sp_vp S v) * i + k)) + 2) (nI (sp_ty S).length))) H4 := ⟨t0, hx, t5, t6, t7, t8, t9, t10, t11, t12, t13, t14, t15, t16, t17, t18, t19, t20, r5, r6, r7, r8, r9, r10, r11, hp4, r13, r14, r15, r16, r17, r18, r19, r20⟩
          refine zs_iconst (v := (nI 0)) hE dX7_write_146 (by decide) ?_
          refine zs_istore (lo' := [(7, .int (nI 0)), (6, .int (nI (41 * (32 * sp_nv S + (sp_pa S (sp_vp S v) * i + k))))), (0, .ref x), (1, .int (nI v)), (2, .int (nI e9)), (3, .int (nI i)), (4, .int (nI k)), (5, .int (nI (sp_nv S)))]) hE dX7_write_147 (by decide) rfl ?_
          refine zs_sub (lo' := [(7, .int (nI 0)), (0, .ref x), (2, .int (nI e9)), (5, .int (nI (sp_nv S))), (6, .int (nI (41 * (32 * sp_nv S + (sp_pa S (sp_vp S v) * i + k)))))]) [0, 2, 4, 7, 1] rfl ?_
          refine zs_ind3 (Hs := fun (k1 : Nat) (K2 : Heap) (g : Nat → Int32) => K2) (ks := fun (k1 : Nat) (K2 : Heap) (g : Nat → Int32) => 0) (ns := fun (k1 : Nat) (K2 : Heap) (g : Nat → Int32) => 0) (los := fun (k1 : Nat) (K2 : Heap) (g : Nat → Int32) => [(7, .int (nI k1)), (0, .ref x), (2, .int (nI e9)), (5, .int (nI (sp_nv S))), (6, .int (nI (41 * (32 * sp_nv S + (sp_pa S (sp_vp S v) * i + k)))))]) (I := fun (k1 : Nat) (K2 : Heap) (g : Nat → Int32) => k1 ≤ (sp_ty S).length ∧ K2.size = s.heap.size ∧ md_O D E κ x ad (va_up sc 1 (sp_nv S + 1)) (va_up (va_up (va_up (va_up ar 9 (va_up (ar 9) (sp_nv S) (nI (sp_vp S v)))) 10 (va_up (ar 10) (sp_nv S) (nI v))) 11 (va_up (ar 11) (sp_nv S) (-1))) 12 g) K2 ∧ g (41 * (32 * sp_nv S + (sp_pa S (sp_vp S v) * i + k))) = nI 1 ∧ g (41 * (32 * sp_nv S + (sp_pa S (sp_vp S v) * i + k)) + 1) = nI e9 ∧ g (41 * (32 * sp_nv S + (sp_pa S (sp_vp S v) * i + k)) + 2) = nI (sp_ty S).length ∧ (∀ j, j < k1 → g (41 * (32 * sp_nv S + (sp_pa S (sp_vp S v) * i + k)) + 3 + j) = ar 13 j) ∧ ∀ t, (t < 41 * (32 * sp_nv S + (sp_pa S (sp_vp S v) * i + k)) ∨ 41 * (32 * sp_nv S + (sp_pa S (sp_vp S v) * i + k)) + 11 ≤ t) → g t = f t) (μ := fun (k1 : Nat) (K2 : Heap) (g : Nat → Int32) => (sp_ty S).length - k1) 0 H4 (va_up (va_up (va_up f (41 * (32 * sp_nv S + (sp_pa S (sp_vp S v) * i + k))) (nI 1)) (41 * (32 * sp_nv S + (sp_pa S (sp_vp S v) * i + k)) + 1) (nI e9)) (41 * (32 * sp_nv S + (sp_pa S (sp_vp S v) * i + k)) + 2) (nI (sp_ty S).length)) (⟨Nat.zero_le _, by omega, hOb, by rw [va_up_ne _ _ (by omega), va_up_ne _ _ (by omega), va_up_self], by rw [va_up_ne _ _ (by omega), va_up_self], va_up_self _ _ _, fun j hj => absurd hj (Nat.not_lt_zero _), fun t ht => by rw [va_up_ne _ _ (by omega), va_up_ne _ _ (by omega), va_up_ne _ _ (by omega)]⟩) (fun k1 K2 g hi ih => ?_)
          try dsimp only at hi ih ⊢
          obtain ⟨kl2, kz2, lO, c0, c1, c2, c3, c4⟩ := hi
          obtain ⟨-, hx, -, -, -, -, -, -, -, -, -, -, -, -, -, -, -, -, r5, r6, r7, r8, r9, r10, r11, r12, r13, r14, r15, r16, r17, r18, r19, r20⟩ := id lO
          have hx : zs_pt D x (.inr (7, [.int (nI (sc 0)), .int (nI (sp_nv S + 1)), .int (nI (sc 2)), .int (nI (sc 3)), .int (nI (sc 4)), .ref (ad 5), .ref (ad 6), .ref (ad 7), .ref (ad 8), .ref (ad 9), .ref (ad 10), .ref (ad 11), .ref (ad 12), .ref (ad 13), .ref (ad 14), .ref (ad 15), .ref (ad 16), .ref (ad 17), .ref (ad 18), .ref (ad 19), .ref (ad 20)])) K2 := hx
          have r5 : zs_pt D (ad 5) (.inl (E 0, 6, .inl (ar 5))) K2 := r5
          have r6 : zs_pt D (ad 6) (.inl (E 0, 6, .inl (ar 6))) K2 := r6
          have r7 : zs_pt D (ad 7) (.inl (E 0, 6, .inl (ar 7))) K2 := r7
          have r8 : zs_pt D (ad 8) (.inl (E 1, 24, .inl (ar 8))) K2 := r8
          have r9 : zs_pt D (ad 9) (.inl (E 0, 40, .inl (va_up (ar 9) (sp_nv S) (nI (sp_vp S v))))) K2 := r9
          have r10 : zs_pt D (ad 10) (.inl (E 0, 40, .inl (va_up (ar 10) (sp_nv S) (nI v)))) K2 := r10
          have r11 : zs_pt D (ad 11) (.inl (E 0, 40, .inl (va_up (ar 11) (sp_nv S) (-1)))) K2 := r11
          have r12 : zs_pt D (ad 12) (.inl (E 0, 52480, .inl (g))) K2 := r12
          have r13 : zs_pt D (ad 13) (.inl (E 0, 8, .inl (ar 13))) K2 := r13
          have r14 : zs_pt D (ad 14) (.inl (E 0, 24, .inl (ar 14))) K2 := r14
          have r15 : zs_pt D (ad 15) (.inl (E 0, 120, .inl (ar 15))) K2 := r15
          have r16 : zs_pt D (ad 16) (.inl (E 2, 120, .inl (ar 16))) K2 := r16
          have r17 : zs_pt D (ad 17) (.inl (E 2, 40, .inl (ar 17))) K2 := r17
          have r18 : zs_pt D (ad 18) (.inl (E 0, 12, .inl (ar 18))) K2 := r18
          have r19 : zs_pt D (ad 19) (.inl (E 0, 12, .inl (ar 19))) K2 := r19
          have r20 : zs_pt D (ad 20) (.inl (E 0, 72, .inl (ar 20))) K2 := r20
          refine zs_iload hE 0 dX7_write_149 rfl ?_
          refine zs_aload_n hE 1 dX7_write_151 rfl rfl ?_
          refine zs_get hE fl_X7_16 hx rfl dX7_write_152 ?_
          refine zs_top (v' := .int (nI ((sp_ty S).length))) (by rw [mt0]) ?_
          refine zs_icmp_geN (tgt := 183) hE (by omega) (by omega) dX7_write_155 (by decide) (fun h6 => ?_) (fun h2 => ?_)
          · obtain rfl : k1 = (sp_ty S).length := by omega
            refine zs_aload_n hE 1 dX7_write_183 rfl rfl ?_
            refine zs_iconst (v := (nI 0)) hE dX7_write_184 (by decide) ?_
            refine zs_put (v := .int (nI 0)) hE fl_X7_16 hx (Or.inl (show 500 ≤ κ x by omega)) (rfl) (rfl) (Nat.le_of_ble_eq_true rfl) dX7_write_185 (fun H5 hp5 hz5 ho5 => ?_)
            have r5 := zs_pt.kept r5 (ho5 _ (cs_ne t5 t0 (by decide)))
            have r6 := zs_pt.kept r6 (ho5 _ (cs_ne t6 t0 (by decide)))
            have r7 := zs_pt.kept r7 (ho5 _ (cs_ne t7 t0 (by decide)))
            have r8 := zs_pt.kept r8 (ho5 _ (cs_ne t8 t0 (by decide)))
            have r9 := zs_pt.kept r9 (ho5 _ (cs_ne t9 t0 (by decide)))
            have r10 := zs_pt.kept r10 (ho5 _ (cs_ne t10 t0 (by decide)))
            have r11 := zs_pt.kept r11 (ho5 _ (cs_ne t11 t0 (by decide)))
            have r12 := zs_pt.kept r12 (ho5 _ (cs_ne t12 t0 (by decide)))
            have r13 := zs_pt.kept r13 (ho5 _ (cs_ne t13 t0 (by decide)))
            have r14 := zs_pt.kept r14 (ho5 _ (cs_ne t14 t0 (by decide)))
            have r15 := zs_pt.kept r15 (ho5 _ (cs_ne t15 t0 (by decide)))
            have r16 := zs_pt.kept r16 (ho5 _ (cs_ne t16 t0 (by decide)))
            have r17 := zs_pt.kept r17 (ho5 _ (cs_ne t17 t0 (by decide)))
            have r18 := zs_pt.kept r18 (ho5 _ (cs_ne t18 t0 (by decide)))
            have r19 := zs_pt.kept r19 (ho5 _ (cs_ne t19 t0 (by decide)))
            have r20 := zs_pt.kept r20 (ho5 _ (cs_ne t20 t0 (by decide)))
            have hp5 : zs_pt D x (.inr (7, [.int (nI (sc 0)), .int (nI (sp_nv S + 1)), .int (nI 0), .int (nI (sc 3)), .int (nI (sc 4)), .ref (ad 5), .ref (ad 6), .ref (ad 7), .ref (ad 8), .ref (ad 9), .ref (ad 10), .ref (ad 11), .ref (ad 12), .ref (ad 13), .ref (ad 14), .ref (ad 15), .ref (ad 16), .ref (ad 17), .ref (ad 18), .ref (ad 19), .ref (ad 20)])) H5 := hp5
            have lO2 : md_O D E κ x ad (va_up (va_up sc 1 (sp_nv S + 1)) 2 0) (va_up (va_up (va_up (va_up ar 9 (va_up (ar 9) (sp_nv S) (nI (sp_vp S v)))) 10 (va_up (ar 10) (sp_nv S) (nI v))) 11 (va_up (ar 11) (sp_nv S) (-1))) 12 g) H5 := ⟨t0, hp5, t5, t6, t7, t8, t9, t10, t11, t12, t13, t14, t15, t16, t17, t18, t19, t20, r5, r6, r7, r8, r9, r10, r11, r12, r13, r14, r15, r16, r17, r18, r19, r20⟩
            refine zs_aload_n hE 1 dX7_write_188 rfl rfl ?_
            refine zs_iload hE 3 dX7_write_189 rfl ?_
            refine zs_callV (av := [.int (nI (sp_nv S))]) (st := []) hE (m_X7_tells D E B l κ x ad (va_up (va_up sc 1 (sp_nv S + 1)) 2 0) (va_up (va_up (va_up (va_up ar 9 (va_up (ar 9) (sp_nv S) (nI (sp_vp S v)))) 10 (va_up (ar 10) (sp_nv S) (nI v))) 11 (va_up (ar 11) (sp_nv S) (-1))) 12 g) (nI (sp_nv S))) sV_X7_93 hp5 rfl rfl (lO2) ⟨by decide, by decide⟩ ⟨by decide, by decide⟩ (fun q w9 => Or.inl w9) (Nat.le_of_ble_eq_true rfl) dX7_write_191 (fun v6 H6 hv6 hz6 hk6 => ?_)
            obtain ⟨rfl, cz, cO⟩ := hv6
            refine zs_widen (k' := 0) (n' := 0) (by decide) (by decide) ?_
            exact zs_iret hE hr (mq_mk (S' := s_write S v e9 i k) (k := 0) (by rw [o_write, esh]; simp only []; rw [ee]; simp only []; rw [pI_f (by omega), (sp_i_lt ev).2, (sp_i_lt ee).2, (sp_i_lt ei).2, (sp_i_lt ek).2, sp_n_nI (by omega), sp_n_nI (by omega), sp_n_nI (by omega), sp_n_nI (by omega)]) (by omega) (fun _ => rfl) cO (mi_4 (mi_write hM wP wV wN lv le9 kb kf ke c0 c1 c2 c3 c4 nvl))) (by decide) (by decide) dX7_write_194
          · refine zs_aload_n hE 1 dX7_write_158 rfl rfl ?_
            refine zs_get hE fl_X7_49 hx rfl dX7_write_159 ?_
            refine zs_iload hE 4 dX7_write_162 rfl ?_
            refine zs_iconst (v := (nI 3)) hE dX7_write_164 (by decide) ?_
            refine zs_iaddN hE dX7_write_165 ?_
            refine zs_iload hE 0 dX7_write_166 rfl ?_
            refine zs_iaddN hE dX7_write_168 ?_
            refine zs_aload_n hE 1 dX7_write_169 rfl rfl ?_
            refine zs_get hE fl_X7_52 hx rfl dX7_write_170 ?_
            refine zs_iload hE 0 dX7_write_173 rfl ?_
            refine zs_iald hE r13 (by omega) (by decide) dX7_write_175 ?_
            refine zs_iast hE r12 (Or.inl (show 500 ≤ κ (ad 12) by omega)) (by omega) (by decide) dX7_write_176 (fun H7 hp7 hz7 ho7 => ?_)
            have hx := zs_pt.kept hx (ho7 _ (cs_ne t0 t12 (by decide)))
            have r5 := zs_pt.kept r5 (ho7 _ (cs_ne t5 t12 (by decide)))
            have r6 := zs_pt.kept r6 (ho7 _ (cs_ne t6 t12 (by decide)))
            have r7 := zs_pt.kept r7 (ho7 _ (cs_ne t7 t12 (by decide)))
            have r8 := zs_pt.kept r8 (ho7 _ (cs_ne t8 t12 (by decide)))
            have r9 := zs_pt.kept r9 (ho7 _ (cs_ne t9 t12 (by decide)))
            have r10 := zs_pt.kept r10 (ho7 _ (cs_ne t10 t12 (by decide)))
            have r11 := zs_pt.kept r11 (ho7 _ (cs_ne t11 t12 (by decide)))
            have r13 := zs_pt.kept r13 (ho7 _ (cs_ne t13 t12 (by decide)))
            have r14 := zs_pt.kept r14 (ho7 _ (cs_ne t14 t12 (by decide)))
            have r15 := zs_pt.kept r15 (ho7 _ (cs_ne t15 t12 (by decide)))
            have r16 := zs_pt.kept r16 (ho7 _ (cs_ne t16 t12 (by decide)))
            have r17 := zs_pt.kept r17 (ho7 _ (cs_ne t17 t12 (by decide)))
            have r18 := zs_pt.kept r18 (ho7 _ (cs_ne t18 t12 (by decide)))
            have r19 := zs_pt.kept r19 (ho7 _ (cs_ne t19 t12 (by decide)))
            have r20 := zs_pt.kept r20 (ho7 _ (cs_ne t20 t12 (by decide)))
            have lO2 : md_O D E κ x ad (va_up sc 1 (sp_nv S + 1)) (va_up (va_up (va_up (va_up ar 9 (va_up (ar 9) (sp_nv S) (nI (sp_vp S v)))) 10 (va_up (ar 10) (sp_nv S) (nI v))) 11 (va_up (ar 11) (sp_nv S) (-1))) 12 (va_up g (41 * (32 * sp_nv S + (sp_pa S (sp_vp S v) * i + k)) + 3 + k1) (ar 13 k1))) H7 := ⟨t0, hx, t5, t6, t7, t8, t9, t10, t11, t12, t13, t14, t15, t16, t17, t18, t19, t20, r5, r6, r7, r8, r9, r10, r11, hp7, r13, r14, r15, r16, r17, r18, r19, r20⟩
            refine zs_iincN (lo' := [(7, .int (nI (k1 + 1))), (0, .ref x), (2, .int (nI e9)), (5, .int (nI (sp_nv S))), (6, .int (nI (41 * (32 * sp_nv S + (sp_pa S (sp_vp S v) * i + k)))))]) hE 0 dX7_write_177 rfl (by decide) rfl ?_
            refine zs_goto (tgt := 149) hE dX7_write_180 (by decide) ?_
            refine zs_sub (lo' := [(7, .int (nI (k1 + 1))), (0, .ref x), (2, .int (nI e9)), (5, .int (nI (sp_nv S))), (6, .int (nI (41 * (32 * sp_nv S + (sp_pa S (sp_vp S v) * i + k)))))]) [0, 1, 2, 3, 4] rfl ?_
            refine ih (k1 + 1) H7 (va_up g (41 * (32 * sp_nv S + (sp_pa S (sp_vp S v) * i + k)) + 3 + k1) (ar 13 k1)) (⟨by omega, by omega, lO2, by rw [va_up_ne _ _ (by omega)]; exact c0, by rw [va_up_ne _ _ (by omega)]; exact c1, by rw [va_up_ne _ _ (by omega)]; exact c2, fun j hj => ?_, fun t ht => ?_⟩) (by omega)
            · by_cases e : j = k1
              · subst e; exact va_up_self _ _ _
              · rw [va_up_ne _ _ (by omega)]; exact c3 j (by omega)
            · rw [va_up_ne _ _ (by omega)]; exact c4 t ht
        · refine zs_aload_n hE 1 dX7_write_79 rfl rfl ?_
          refine zs_aload_n hE 1 dX7_write_80 rfl rfl ?_
          refine zs_iload_n hE 2 dX7_write_81 rfl rfl ?_
          refine zs_iload hE 0 dX7_write_82 rfl ?_
          refine zs_callVR (av := [.int (nI v), .int (nI k0)]) (st := [.ref x]) (b := x) hE (m_X7_sheafAt D E B l κ x ad (va_up sc 1 (sp_nv S + 1)) (va_up (va_up (va_up (va_up ar 9 (va_up (ar 9) (sp_nv S) (nI (sp_vp S v)))) 10 (va_up (ar 10) (sp_nv S) (nI v))) 11 (va_up (ar 11) (sp_nv S) (-1))) 12 f) v k0) rfl rfl sV_X7_89 hx rfl rfl (kO) ⟨by decide, by decide⟩ ⟨by decide, by decide⟩ (Nat.le_of_ble_eq_true rfl) dX7_write_84 ?_
          refine zs_aload_n hE 1 dX7_write_87 rfl rfl ?_
          refine zs_iload hE 6 dX7_write_88 rfl ?_
          refine zs_iload hE 0 dX7_write_90 rfl ?_
          refine zs_callVR (av := [.int (nI (sp_nv S)), .int (nI k0)]) (st := [.int (nI (41 * (32 * v + k0))), .ref x]) (b := x) hE (m_X7_sheafAt D E B l κ x ad (va_up sc 1 (sp_nv S + 1)) (va_up (va_up (va_up (va_up ar 9 (va_up (ar 9) (sp_nv S) (nI (sp_vp S v)))) 10 (va_up (ar 10) (sp_nv S) (nI v))) 11 (va_up (ar 11) (sp_nv S) (-1))) 12 f) (sp_nv S) k0) rfl rfl sV_X7_89 hx rfl rfl (kO) ⟨by decide, by decide⟩ ⟨by decide, by decide⟩ (Nat.le_of_ble_eq_true rfl) dX7_write_92 ?_
          refine zs_callV (av := [.int (nI (41 * (32 * v + k0))), .int (nI (41 * (32 * sp_nv S + k0)))]) (st := []) hE (m_X7_copies D E B l κ x ad (va_up sc 1 (sp_nv S + 1)) (va_up (va_up (va_up (va_up ar 9 (va_up (ar 9) (sp_nv S) (nI (sp_vp S v)))) 10 (va_up (ar 10) (sp_nv S) (nI v))) 11 (va_up (ar 11) (sp_nv S) (-1))) 12 f) (41 * (32 * v + k0)) (41 * (32 * sp_nv S + k0)) (by omega) (by omega) (Or.inl (by omega))) sV_X7_109 hx rfl rfl (kO) ⟨by decide, by decide⟩ ⟨by decide, by decide⟩ (fun q9 w9 => Or.inl w9) (Nat.le_of_ble_eq_true rfl) dX7_write_95 (fun v8 H8 hv8 hz8 hk8 => ?_)
          obtain ⟨rfl, cz, f2, cO, cf, ce⟩ := hv8
          refine zs_widen (k' := 0) (n' := 0) (by decide) (by decide) ?_
          have cO := md_12 cO
          have cf : ∀ j, j < 41 → f2 (41 * (32 * sp_nv S + k0) + j) = f (41 * (32 * v + k0) + j) := cf
          have ce : ∀ t, (t < 41 * (32 * sp_nv S + k0) ∨ 41 * (32 * sp_nv S + k0) + 41 ≤ t) → f2 t = f t := ce
          refine zs_iincN (lo' := [(6, .int (nI (k0 + 1))), (0, .ref x), (1, .int (nI v)), (2, .int (nI e9)), (3, .int (nI i)), (4, .int (nI k)), (5, .int (nI (sp_nv S)))]) hE 0 dX7_write_98 rfl (by decide) rfl ?_
          refine zs_goto (tgt := 64) hE dX7_write_101 (by decide) ?_
          refine zs_sub (lo' := [(6, .int (nI (k0 + 1))), (0, .ref x), (1, .int (nI v)), (2, .int (nI e9)), (3, .int (nI i)), (4, .int (nI k)), (5, .int (nI (sp_nv S)))]) [0, 1, 2, 3, 4, 5, 6] rfl ?_
          refine ih (k0 + 1) H8 f2 (⟨by omega, by omega, cO, fun j hj t ht => ?_, fun t ht => ?_⟩) (by omega)
          · by_cases e : j = k0
            · subst e; rw [cf t ht]; exact ke _ (by omega)
            · rw [ce _ (by omega)]; exact kf j (by omega) t ht
          · rw [ce _ (by omega)]; exact ke t ht
      · refine zs_aload_n hE 0 dX7_write_41 rfl rfl ?_
        refine zs_iconst (v := (nI 3)) hE dX7_write_42 (by decide) ?_
        refine zs_callV (av := [.int (nI 3)]) (st := []) hE (m_X7_fails D E B l κ x ad sc ar 3) sV_X7_81 hx rfl rfl (hO) ⟨by decide, by decide⟩ ⟨by decide, by decide⟩ (fun q w9 => Or.inl w9) (Nat.le_of_ble_eq_true rfl) dX7_write_43 (fun v9 H9 hv9 hz9 hk9 => ?_)
        obtain ⟨rfl, cz, cO⟩ := hv9
        refine zs_widen (k' := 0) (n' := 0) (by decide) (by decide) ?_
        exact zs_iret hE hr (mq_mk (S' := S) (v := .null) (k := 3) (by rw [o_write, esh]; simp only []; rw [ee]; simp only []; rw [pI_t (by omega)]; rfl) cz (fun w9 => by cases w9) cO (mi_4 hM)) (by decide) (by decide) dX7_write_46
    · refine zs_aload_n hE 0 dX7_write_26 rfl rfl ?_
      refine zs_iconst (v := (nI 2)) hE dX7_write_27 (by decide) ?_
      refine zs_callV (av := [.int (nI 2)]) (st := []) hE (m_X7_fails D E B l κ x ad sc ar 2) sV_X7_81 hx rfl rfl (hO) ⟨by decide, by decide⟩ ⟨by decide, by decide⟩ (fun q w9 => Or.inl w9) (Nat.le_of_ble_eq_true rfl) dX7_write_28 (fun v10 H10 hv10 hz10 hk10 => ?_)
      obtain ⟨rfl, cz, cO⟩ := hv10
      refine zs_widen (k' := 0) (n' := 0) (by decide) (by decide) ?_
      exact zs_iret hE hr (mq_mk (S' := S) (v := .null) (k := 2) (by rw [o_write, esh]; simp only []; rw [Classical.not_not.mp h2]; rfl) cz (fun w9 => by cases w9) cO (mi_4 hM)) (by decide) (by decide) dX7_write_31
  · refine zs_aload_n hE 0 dX7_write_11 rfl rfl ?_
    refine zs_iconst (v := (nI 1)) hE dX7_write_12 (by decide) ?_
    refine zs_callV (av := [.int (nI 1)]) (st := []) hE (m_X7_fails D E B l κ x ad sc ar 1) sV_X7_81 hx rfl rfl (hO) ⟨by decide, by decide⟩ ⟨by decide, by decide⟩ (fun q w9 => Or.inl w9) (Nat.le_of_ble_eq_true rfl) dX7_write_13 (fun v11 H11 hv11 hz11 hk11 => ?_)
    obtain ⟨rfl, cz, cO⟩ := hv11
    refine zs_widen (k' := 0) (n' := 0) (by decide) (by decide) ?_
    exact zs_iret hE hr (mq_mk (S' := S) (v := .null) (k := 1) (by rw [o_write, Classical.not_not.mp h1]; rfl) cz (fun w9 => by cases w9) cO (mi_4 hM)) (by decide) (by decide) dX7_write_16


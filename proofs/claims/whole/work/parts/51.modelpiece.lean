/-! the model: piece -/
theorem in_1 {y : Int32} {n : Nat} (hn : n + 1 < 2 ^ 31) (h : ¬ y < nI 1 ∧ ¬ nI n < y) : ∃ b, 1 ≤ b ∧ b ≤ n ∧ y = nI b := by
  rw [Int32.lt_iff_toInt_lt, Int32.lt_iff_toInt_lt, nI_toInt (show n < 2 ^ 31 by omega), show (nI 1).toInt = 1 from rfl] at h
  have e0 : (0 : Int32).toInt = 0 := rfl
  obtain ⟨b, hb, rfl⟩ := sp_dec (x := y) (n := n + 1) hn (by rw [Int32.lt_iff_toInt_lt]; omega) (by rw [Int32.lt_iff_toInt_lt, nI_toInt hn]; omega)
  rw [nI_toInt (by omega)] at h
  exact ⟨b, by omega, by omega, rfl⟩
theorem up_s {F : Nat → Int32} {G : Nat → Nat} {n w i : Nat} (h : i ≠ n → F i = nI (G i)) : va_up F n (nI w) i = nI (va_up G n w i) := by
  by_cases e : i = n
  · rw [e, va_up_self, va_up_self]
  · rw [va_up_ne _ _ e, va_up_ne _ _ e]; exact h e
theorem up_1 {F : Nat → Int32} {G : Nat → Nat} {n w i : Nat} {x : Int32} (hx : x = nI w - 1) (h : i ≠ n → F i = nI (G i) - 1) : va_up F n x i = nI (va_up G n w i) - 1 := by
  by_cases e : i = n
  · rw [e, va_up_self, va_up_self]; exact hx
  · rw [va_up_ne _ _ e, va_up_ne _ _ e]; exact h e
theorem md_r.mv {f g : Nat → Int32} {b b' : Nat} {r : sp_R} (hl : r.2.length ≤ 8) (hg : ∀ t, t < 10 → g (b' + t) = f (b + t)) (h : md_r f b r) : md_r g b' r := by
  obtain ⟨h1, h2, h3⟩ := h
  refine ⟨by rw [← h1]; exact hg 0 (by decide), by rw [← h2]; exact hg 1 (by decide), fun k hk => ?_⟩
  rw [← h3 k hk, Nat.add_assoc, Nat.add_assoc]; exact hg (2 + k) (by omega)
theorem md_s.mv {f g : Nat → Int32} {b b' : Nat} {rs : sp_Sh} (ho : sp_ok rs) (hg : ∀ t, t < 41 → g (b' + t) = f (b + t)) (h : md_s f b rs) : md_s g b' rs := by
  obtain ⟨h1, h2⟩ := h
  have h4 := ho.2.1
  refine ⟨by rw [← h1]; exact hg 0 (by decide), fun n hn => ?_⟩
  refine (h2 n hn).mv (ok_at ho hn).2.1 (fun t ht => ?_)
  rw [Nat.add_assoc, Nat.add_assoc, Nat.add_assoc, Nat.add_assoc]
  exact hg (1 + (10 * n + t)) (by omega)
theorem mi_piece {S : sp_S} {sc : Nat → Nat} {ar : Nat → Nat → Int32} {b q : Nat} {f g : Nat → Int32} (h : mi_ S sc ar) (hP : sw_P S) (hV : sw_V S) (hbq : b * q ≤ 32) (a1 : ∀ j, j < 4 → f (4 * sp_np S + j) = nI 98) (a2 : ∀ t, (t < 4 * sp_np S ∨ 4 * sp_np S + 4 ≤ t) → f t = ar 8 t) (b1 : ∀ j, j < b * q → g (41 * (32 * sp_nv S + j)) = nI 1) (b2 : ∀ t, (∀ j, j < b * q → t ≠ 41 * (32 * sp_nv S + j)) → g t = ar 12 t) (hn : sp_nv S < 40) : mi_ (s_piece S b q) (va_up (va_up sc 0 (sp_np S + 1)) 1 (sp_nv S + 1)) (va_up (va_up (va_up (va_up (va_up (va_up (va_up (va_up ar 5 (va_up (ar 5) (sp_np S) (nI b))) 6 (va_up (ar 6) (sp_np S) (nI q))) 8 f) 9 (va_up (ar 9) (sp_nv S) (nI (sp_np S)))) 10 (va_up (ar 10) (sp_nv S) (-1))) 11 (va_up (ar 11) (sp_nv S) (-1))) 7 (va_up (ar 7) (sp_np S) (nI (sp_nv S)))) 12 g) := by
  obtain ⟨⟨p0, p1⟩, ⟨v0, v1⟩, h3, h5, h6, hE⟩ := h
  refine ⟨⟨rfl, fun i hi => ?_⟩, ⟨rfl, fun v hv => ?_⟩, h3, h5, h6, fun t ht h9 => ?_⟩
  · have hi : i < sp_np S + 1 := hi
    refine ⟨up_s (fun e => (p1 i (by omega)).1), up_s (fun e => (p1 i (by omega)).2.1), up_s (fun e => (p1 i (by omega)).2.2.1), fun k hk => ?_⟩
    show f (4 * i + k) = nI (if i = sp_np S then 98 else sp_ru S i k)
    by_cases e : i = sp_np S
    · rw [if_pos e, e]; exact a1 k hk
    · rw [if_neg e, a2 _ (by omega)]; exact (p1 i (by omega)).2.2.2 k hk
  · have hv : v < sp_nv S + 1 := hv
    refine ⟨up_s (fun e => (v1 v (by omega)).1), up_1 rfl (fun e => (v1 v (by omega)).2.1), up_1 rfl (fun e => (v1 v (by omega)).2.2.1), ?_⟩
    show ∀ k, k < va_up (sp_ba S) (sp_np S) b (va_up (sp_vp S) (sp_nv S) (sp_np S) v) * va_up (sp_pa S) (sp_np S) q (va_up (sp_vp S) (sp_nv S) (sp_np S) v) → md_s g (41 * (32 * v + k)) (va_up (sp_sv S) (sp_nv S) (fun _ => [(0, [])]) v k)
    by_cases e : v = sp_nv S
    · rw [e, va_up_self, va_up_self, va_up_self, va_up_self]
      intro k hk
      refine ⟨b1 k hk, fun n hn2 => ?_⟩
      have hn2 : n < 1 := hn2
      obtain rfl : n = 0 := by omega
      have z : ∀ t, t = 1 ∨ t = 2 → g (41 * (32 * sp_nv S + k) + t) = 0 := fun t ht => by
        rw [b2 _ (fun j _ => by omega)]; exact hE _ (by omega) (by omega)
      exact ⟨z 1 (Or.inl rfl), z 2 (Or.inr rfl), fun k2 hk2 => absurd hk2 (Nat.not_lt_zero _)⟩
    · have hvp := (hV v (by omega)).1
      rw [va_up_ne _ _ e, va_up_ne _ _ e, va_up_ne _ _ (by omega), va_up_ne _ _ (by omega)]
      intro k hk
      have h32 := sz_le hP hvp
      exact ((v1 v (by omega)).2.2.2 k hk).mv (sv_ok hV (by omega) hk) (fun t ht => b2 _ (fun j hj => by omega))
  · have ht : 1312 * (sp_nv S + 1) ≤ t := ht
    show g t = 0
    rw [b2 t (fun j hj => by omega)]; exact hE t (by omega) h9

set_option maxHeartbeats 4000000 in
set_option maxRecDepth 100000 in
theorem m_X7_piece (D : va_G) (E : Nat → ClassId) (B : Nat) (l : Launch) (κ : Nat → Nat) (x : Nat) (ad sc : Nat → Nat) (ar : Nat → Nat → Int32) (S : sp_S) (y z : Int32) (hM : mi_ S sc ar) (hw : sp_wf S) : zs_Ct D E B l yX7_piece cX7_piece 5 (some .int) ({ frames := 1, cells := 0, slots := 0, locals := 23 } : Room) [.ref x, .int y, .int z] (fun H => md_O D E κ x ad sc ar H) (md_F κ) (mq_ D E κ x ad (o_piece S y z)) := by
  refine zs_ct (by decide) (Nat.le_of_ble_eq_true rfl) (fun p e s m below meth c hE hr hin hp => ?_)
  refine zs_lo (lo' := [(0, .ref x), (1, .int y), (2, .int z)]) rfl ?_
  have hO := hp
  obtain ⟨t0, hx, t5, t6, t7, t8, t9, t10, t11, t12, t13, t14, t15, t16, t17, t18, t19, t20, r5, r6, r7, r8, r9, r10, r11, r12, r13, r14, r15, r16, r17, r18, r19, r20⟩ := id hO
  obtain ⟨wN, wP, wV, wA, wH, wZ, wF⟩ := id hw
  obtain ⟨n6, n40, n12, n8, n99⟩ := id wN
  obtain ⟨⟨mp0, mP⟩, ⟨mv0, mV⟩, ⟨mt0, mT⟩, mH, ⟨mz0, mZ⟩, mE⟩ := id hM
  refine zs_iload_n hE 1 dX7_piece_0 rfl rfl ?_
  refine zs_iconst (v := (nI 1)) hE dX7_piece_1 (by decide) ?_
  refine zs_bipush (v := (nI 8)) hE dX7_piece_2 (by decide) ?_
  refine zs_callSR (av := [.int y, .int (nI 1), .int (nI 8)]) (st := []) hE (m_X7_in D E B l y (nI 1) (nI 8)) rfl rfl sS_X7_77 (trivial) ⟨by decide, by decide⟩ ⟨by decide, by decide⟩ (Nat.le_of_ble_eq_true rfl) dX7_piece_4 ?_
  refine zs_if_eqB (tgt := 19) hE dX7_piece_7 (by decide) (fun h1 => ?_) (fun h1 => ?_)
  · refine zs_aload_n hE 0 dX7_piece_19 rfl rfl ?_
    refine zs_iconst (v := (nI 1)) hE dX7_piece_20 (by decide) ?_
    refine zs_callV (av := [.int (nI 1)]) (st := []) hE (m_X7_fails D E B l κ x ad sc ar 1) sV_X7_81 hx rfl rfl (hO) ⟨by decide, by decide⟩ ⟨by decide, by decide⟩ (fun q w9 => Or.inl w9) (Nat.le_of_ble_eq_true rfl) dX7_piece_21 (fun v1 H1 hv1 hz1 hk1 => ?_)
    obtain ⟨rfl, cz, cO⟩ := hv1
    refine zs_widen (k' := 0) (n' := 0) (by decide) (by decide) ?_
    exact zs_iret hE hr (mq_mk (S' := S) (v := .null) (k := 1) (by rw [o_piece, pI_t (Classical.byContradiction fun w => h1 ⟨fun t => w (Or.inl t), fun t => w (Or.inr (Or.inl t))⟩ : y < 1 ∨ 8 < y ∨ z < 1 ∨ 4 < z)]; rfl) cz (fun w9 => by cases w9) cO (mi_4 hM)) (by decide) (by decide) dX7_piece_24
  · refine zs_iload_n hE 2 dX7_piece_10 rfl rfl ?_
    refine zs_iconst (v := (nI 1)) hE dX7_piece_11 (by decide) ?_
    refine zs_iconst (v := (nI 4)) hE dX7_piece_12 (by decide) ?_
    refine zs_callSR (av := [.int z, .int (nI 1), .int (nI 4)]) (st := []) hE (m_X7_in D E B l z (nI 1) (nI 4)) rfl rfl sS_X7_77 (trivial) ⟨by decide, by decide⟩ ⟨by decide, by decide⟩ (Nat.le_of_ble_eq_true rfl) dX7_piece_13 ?_
    refine zs_if_neB (tgt := 25) hE dX7_piece_16 (by decide) (fun h2 => ?_) (fun h2 => ?_)
    · have hno : ¬ (y < 1 ∨ 8 < y ∨ z < 1 ∨ 4 < z) := fun w => by rcases w with w | w | w | w; exact h1.1 w; exact h1.2 w; exact h2.1 w; exact h2.2 w
      obtain ⟨b, b1, b8, rfl⟩ := in_1 (by decide) h1
      obtain ⟨q, q1, q4, rfl⟩ := in_1 (by decide) h2
      have hbq : b * q ≤ 32 := Nat.mul_le_mul b8 q4
      refine zs_aload_n hE 0 dX7_piece_25 rfl rfl ?_
      refine zs_get hE fl_X7_7 hx rfl dX7_piece_26 ?_
      refine zs_top (v' := .int (nI (sp_np S))) (by rw [mp0]) ?_
      refine zs_bipush (v := (nI 6)) hE dX7_piece_29 (by decide) ?_
      refine zs_icmp_eqN (tgt := 43) hE (by omega) (by decide) dX7_piece_31 (by decide) (fun h5 => ?_) (fun h5 => ?_)
      · refine zs_aload_n hE 0 dX7_piece_43 rfl rfl ?_
        refine zs_iconst (v := (nI 2)) hE dX7_piece_44 (by decide) ?_
        refine zs_callV (av := [.int (nI 2)]) (st := []) hE (m_X7_fails D E B l κ x ad sc ar 2) sV_X7_81 hx rfl rfl (hO) ⟨by decide, by decide⟩ ⟨by decide, by decide⟩ (fun q w9 => Or.inl w9) (Nat.le_of_ble_eq_true rfl) dX7_piece_45 (fun v2 H2 hv2 hz2 hk2 => ?_)
        obtain ⟨rfl, cz, cO⟩ := hv2
        refine zs_widen (k' := 0) (n' := 0) (by decide) (by decide) ?_
        exact zs_iret hE hr (mq_mk (S' := S) (v := .null) (k := 2) (by rw [o_piece, pI_f hno, pI_t (Or.inl (by omega))]; rfl) cz (fun w9 => by cases w9) cO (mi_4 hM)) (by decide) (by decide) dX7_piece_48
      · refine zs_aload_n hE 0 dX7_piece_34 rfl rfl ?_
        refine zs_get hE fl_X7_13 hx rfl dX7_piece_35 ?_
        refine zs_top (v' := .int (nI (sp_nv S))) (by rw [mv0]) ?_
        refine zs_bipush (v := (nI 40)) hE dX7_piece_38 (by decide) ?_
        refine zs_icmp_neN (tgt := 49) hE (by omega) (by decide) dX7_piece_40 (by decide) (fun h6 => ?_) (fun h6 => ?_)
        · have npl : sp_np S < 6 := by omega
          have nvl : sp_nv S < 40 := by omega
          refine zs_aload_n hE 0 dX7_piece_49 rfl rfl ?_
          refine zs_get hE fl_X7_25 hx rfl dX7_piece_50 ?_
          refine zs_aload_n hE 0 dX7_piece_53 rfl rfl ?_
          refine zs_get hE fl_X7_7 hx rfl dX7_piece_54 ?_
          refine zs_top (v' := .int (nI (sp_np S))) (by rw [mp0]) ?_
          refine zs_iload_n hE 1 dX7_piece_57 rfl rfl ?_
          refine zs_iast hE r5 (Or.inl (show 500 ≤ κ (ad 5) by omega)) (by omega) (by decide) dX7_piece_58 (fun H3 hp3 hz3 ho3 => ?_)
          have hx := zs_pt.kept hx (ho3 _ (cs_ne t0 t5 (by decide)))
          have r6 := zs_pt.kept r6 (ho3 _ (cs_ne t6 t5 (by decide)))
          have r7 := zs_pt.kept r7 (ho3 _ (cs_ne t7 t5 (by decide)))
          have r8 := zs_pt.kept r8 (ho3 _ (cs_ne t8 t5 (by decide)))
          have r9 := zs_pt.kept r9 (ho3 _ (cs_ne t9 t5 (by decide)))
          have r10 := zs_pt.kept r10 (ho3 _ (cs_ne t10 t5 (by decide)))
          have r11 := zs_pt.kept r11 (ho3 _ (cs_ne t11 t5 (by decide)))
          have r12 := zs_pt.kept r12 (ho3 _ (cs_ne t12 t5 (by decide)))
          have r13 := zs_pt.kept r13 (ho3 _ (cs_ne t13 t5 (by decide)))
          have r14 := zs_pt.kept r14 (ho3 _ (cs_ne t14 t5 (by decide)))
          have r15 := zs_pt.kept r15 (ho3 _ (cs_ne t15 t5 (by decide)))
          have r16 := zs_pt.kept r16 (ho3 _ (cs_ne t16 t5 (by decide)))
          have r17 := zs_pt.kept r17 (ho3 _ (cs_ne t17 t5 (by decide)))
          have r18 := zs_pt.kept r18 (ho3 _ (cs_ne t18 t5 (by decide)))
          have r19 := zs_pt.kept r19 (ho3 _ (cs_ne t19 t5 (by decide)))
          have r20 := zs_pt.kept r20 (ho3 _ (cs_ne t20 t5 (by decide)))
          refine zs_aload_n hE 0 dX7_piece_59 rfl rfl ?_
          refine zs_get hE fl_X7_29 hx rfl dX7_piece_60 ?_
          refine zs_aload_n hE 0 dX7_piece_63 rfl rfl ?_
          refine zs_get hE fl_X7_7 hx rfl dX7_piece_64 ?_
          refine zs_top (v' := .int (nI (sp_np S))) (by rw [mp0]) ?_
          refine zs_iload_n hE 2 dX7_piece_67 rfl rfl ?_
          refine zs_iast hE r6 (Or.inl (show 500 ≤ κ (ad 6) by omega)) (by omega) (by decide) dX7_piece_68 (fun H4 hp4 hz4 ho4 => ?_)
          have hx := zs_pt.kept hx (ho4 _ (cs_ne t0 t6 (by decide)))
          have hp3 := zs_pt.kept hp3 (ho4 _ (cs_ne t5 t6 (by decide)))
          have r7 := zs_pt.kept r7 (ho4 _ (cs_ne t7 t6 (by decide)))
          have r8 := zs_pt.kept r8 (ho4 _ (cs_ne t8 t6 (by decide)))
          have r9 := zs_pt.kept r9 (ho4 _ (cs_ne t9 t6 (by decide)))
          have r10 := zs_pt.kept r10 (ho4 _ (cs_ne t10 t6 (by decide)))
          have r11 := zs_pt.kept r11 (ho4 _ (cs_ne t11 t6 (by decide)))
          have r12 := zs_pt.kept r12 (ho4 _ (cs_ne t12 t6 (by decide)))
          have r13 := zs_pt.kept r13 (ho4 _ (cs_ne t13 t6 (by decide)))
          have r14 := zs_pt.kept r14 (ho4 _ (cs_ne t14 t6 (by decide)))
          have r15 := zs_pt.kept r15 (ho4 _ (cs_ne t15 t6 (by decide)))
          have r16 := zs_pt.kept r16 (ho4 _ (cs_ne t16 t6 (by decide)))
          have r17 := zs_pt.kept r17 (ho4 _ (cs_ne t17 t6 (by decide)))
          have r18 := zs_pt.kept r18 (ho4 _ (cs_ne t18 t6 (by decide)))
          have r19 := zs_pt.kept r19 (ho4 _ (cs_ne t19 t6 (by decide)))
          have r20 := zs_pt.kept r20 (ho4 _ (cs_ne t20 t6 (by decide)))
          have hOa : md_O D E κ x ad sc (va_up (va_up ar 5 (va_up (ar 5) (sp_np S) (nI b))) 6 (va_up (ar 6) (sp_np S) (nI q))) H4 := ⟨t0, hx, t5, t6, t7, t8, t9, t10, t11, t12, t13, t14, t15, t16, t17, t18, t19, t20, hp3, hp4, r7, r8, r9, r10, r11, r12, r13, r14, r15, r16, r17, r18, r19, r20⟩
          refine zs_iconst (v := (nI 0)) hE dX7_piece_69 (by decide) ?_
          refine zs_istore_n (lo' := [(3, .int (nI 0)), (0, .ref x), (1, .int (nI b)), (2, .int (nI q))]) hE dX7_piece_70 rfl (by decide) rfl ?_
          refine zs_sub (lo' := [(3, .int (nI 0)), (0, .ref x), (1, .int (nI b)), (2, .int (nI q))]) [0, 1, 2, 3] rfl ?_
          refine zs_ind3 (Hs := fun (k0 : Nat) (K : Heap) (f : Nat → Int32) => K) (ks := fun (k0 : Nat) (K : Heap) (f : Nat → Int32) => 0) (ns := fun (k0 : Nat) (K : Heap) (f : Nat → Int32) => 0) (los := fun (k0 : Nat) (K : Heap) (f : Nat → Int32) => [(3, .int (nI k0)), (0, .ref x), (1, .int (nI b)), (2, .int (nI q))]) (I := fun (k0 : Nat) (K : Heap) (f : Nat → Int32) => k0 ≤ 4 ∧ K.size = s.heap.size ∧ md_O D E κ x ad sc (va_up (va_up (va_up ar 5 (va_up (ar 5) (sp_np S) (nI b))) 6 (va_up (ar 6) (sp_np S) (nI q))) 8 f) K ∧ (∀ j, j < k0 → f (4 * sp_np S + j) = nI 98) ∧ ∀ t, (t < 4 * sp_np S ∨ 4 * sp_np S + k0 ≤ t) → f t = ar 8 t) (μ := fun (k0 : Nat) (K : Heap) (f : Nat → Int32) => 4 - k0) 0 H4 (ar 8) (⟨Nat.zero_le _, by omega, md_up 8 hOa, fun j hj => absurd hj (Nat.not_lt_zero _), fun t _ => rfl⟩) (fun k0 K f hi ih => ?_)
          try dsimp only at hi ih ⊢
          obtain ⟨k4, kz, kO, kf, ke⟩ := hi
          obtain ⟨-, hx, -, -, -, -, -, -, -, -, -, -, -, -, -, -, -, -, r5, r6, r7, r8, r9, r10, r11, r12, r13, r14, r15, r16, r17, r18, r19, r20⟩ := id kO
          have hx : zs_pt D x (.inr (7, [.int (nI (sc 0)), .int (nI (sc 1)), .int (nI (sc 2)), .int (nI (sc 3)), .int (nI (sc 4)), .ref (ad 5), .ref (ad 6), .ref (ad 7), .ref (ad 8), .ref (ad 9), .ref (ad 10), .ref (ad 11), .ref (ad 12), .ref (ad 13), .ref (ad 14), .ref (ad 15), .ref (ad 16), .ref (ad 17), .ref (ad 18), .ref (ad 19), .ref (ad 20)])) K := hx
          have r5 : zs_pt D (ad 5) (.inl (E 0, 6, .inl (va_up (ar 5) (sp_np S) (nI b)))) K := r5
          have r6 : zs_pt D (ad 6) (.inl (E 0, 6, .inl (va_up (ar 6) (sp_np S) (nI q)))) K := r6
          have r7 : zs_pt D (ad 7) (.inl (E 0, 6, .inl (ar 7))) K := r7
          have r8 : zs_pt D (ad 8) (.inl (E 1, 24, .inl (f))) K := r8
          have r9 : zs_pt D (ad 9) (.inl (E 0, 40, .inl (ar 9))) K := r9
          have r10 : zs_pt D (ad 10) (.inl (E 0, 40, .inl (ar 10))) K := r10
          have r11 : zs_pt D (ad 11) (.inl (E 0, 40, .inl (ar 11))) K := r11
          have r12 : zs_pt D (ad 12) (.inl (E 0, 52480, .inl (ar 12))) K := r12
          have r13 : zs_pt D (ad 13) (.inl (E 0, 8, .inl (ar 13))) K := r13
          have r14 : zs_pt D (ad 14) (.inl (E 0, 24, .inl (ar 14))) K := r14
          have r15 : zs_pt D (ad 15) (.inl (E 0, 120, .inl (ar 15))) K := r15
          have r16 : zs_pt D (ad 16) (.inl (E 2, 120, .inl (ar 16))) K := r16
          have r17 : zs_pt D (ad 17) (.inl (E 2, 40, .inl (ar 17))) K := r17
          have r18 : zs_pt D (ad 18) (.inl (E 0, 12, .inl (ar 18))) K := r18
          have r19 : zs_pt D (ad 19) (.inl (E 0, 12, .inl (ar 19))) K := r19
          have r20 : zs_pt D (ad 20) (.inl (E 0, 72, .inl (ar 20))) K := r20
          refine zs_iload_n hE 0 dX7_piece_71 rfl rfl ?_
          refine zs_iconst (v := (nI 4)) hE dX7_piece_72 (by decide) ?_
          refine zs_icmp_geN (tgt := 97) hE (by omega) (by decide) dX7_piece_73 (by decide) (fun h5 => ?_) (fun h => ?_)
          · obtain rfl : k0 = 4 := by omega
            refine zs_aload_n hE 1 dX7_piece_97 rfl rfl ?_
            refine zs_dup hE dX7_piece_98 rfl ?_
            refine zs_get hE fl_X7_7 hx rfl dX7_piece_99 ?_
            refine zs_top (v' := .int (nI (sp_np S))) (by rw [mp0]) ?_
            refine zs_iconst (v := (nI 1)) hE dX7_piece_102 (by decide) ?_
            refine zs_iaddN hE dX7_piece_103 ?_
            refine zs_put (v := .int (nI (sp_np S + 1))) hE fl_X7_7 hx (Or.inl (show 500 ≤ κ x by omega)) (rfl) (rfl) (Nat.le_of_ble_eq_true rfl) dX7_piece_104 (fun H5 hp5 hz5 ho5 => ?_)
            have r5 := zs_pt.kept r5 (ho5 _ (cs_ne t5 t0 (by decide)))
            have r6 := zs_pt.kept r6 (ho5 _ (cs_ne t6 t0 (by decide)))
            have r7 := zs_pt.kept r7 (ho5 _ (cs_ne t7 t0 (by decide)))
            have r8 := zs_pt.kept r8 (ho5 _ (cs_ne t8 t0 (by decide)))
            have r9 := zs_pt.kept r9 (ho5 _ (cs_ne t9 t0 (by decide)))
            have r10 := zs_pt.kept r10 (ho5 _ (cs_ne t10 t0 (by decide)))
            have r11 := zs_pt.kept r11 (ho5 _ (cs_ne t11 t0 (by decide)))
            have r12 := zs_pt.kept r12 (ho5 _ (cs_ne t12 t0 (by decide)))
            have r13 := zs_pt.kept r13 (ho5 _ (cs_ne t13 t0 (by decide)))
            have r14 := zs_pt.kept r14 (ho5 _ (cs_ne t14 t0 (by decide)))
            have r15 := zs_pt.kept r15 (ho5 _ (cs_ne t15 t0 (by decide)))
            have r16 := zs_pt.kept r16 (ho5 _ (cs_ne t16 t0 (by decide)))
            have r17 := zs_pt.kept r17 (ho5 _ (cs_ne t17 t0 (by decide)))
            have r18 := zs_pt.kept r18 (ho5 _ (cs_ne t18 t0 (by decide)))
            have r19 := zs_pt.kept r19 (ho5 _ (cs_ne t19 t0 (by decide)))
            have r20 := zs_pt.kept r20 (ho5 _ (cs_ne t20 t0 (by decide)))
            have hp5 : zs_pt D x (.inr (7, [.int (nI (sp_np S + 1)), .int (nI (sc 1)), .int (nI (sc 2)), .int (nI (sc 3)), .int (nI (sc 4)), .ref (ad 5), .ref (ad 6), .ref (ad 7), .ref (ad 8), .ref (ad 9), .ref (ad 10), .ref (ad 11), .ref (ad 12), .ref (ad 13), .ref (ad 14), .ref (ad 15), .ref (ad 16), .ref (ad 17), .ref (ad 18), .ref (ad 19), .ref (ad 20)])) H5 := hp5
            have hOb : md_O D E κ x ad (va_up sc 0 (sp_np S + 1)) (va_up (va_up (va_up ar 5 (va_up (ar 5) (sp_np S) (nI b))) 6 (va_up (ar 6) (sp_np S) (nI q))) 8 f) H5 := ⟨t0, hp5, t5, t6, t7, t8, t9, t10, t11, t12, t13, t14, t15, t16, t17, t18, t19, t20, r5, r6, r7, r8, r9, r10, r11, r12, r13, r14, r15, r16, r17, r18, r19, r20⟩
            refine zs_aload_n hE 1 dX7_piece_107 rfl rfl ?_
            refine zs_aload_n hE 1 dX7_piece_108 rfl rfl ?_
            refine zs_get hE fl_X7_7 hp5 rfl dX7_piece_109 ?_
            refine zs_iconst (v := (nI 1)) hE dX7_piece_112 (by decide) ?_
            refine zs_isubN hE (by omega) dX7_piece_113 ?_
            refine zs_top (v' := .int (nI (sp_np S))) (by rw [Nat.add_sub_cancel]) ?_
            refine zs_iconst (v := (-1)) hE dX7_piece_114 (by decide) ?_
            refine zs_iconst (v := (-1)) hE dX7_piece_115 (by decide) ?_
            refine zs_callV (av := [.int (nI (sp_np S)), .int (-1), .int (-1)]) (st := []) hE (m_X7_adds D E B l κ x ad (va_up sc 0 (sp_np S + 1)) (va_up (va_up (va_up ar 5 (va_up (ar 5) (sp_np S) (nI b))) 6 (va_up (ar 6) (sp_np S) (nI q))) 8 f) (nI (sp_np S)) (-1) (-1) (by show sc 1 < 40; omega)) sV_X7_85 hp5 rfl rfl (hOb) ⟨by decide, by decide⟩ ⟨by decide, by decide⟩ (fun q9 w9 => Or.inl w9) (Nat.le_of_ble_eq_true rfl) dX7_piece_116 (fun v6 H6 hv6 hz6 hk6 => ?_)
            obtain ⟨rfl, az, aO0⟩ := hv6
            refine zs_widen (k' := 0) (n' := 0) (by decide) (by decide) ?_
            refine zs_top (v' := .int (nI (sp_nv S))) (by show Value.int (nI (sc 1)) = _; rw [mv0]) ?_
            have aO : md_O D E κ x ad (va_up (va_up sc 0 (sp_np S + 1)) 1 (sp_nv S + 1)) (va_up (va_up (va_up (va_up (va_up (va_up ar 5 (va_up (ar 5) (sp_np S) (nI b))) 6 (va_up (ar 6) (sp_np S) (nI q))) 8 f) 9 (va_up (ar 9) (sp_nv S) (nI (sp_np S)))) 10 (va_up (ar 10) (sp_nv S) (-1))) 11 (va_up (ar 11) (sp_nv S) (-1))) H6 := by rw [← mv0]; exact aO0
            obtain ⟨-, hx, -, -, -, -, -, -, -, -, -, -, -, -, -, -, -, -, r5, r6, r7, r8, r9, r10, r11, r12, r13, r14, r15, r16, r17, r18, r19, r20⟩ := id aO
            have hx : zs_pt D x (.inr (7, [.int (nI (sp_np S + 1)), .int (nI (sp_nv S + 1)), .int (nI (sc 2)), .int (nI (sc 3)), .int (nI (sc 4)), .ref (ad 5), .ref (ad 6), .ref (ad 7), .ref (ad 8), .ref (ad 9), .ref (ad 10), .ref (ad 11), .ref (ad 12), .ref (ad 13), .ref (ad 14), .ref (ad 15), .ref (ad 16), .ref (ad 17), .ref (ad 18), .ref (ad 19), .ref (ad 20)])) H6 := hx
            have r5 : zs_pt D (ad 5) (.inl (E 0, 6, .inl (va_up (ar 5) (sp_np S) (nI b)))) H6 := r5
            have r6 : zs_pt D (ad 6) (.inl (E 0, 6, .inl (va_up (ar 6) (sp_np S) (nI q)))) H6 := r6
            have r7 : zs_pt D (ad 7) (.inl (E 0, 6, .inl (ar 7))) H6 := r7
            have r8 : zs_pt D (ad 8) (.inl (E 1, 24, .inl (f))) H6 := r8
            have r9 : zs_pt D (ad 9) (.inl (E 0, 40, .inl (va_up (ar 9) (sp_nv S) (nI (sp_np S))))) H6 := r9
            have r10 : zs_pt D (ad 10) (.inl (E 0, 40, .inl (va_up (ar 10) (sp_nv S) (-1)))) H6 := r10
            have r11 : zs_pt D (ad 11) (.inl (E 0, 40, .inl (va_up (ar 11) (sp_nv S) (-1)))) H6 := r11
            have r12 : zs_pt D (ad 12) (.inl (E 0, 52480, .inl (ar 12))) H6 := r12
            have r13 : zs_pt D (ad 13) (.inl (E 0, 8, .inl (ar 13))) H6 := r13
            have r14 : zs_pt D (ad 14) (.inl (E 0, 24, .inl (ar 14))) H6 := r14
            have r15 : zs_pt D (ad 15) (.inl (E 0, 120, .inl (ar 15))) H6 := r15
            have r16 : zs_pt D (ad 16) (.inl (E 2, 120, .inl (ar 16))) H6 := r16
            have r17 : zs_pt D (ad 17) (.inl (E 2, 40, .inl (ar 17))) H6 := r17
            have r18 : zs_pt D (ad 18) (.inl (E 0, 12, .inl (ar 18))) H6 := r18
            have r19 : zs_pt D (ad 19) (.inl (E 0, 12, .inl (ar 19))) H6 := r19
            have r20 : zs_pt D (ad 20) (.inl (E 0, 72, .inl (ar 20))) H6 := r20
            refine zs_istore_n (lo' := [(3, .int (nI (sp_nv S))), (0, .ref x), (1, .int (nI b)), (2, .int (nI q))]) hE dX7_piece_119 rfl (by decide) rfl ?_
            refine zs_aload_n hE 1 dX7_piece_120 rfl rfl ?_
            refine zs_get hE fl_X7_32 hx rfl dX7_piece_121 ?_
            refine zs_aload_n hE 1 dX7_piece_124 rfl rfl ?_
            refine zs_get hE fl_X7_7 hx rfl dX7_piece_125 ?_
            refine zs_iconst (v := (nI 1)) hE dX7_piece_128 (by decide) ?_
            refine zs_isubN hE (by omega) dX7_piece_129 ?_
            refine zs_top (v' := .int (nI (sp_np S))) (by rw [Nat.add_sub_cancel]) ?_
            refine zs_iload_n hE 0 dX7_piece_130 rfl rfl ?_
            refine zs_iast hE r7 (Or.inl (show 500 ≤ κ (ad 7) by omega)) (by omega) (by decide) dX7_piece_131 (fun H7 hp7 hz7 ho7 => ?_)
            have hx := zs_pt.kept hx (ho7 _ (cs_ne t0 t7 (by decide)))
            have r5 := zs_pt.kept r5 (ho7 _ (cs_ne t5 t7 (by decide)))
            have r6 := zs_pt.kept r6 (ho7 _ (cs_ne t6 t7 (by decide)))
            have r8 := zs_pt.kept r8 (ho7 _ (cs_ne t8 t7 (by decide)))
            have r9 := zs_pt.kept r9 (ho7 _ (cs_ne t9 t7 (by decide)))
            have r10 := zs_pt.kept r10 (ho7 _ (cs_ne t10 t7 (by decide)))
            have r11 := zs_pt.kept r11 (ho7 _ (cs_ne t11 t7 (by decide)))
            have r12 := zs_pt.kept r12 (ho7 _ (cs_ne t12 t7 (by decide)))
            have r13 := zs_pt.kept r13 (ho7 _ (cs_ne t13 t7 (by decide)))
            have r14 := zs_pt.kept r14 (ho7 _ (cs_ne t14 t7 (by decide)))
            have r15 := zs_pt.kept r15 (ho7 _ (cs_ne t15 t7 (by decide)))
            have r16 := zs_pt.kept r16 (ho7 _ (cs_ne t16 t7 (by decide)))
            have r17 := zs_pt.kept r17 (ho7 _ (cs_ne t17 t7 (by decide)))
            have r18 := zs_pt.kept r18 (ho7 _ (cs_ne t18 t7 (by decide)))
            have r19 := zs_pt.kept r19 (ho7 _ (cs_ne t19 t7 (by decide)))
            have r20 := zs_pt.kept r20 (ho7 _ (cs_ne t20 t7 (by decide)))
            have hOc : md_O D E κ x ad (va_up (va_up sc 0 (sp_np S + 1)) 1 (sp_nv S + 1)) (va_up (va_up (va_up (va_up (va_up (va_up (va_up ar 5 (va_up (ar 5) (sp_np S) (nI b))) 6 (va_up (ar 6) (sp_np S) (nI q))) 8 f) 9 (va_up (ar 9) (sp_nv S) (nI (sp_np S)))) 10 (va_up (ar 10) (sp_nv S) (-1))) 11 (va_up (ar 11) (sp_nv S) (-1))) 7 (va_up (ar 7) (sp_np S) (nI (sp_nv S)))) H7 := ⟨t0, hx, t5, t6, t7, t8, t9, t10, t11, t12, t13, t14, t15, t16, t17, t18, t19, t20, r5, r6, hp7, r8, r9, r10, r11, r12, r13, r14, r15, r16, r17, r18, r19, r20⟩
            refine zs_iconst (v := (nI 0)) hE dX7_piece_132 (by decide) ?_
            refine zs_istore (lo' := [(4, .int (nI 0)), (3, .int (nI (sp_nv S))), (0, .ref x), (1, .int (nI b)), (2, .int (nI q))]) hE dX7_piece_133 (by decide) rfl ?_
            refine zs_sub (lo' := [(4, .int (nI 0)), (0, .ref x), (1, .int (nI b)), (2, .int (nI q)), (3, .int (nI (sp_nv S)))]) [0, 2, 3, 4, 1] rfl ?_
            refine zs_ind3 (Hs := fun (k1 : Nat) (K2 : Heap) (g : Nat → Int32) => K2) (ks := fun (k1 : Nat) (K2 : Heap) (g : Nat → Int32) => 0) (ns := fun (k1 : Nat) (K2 : Heap) (g : Nat → Int32) => 0) (los := fun (k1 : Nat) (K2 : Heap) (g : Nat → Int32) => [(4, .int (nI k1)), (0, .ref x), (1, .int (nI b)), (2, .int (nI q)), (3, .int (nI (sp_nv S)))]) (I := fun (k1 : Nat) (K2 : Heap) (g : Nat → Int32) => k1 ≤ b * q ∧ K2.size = s.heap.size ∧ md_O D E κ x ad (va_up (va_up sc 0 (sp_np S + 1)) 1 (sp_nv S + 1)) (va_up (va_up (va_up (va_up (va_up (va_up (va_up (va_up ar 5 (va_up (ar 5) (sp_np S) (nI b))) 6 (va_up (ar 6) (sp_np S) (nI q))) 8 f) 9 (va_up (ar 9) (sp_nv S) (nI (sp_np S)))) 10 (va_up (ar 10) (sp_nv S) (-1))) 11 (va_up (ar 11) (sp_nv S) (-1))) 7 (va_up (ar 7) (sp_np S) (nI (sp_nv S)))) 12 g) K2 ∧ (∀ j, j < k1 → g (41 * (32 * sp_nv S + j)) = nI 1) ∧ ∀ t, (∀ j, j < k1 → t ≠ 41 * (32 * sp_nv S + j)) → g t = ar 12 t) (μ := fun (k1 : Nat) (K2 : Heap) (g : Nat → Int32) => b * q - k1) 0 H7 (ar 12) (⟨Nat.zero_le _, by omega, md_up 12 hOc, fun j hj => absurd hj (Nat.not_lt_zero _), fun t _ => rfl⟩) (fun k1 K2 g hi ih => ?_)
            try dsimp only at hi ih ⊢
            obtain ⟨k32, kz2, lO, kf2, ke2⟩ := hi
            obtain ⟨-, hx, -, -, -, -, -, -, -, -, -, -, -, -, -, -, -, -, r5, r6, r7, r8, r9, r10, r11, r12, r13, r14, r15, r16, r17, r18, r19, r20⟩ := id lO
            have hx : zs_pt D x (.inr (7, [.int (nI (sp_np S + 1)), .int (nI (sp_nv S + 1)), .int (nI (sc 2)), .int (nI (sc 3)), .int (nI (sc 4)), .ref (ad 5), .ref (ad 6), .ref (ad 7), .ref (ad 8), .ref (ad 9), .ref (ad 10), .ref (ad 11), .ref (ad 12), .ref (ad 13), .ref (ad 14), .ref (ad 15), .ref (ad 16), .ref (ad 17), .ref (ad 18), .ref (ad 19), .ref (ad 20)])) K2 := hx
            have r5 : zs_pt D (ad 5) (.inl (E 0, 6, .inl (va_up (ar 5) (sp_np S) (nI b)))) K2 := r5
            have r6 : zs_pt D (ad 6) (.inl (E 0, 6, .inl (va_up (ar 6) (sp_np S) (nI q)))) K2 := r6
            have r7 : zs_pt D (ad 7) (.inl (E 0, 6, .inl (va_up (ar 7) (sp_np S) (nI (sp_nv S))))) K2 := r7
            have r8 : zs_pt D (ad 8) (.inl (E 1, 24, .inl (f))) K2 := r8
            have r9 : zs_pt D (ad 9) (.inl (E 0, 40, .inl (va_up (ar 9) (sp_nv S) (nI (sp_np S))))) K2 := r9
            have r10 : zs_pt D (ad 10) (.inl (E 0, 40, .inl (va_up (ar 10) (sp_nv S) (-1)))) K2 := r10
            have r11 : zs_pt D (ad 11) (.inl (E 0, 40, .inl (va_up (ar 11) (sp_nv S) (-1)))) K2 := r11
            have r12 : zs_pt D (ad 12) (.inl (E 0, 52480, .inl (g))) K2 := r12
            have r13 : zs_pt D (ad 13) (.inl (E 0, 8, .inl (ar 13))) K2 := r13
            have r14 : zs_pt D (ad 14) (.inl (E 0, 24, .inl (ar 14))) K2 := r14
            have r15 : zs_pt D (ad 15) (.inl (E 0, 120, .inl (ar 15))) K2 := r15
            have r16 : zs_pt D (ad 16) (.inl (E 2, 120, .inl (ar 16))) K2 := r16
            have r17 : zs_pt D (ad 17) (.inl (E 2, 40, .inl (ar 17))) K2 := r17
            have r18 : zs_pt D (ad 18) (.inl (E 0, 12, .inl (ar 18))) K2 := r18
            have r19 : zs_pt D (ad 19) (.inl (E 0, 12, .inl (ar 19))) K2 := r19
            have r20 : zs_pt D (ad 20) (.inl (E 0, 72, .inl (ar 20))) K2 := r20
            refine zs_iload hE 0 dX7_piece_135 rfl ?_
            refine zs_iload_n hE 2 dX7_piece_137 rfl rfl ?_
            refine zs_iload_n hE 3 dX7_piece_138 rfl rfl ?_
            refine zs_imulN hE dX7_piece_139 ?_
            refine zs_icmp_geN (tgt := 162) hE (by omega) (by omega) dX7_piece_140 (by decide) (fun h5 => ?_) (fun h => ?_)
            · obtain rfl : k1 = b * q := by omega
              refine zs_aload_n hE 1 dX7_piece_162 rfl rfl ?_
              refine zs_aload_n hE 1 dX7_piece_163 rfl rfl ?_
              refine zs_get hE fl_X7_7 hx rfl dX7_piece_164 ?_
              refine zs_iconst (v := (nI 1)) hE dX7_piece_167 (by decide) ?_
              refine zs_isubN hE (by omega) dX7_piece_168 ?_
              refine zs_top (v' := .int (nI (sp_np S))) (by rw [Nat.add_sub_cancel]) ?_
              refine zs_callV (av := [.int (nI (sp_np S))]) (st := []) hE (m_X7_tells D E B l κ x ad (va_up (va_up sc 0 (sp_np S + 1)) 1 (sp_nv S + 1)) (va_up (va_up (va_up (va_up (va_up (va_up (va_up (va_up ar 5 (va_up (ar 5) (sp_np S) (nI b))) 6 (va_up (ar 6) (sp_np S) (nI q))) 8 f) 9 (va_up (ar 9) (sp_nv S) (nI (sp_np S)))) 10 (va_up (ar 10) (sp_nv S) (-1))) 11 (va_up (ar 11) (sp_nv S) (-1))) 7 (va_up (ar 7) (sp_np S) (nI (sp_nv S)))) 12 g) (nI (sp_np S))) sV_X7_93 hx rfl rfl (lO) ⟨by decide, by decide⟩ ⟨by decide, by decide⟩ (fun q w9 => Or.inl w9) (Nat.le_of_ble_eq_true rfl) dX7_piece_169 (fun v8 H8 hv8 hz8 hk8 => ?_)
              obtain ⟨rfl, cz, cO⟩ := hv8
              refine zs_widen (k' := 0) (n' := 0) (by decide) (by decide) ?_
              exact zs_iret hE hr (mq_mk (S' := s_piece S b q) (k := 0) (by rw [o_piece, pI_f hno, pI_f (by omega), sp_n_nI (by omega), sp_n_nI (by omega)]) (by omega) (fun _ => rfl) cO (mi_4 (mi_piece hM wP wV hbq kf ke kf2 ke2 nvl))) (by decide) (by decide) dX7_piece_172
            · refine zs_aload_n hE 1 dX7_piece_143 rfl rfl ?_
              refine zs_get hE fl_X7_49 hx rfl dX7_piece_144 ?_
              refine zs_aload_n hE 1 dX7_piece_147 rfl rfl ?_
              refine zs_iload_n hE 4 dX7_piece_148 rfl rfl ?_
              refine zs_iload hE 0 dX7_piece_149 rfl ?_
              refine zs_callVR (av := [.int (nI (sp_nv S)), .int (nI k1)]) (st := [.ref (ad 12)]) (b := x) hE (m_X7_sheafAt D E B l κ x ad (va_up (va_up sc 0 (sp_np S + 1)) 1 (sp_nv S + 1)) (va_up (va_up (va_up (va_up (va_up (va_up (va_up (va_up ar 5 (va_up (ar 5) (sp_np S) (nI b))) 6 (va_up (ar 6) (sp_np S) (nI q))) 8 f) 9 (va_up (ar 9) (sp_nv S) (nI (sp_np S)))) 10 (va_up (ar 10) (sp_nv S) (-1))) 11 (va_up (ar 11) (sp_nv S) (-1))) 7 (va_up (ar 7) (sp_np S) (nI (sp_nv S)))) 12 g) (sp_nv S) k1) rfl rfl sV_X7_89 hx rfl rfl (lO) ⟨by decide, by decide⟩ ⟨by decide, by decide⟩ (Nat.le_of_ble_eq_true rfl) dX7_piece_151 ?_
              refine zs_iconst (v := (nI 1)) hE dX7_piece_154 (by decide) ?_
              refine zs_iast hE r12 (Or.inl (show 500 ≤ κ (ad 12) by omega)) (by omega) (by decide) dX7_piece_155 (fun H9 hp9 hz9 ho9 => ?_)
              have hx := zs_pt.kept hx (ho9 _ (cs_ne t0 t12 (by decide)))
              have r5 := zs_pt.kept r5 (ho9 _ (cs_ne t5 t12 (by decide)))
              have r6 := zs_pt.kept r6 (ho9 _ (cs_ne t6 t12 (by decide)))
              have r7 := zs_pt.kept r7 (ho9 _ (cs_ne t7 t12 (by decide)))
              have r8 := zs_pt.kept r8 (ho9 _ (cs_ne t8 t12 (by decide)))
              have r9 := zs_pt.kept r9 (ho9 _ (cs_ne t9 t12 (by decide)))
              have r10 := zs_pt.kept r10 (ho9 _ (cs_ne t10 t12 (by decide)))
              have r11 := zs_pt.kept r11 (ho9 _ (cs_ne t11 t12 (by decide)))
              have r13 := zs_pt.kept r13 (ho9 _ (cs_ne t13 t12 (by decide)))
              have r14 := zs_pt.kept r14 (ho9 _ (cs_ne t14 t12 (by decide)))
              have r15 := zs_pt.kept r15 (ho9 _ (cs_ne t15 t12 (by decide)))
              have r16 := zs_pt.kept r16 (ho9 _ (cs_ne t16 t12 (by decide)))
              have r17 := zs_pt.kept r17 (ho9 _ (cs_ne t17 t12 (by decide)))
              have r18 := zs_pt.kept r18 (ho9 _ (cs_ne t18 t12 (by decide)))
              have r19 := zs_pt.kept r19 (ho9 _ (cs_ne t19 t12 (by decide)))
              have r20 := zs_pt.kept r20 (ho9 _ (cs_ne t20 t12 (by decide)))
              have lO2 : md_O D E κ x ad (va_up (va_up sc 0 (sp_np S + 1)) 1 (sp_nv S + 1)) (va_up (va_up (va_up (va_up (va_up (va_up (va_up (va_up ar 5 (va_up (ar 5) (sp_np S) (nI b))) 6 (va_up (ar 6) (sp_np S) (nI q))) 8 f) 9 (va_up (ar 9) (sp_nv S) (nI (sp_np S)))) 10 (va_up (ar 10) (sp_nv S) (-1))) 11 (va_up (ar 11) (sp_nv S) (-1))) 7 (va_up (ar 7) (sp_np S) (nI (sp_nv S)))) 12 (va_up g (41 * (32 * sp_nv S + k1)) (nI 1))) H9 := ⟨t0, hx, t5, t6, t7, t8, t9, t10, t11, t12, t13, t14, t15, t16, t17, t18, t19, t20, r5, r6, r7, r8, r9, r10, r11, hp9, r13, r14, r15, r16, r17, r18, r19, r20⟩
              refine zs_iincN (lo' := [(4, .int (nI (k1 + 1))), (0, .ref x), (1, .int (nI b)), (2, .int (nI q)), (3, .int (nI (sp_nv S)))]) hE 0 dX7_piece_156 rfl (by decide) rfl ?_
              refine zs_goto (tgt := 135) hE dX7_piece_159 (by decide) ?_
              refine zs_sub (lo' := [(4, .int (nI (k1 + 1))), (0, .ref x), (1, .int (nI b)), (2, .int (nI q)), (3, .int (nI (sp_nv S)))]) [0, 1, 2, 3, 4] rfl ?_
              refine ih (k1 + 1) H9 (va_up g (41 * (32 * sp_nv S + k1)) (nI 1)) (⟨by omega, by omega, lO2, fun j hj => ?_, fun t ht => ?_⟩) (by omega)
              · by_cases e : j = k1
                · subst e; exact va_up_self _ _ _
                · rw [va_up_ne _ _ (by omega)]; exact kf2 j (by omega)
              · rw [va_up_ne _ _ (ht k1 (by omega))]; exact ke2 t (fun j hj => ht j (by omega))
          · refine zs_aload_n hE 1 dX7_piece_76 rfl rfl ?_
            refine zs_get hE fl_X7_35 hx rfl dX7_piece_77 ?_
            refine zs_iconst (v := (nI 4)) hE dX7_piece_80 (by decide) ?_
            refine zs_aload_n hE 1 dX7_piece_81 rfl rfl ?_
            refine zs_get hE fl_X7_7 hx rfl dX7_piece_82 ?_
            refine zs_top (v' := .int (nI (sp_np S))) (by rw [mp0]) ?_
            refine zs_imulN hE dX7_piece_85 ?_
            refine zs_iload_n hE 0 dX7_piece_86 rfl rfl ?_
            refine zs_iaddN hE dX7_piece_87 ?_
            refine zs_bipush (v := (nI 98)) hE dX7_piece_88 (by decide) ?_
            refine zs_cast hE r8 (Or.inl (show 500 ≤ κ (ad 8) by omega)) (by omega) (by decide) dX7_piece_90 (fun H10 hp10 hz10 ho10 => ?_)
            have hx := zs_pt.kept hx (ho10 _ (cs_ne t0 t8 (by decide)))
            have r5 := zs_pt.kept r5 (ho10 _ (cs_ne t5 t8 (by decide)))
            have r6 := zs_pt.kept r6 (ho10 _ (cs_ne t6 t8 (by decide)))
            have r7 := zs_pt.kept r7 (ho10 _ (cs_ne t7 t8 (by decide)))
            have r9 := zs_pt.kept r9 (ho10 _ (cs_ne t9 t8 (by decide)))
            have r10 := zs_pt.kept r10 (ho10 _ (cs_ne t10 t8 (by decide)))
            have r11 := zs_pt.kept r11 (ho10 _ (cs_ne t11 t8 (by decide)))
            have r12 := zs_pt.kept r12 (ho10 _ (cs_ne t12 t8 (by decide)))
            have r13 := zs_pt.kept r13 (ho10 _ (cs_ne t13 t8 (by decide)))
            have r14 := zs_pt.kept r14 (ho10 _ (cs_ne t14 t8 (by decide)))
            have r15 := zs_pt.kept r15 (ho10 _ (cs_ne t15 t8 (by decide)))
            have r16 := zs_pt.kept r16 (ho10 _ (cs_ne t16 t8 (by decide)))
            have r17 := zs_pt.kept r17 (ho10 _ (cs_ne t17 t8 (by decide)))
            have r18 := zs_pt.kept r18 (ho10 _ (cs_ne t18 t8 (by decide)))
            have r19 := zs_pt.kept r19 (ho10 _ (cs_ne t19 t8 (by decide)))
            have r20 := zs_pt.kept r20 (ho10 _ (cs_ne t20 t8 (by decide)))
            have kO2 : md_O D E κ x ad sc (va_up (va_up (va_up ar 5 (va_up (ar 5) (sp_np S) (nI b))) 6 (va_up (ar 6) (sp_np S) (nI q))) 8 (va_up f (4 * sp_np S + k0) (vp_nar FieldType.char (nI 98)))) H10 := ⟨t0, hx, t5, t6, t7, t8, t9, t10, t11, t12, t13, t14, t15, t16, t17, t18, t19, t20, r5, r6, r7, hp10, r9, r10, r11, r12, r13, r14, r15, r16, r17, r18, r19, r20⟩
            refine zs_iincN (lo' := [(3, .int (nI (k0 + 1))), (0, .ref x), (1, .int (nI b)), (2, .int (nI q))]) hE 0 dX7_piece_91 rfl (by decide) rfl ?_
            refine zs_goto (tgt := 71) hE dX7_piece_94 (by decide) ?_
            refine zs_sub (lo' := [(3, .int (nI (k0 + 1))), (0, .ref x), (1, .int (nI b)), (2, .int (nI q))]) [0, 1, 2, 3] rfl ?_
            refine ih (k0 + 1) H10 (va_up f (4 * sp_np S + k0) (vp_nar FieldType.char (nI 98))) (⟨by omega, by omega, kO2, fun j hj => ?_, fun t ht => ?_⟩) (by omega)
            · by_cases e : j = k0
              · subst e; exact va_up_self _ _ _
              · rw [va_up_ne _ _ (by omega)]; exact kf j (by omega)
            · rw [va_up_ne _ _ (by omega)]; exact ke t (by omega)
        · refine zs_aload_n hE 0 dX7_piece_43 rfl rfl ?_
          refine zs_iconst (v := (nI 2)) hE dX7_piece_44 (by decide) ?_
          refine zs_callV (av := [.int (nI 2)]) (st := []) hE (m_X7_fails D E B l κ x ad sc ar 2) sV_X7_81 hx rfl rfl (hO) ⟨by decide, by decide⟩ ⟨by decide, by decide⟩ (fun q w9 => Or.inl w9) (Nat.le_of_ble_eq_true rfl) dX7_piece_45 (fun v11 H11 hv11 hz11 hk11 => ?_)
          obtain ⟨rfl, cz, cO⟩ := hv11
          refine zs_widen (k' := 0) (n' := 0) (by decide) (by decide) ?_
          exact zs_iret hE hr (mq_mk (S' := S) (v := .null) (k := 2) (by rw [o_piece, pI_f hno, pI_t (Or.inr (by omega))]; rfl) cz (fun w9 => by cases w9) cO (mi_4 hM)) (by decide) (by decide) dX7_piece_48
    · refine zs_aload_n hE 0 dX7_piece_19 rfl rfl ?_
      refine zs_iconst (v := (nI 1)) hE dX7_piece_20 (by decide) ?_
      refine zs_callV (av := [.int (nI 1)]) (st := []) hE (m_X7_fails D E B l κ x ad sc ar 1) sV_X7_81 hx rfl rfl (hO) ⟨by decide, by decide⟩ ⟨by decide, by decide⟩ (fun q w9 => Or.inl w9) (Nat.le_of_ble_eq_true rfl) dX7_piece_21 (fun v12 H12 hv12 hz12 hk12 => ?_)
      obtain ⟨rfl, cz, cO⟩ := hv12
      refine zs_widen (k' := 0) (n' := 0) (by decide) (by decide) ?_
      exact zs_iret hE hr (mq_mk (S' := S) (v := .null) (k := 1) (by rw [o_piece, pI_t (Classical.byContradiction fun w => h2 ⟨fun t => w (Or.inr (Or.inr (Or.inl t))), fun t => w (Or.inr (Or.inr (Or.inr t)))⟩ : y < 1 ∨ 8 < y ∨ z < 1 ∨ 4 < z)]; rfl) cz (fun w9 => by cases w9) cO (mi_4 hM)) (by decide) (by decide) dX7_piece_24


/-! the model: its object (five numbers, sixteen arrays), what its arrays hold of a state -/
def md_O (D : va_G) (E : Nat → ClassId) (κ : Nat → Nat) (x : Nat) (ad sc : Nat → Nat) (ar : Nat → Nat → Int32) (H : Heap) : Prop := κ x = 500 ∧ zs_pt D x (.inr (7, [.int (nI (sc 0)), .int (nI (sc 1)), .int (nI (sc 2)), .int (nI (sc 3)), .int (nI (sc 4)), .ref (ad 5), .ref (ad 6), .ref (ad 7), .ref (ad 8), .ref (ad 9), .ref (ad 10), .ref (ad 11), .ref (ad 12), .ref (ad 13), .ref (ad 14), .ref (ad 15), .ref (ad 16), .ref (ad 17), .ref (ad 18), .ref (ad 19), .ref (ad 20)])) H ∧ κ (ad 5) = 505 ∧ κ (ad 6) = 506 ∧ κ (ad 7) = 507 ∧ κ (ad 8) = 508 ∧ κ (ad 9) = 509 ∧ κ (ad 10) = 510 ∧ κ (ad 11) = 511 ∧ κ (ad 12) = 512 ∧ κ (ad 13) = 513 ∧ κ (ad 14) = 514 ∧ κ (ad 15) = 515 ∧ κ (ad 16) = 516 ∧ κ (ad 17) = 517 ∧ κ (ad 18) = 518 ∧ κ (ad 19) = 519 ∧ κ (ad 20) = 520 ∧ zs_pt D (ad 5) (.inl (E 0, 6, .inl (ar 5))) H ∧ zs_pt D (ad 6) (.inl (E 0, 6, .inl (ar 6))) H ∧ zs_pt D (ad 7) (.inl (E 0, 6, .inl (ar 7))) H ∧ zs_pt D (ad 8) (.inl (E 1, 24, .inl (ar 8))) H ∧ zs_pt D (ad 9) (.inl (E 0, 40, .inl (ar 9))) H ∧ zs_pt D (ad 10) (.inl (E 0, 40, .inl (ar 10))) H ∧ zs_pt D (ad 11) (.inl (E 0, 40, .inl (ar 11))) H ∧ zs_pt D (ad 12) (.inl (E 0, 52480, .inl (ar 12))) H ∧ zs_pt D (ad 13) (.inl (E 0, 8, .inl (ar 13))) H ∧ zs_pt D (ad 14) (.inl (E 0, 24, .inl (ar 14))) H ∧ zs_pt D (ad 15) (.inl (E 0, 120, .inl (ar 15))) H ∧ zs_pt D (ad 16) (.inl (E 2, 120, .inl (ar 16))) H ∧ zs_pt D (ad 17) (.inl (E 2, 40, .inl (ar 17))) H ∧ zs_pt D (ad 18) (.inl (E 0, 12, .inl (ar 18))) H ∧ zs_pt D (ad 19) (.inl (E 0, 12, .inl (ar 19))) H ∧ zs_pt D (ad 20) (.inl (E 0, 72, .inl (ar 20))) H
/-- a sheaf in the model's numbers, from place b -/
def md_r (f : Nat → Int32) (b : Nat) (r : sp_R) : Prop := f b = nI r.1 ∧ f (b + 1) = nI r.2.length ∧ ∀ k, k < r.2.length → f (b + 2 + k) = nI (r.2.getD k 0)
def md_s (f : Nat → Int32) (b : Nat) (rs : sp_Sh) : Prop := f b = nI rs.length ∧ ∀ n, n < rs.length → md_r f (b + 1 + 10 * n) (rs.getD n sp_d0)
def mi_P (S : sp_S) (sc : Nat → Nat) (ar : Nat → Nat → Int32) : Prop := sc 0 = sp_np S ∧ ∀ i, i < sp_np S → ar 5 i = nI (sp_ba S i) ∧ ar 6 i = nI (sp_pa S i) ∧ ar 7 i = nI (sp_fi S i) ∧ ∀ q, q < 4 → ar 8 (4 * i + q) = nI (sp_ru S i q)
def mi_V (S : sp_S) (sc : Nat → Nat) (ar : Nat → Nat → Int32) : Prop := sc 1 = sp_nv S ∧ ∀ v, v < sp_nv S → ar 9 v = nI (sp_vp S v) ∧ ar 10 v = nI (sp_q1 S v) - 1 ∧ ar 11 v = nI (sp_q2 S v) - 1 ∧ ∀ k, k < sp_ba S (sp_vp S v) * sp_pa S (sp_vp S v) → md_s (ar 12) (41 * (32 * v + k)) (sp_sv S v k)
def mi_T (S : sp_S) (sc : Nat → Nat) (ar : Nat → Nat → Int32) : Prop := sc 2 = (sp_ty S).length ∧ ∀ j, j < (sp_ty S).length → ar 13 j = nI ((sp_ty S).getD j 0)
def mi_H (S : sp_S) (ar : Nat → Nat → Int32) : Prop := ∀ r, r < 4 → ∀ i, i < 6 → ar 14 (6 * r + i) = nI (sp_hv S i r) ∧ ∀ j, j < 5 → ar 15 (5 * (6 * r + i) + j) = nI (sp_mk S i r j) ∧ ar 16 (5 * (6 * r + i) + j) = nI (if sp_mk S i r j ≠ 0 ∧ sp_ct S i r j = 0 then 1 else 0)
def mi_Z (S : sp_S) (sc : Nat → Nat) (ar : Nat → Nat → Int32) : Prop := sc 3 = sp_nz S ∧ ∀ z, z < sp_nz S → ar 18 z = nI (sp_zv S z) ∧ ar 19 z = nI (sp_zc S z) ∧ ∀ e, e < 6 → ar 20 (6 * z + e) = nI (sp_zs S z e)
/-- no version has written there yet -/
def mi_E (S : sp_S) (ar : Nat → Nat → Int32) : Prop := ∀ q, 1312 * sp_nv S ≤ q → q < 52480 → ar 12 q = 0
def mi_ (S : sp_S) (sc : Nat → Nat) (ar : Nat → Nat → Int32) : Prop := mi_P S sc ar ∧ mi_V S sc ar ∧ mi_T S sc ar ∧ mi_H S ar ∧ mi_Z S sc ar ∧ mi_E S ar
def md_F (κ : Nat → Nat) : Nat → Prop := fun q => 500 ≤ κ q
theorem in_i {y : Int32} {n : Nat} (hn : n < 2 ^ 31) : (¬ y < nI 0 ∧ ¬ nI n - 1 < y) ↔ sp_i y n ≠ none := by
  rw [Int32.lt_iff_toInt_lt, Int32.lt_iff_toInt_lt, nI_mi hn, show (nI 0).toInt = 0 from rfl]
  unfold sp_i
  by_cases q : 0 ≤ y.toInt ∧ y.toInt < n
  · rw [if_pos q]; exact ⟨fun _ w => (by cases w), fun _ => by omega⟩
  · rw [if_neg q]; exact ⟨fun w => by omega, fun w => absurd rfl w⟩

set_option maxHeartbeats 4000000 in
set_option maxRecDepth 100000 in
theorem m_X7_in (D : va_G) (E : Nat → ClassId) (B : Nat) (l : Launch) (y a b : Int32) : zs_Ct D E B l yX7_in cX7_in 3 (some .boolean) ({ frames := 0, cells := 0, slots := 0, locals := 0 } : Room) [.int y, .int a, .int b] (fun _ => True) (zs_N) (zs_ro (.int (zs_b (¬ y < a ∧ ¬ b < y)))) := by
  refine zs_ct (by decide) (Nat.le_of_ble_eq_true rfl) (fun p e s m below meth c hE hr hin hp => ?_)
  refine zs_lo (lo' := [(0, .int y), (1, .int a), (2, .int b)]) rfl ?_
  refine zs_iload_n hE 0 dX7_in_0 rfl rfl ?_
  refine zs_iload_n hE 1 dX7_in_1 rfl rfl ?_
  refine zs_icmp_lt (tgt := 14) hE dX7_in_2 (by decide) (fun h1 => ?_) (fun h1 => ?_)
  · refine zs_iconst (v := (nI 0)) hE dX7_in_14 (by decide) ?_
    refine zs_top (v' := .int (zs_b (¬ y < a ∧ ¬ b < y))) (vb0 (fun w => w.1 h1)) ?_
    exact zs_zret hE hr (zs_bnar _) (⟨rfl, rfl⟩) (by decide) (by decide) dX7_in_15
  · refine zs_iload_n hE 0 dX7_in_5 rfl rfl ?_
    refine zs_iload_n hE 2 dX7_in_6 rfl rfl ?_
    refine zs_icmp_gt (tgt := 14) hE dX7_in_7 (by decide) (fun h2 => ?_) (fun h2 => ?_)
    · refine zs_iconst (v := (nI 0)) hE dX7_in_14 (by decide) ?_
      refine zs_top (v' := .int (zs_b (¬ y < a ∧ ¬ b < y))) (vb0 (fun w => w.2 h2)) ?_
      exact zs_zret hE hr (zs_bnar _) (⟨rfl, rfl⟩) (by decide) (by decide) dX7_in_15
    · refine zs_iconst (v := (nI 1)) hE dX7_in_10 (by decide) ?_
      refine zs_goto (tgt := 15) hE dX7_in_11 (by decide) ?_
      refine zs_top (v' := .int (zs_b (¬ y < a ∧ ¬ b < y))) (vb1 ⟨h1, h2⟩) ?_
      exact zs_zret hE hr (zs_bnar _) (⟨rfl, rfl⟩) (by decide) (by decide) dX7_in_15

set_option maxHeartbeats 4000000 in
set_option maxRecDepth 100000 in
theorem m_X7_fails (D : va_G) (E : Nat → ClassId) (B : Nat) (l : Launch) (κ : Nat → Nat) (x : Nat) (ad sc : Nat → Nat) (ar : Nat → Nat → Int32) (k : Nat) : zs_Ct D E B l yX7_fails cX7_fails 2 (some .int) ({ frames := 0, cells := 0, slots := 0, locals := 0 } : Room) [.ref x, .int (nI k)] (fun H => md_O D E κ x ad sc ar H) (md_F κ) (fun v H H1 => v = some (.int (nI 0)) ∧ H1.size = H.size ∧ md_O D E κ x ad (va_up sc 4 k) ar H1) := by
  refine zs_ct (by decide) (Nat.le_of_ble_eq_true rfl) (fun p e s m below meth c hE hr hin hp => ?_)
  refine zs_lo (lo' := [(0, .ref x), (1, .int (nI k))]) rfl ?_
  have hO := hp
  obtain ⟨t0, hx, t5, t6, t7, t8, t9, t10, t11, t12, t13, t14, t15, t16, t17, t18, t19, t20, r5, r6, r7, r8, r9, r10, r11, r12, r13, r14, r15, r16, r17, r18, r19, r20⟩ := id hO
  refine zs_aload_n hE 0 dX7_fails_0 rfl rfl ?_
  refine zs_iload_n hE 1 dX7_fails_1 rfl rfl ?_
  refine zs_put (v := .int (nI k)) hE fl_X7_22 hx (Or.inl (show 500 ≤ κ x by omega)) (rfl) (rfl) (Nat.le_of_ble_eq_true rfl) dX7_fails_2 (fun H1 hp1 hz1 ho1 => ?_)
  have r5 := zs_pt.kept r5 (ho1 _ (cs_ne t5 t0 (by decide)))
  have r6 := zs_pt.kept r6 (ho1 _ (cs_ne t6 t0 (by decide)))
  have r7 := zs_pt.kept r7 (ho1 _ (cs_ne t7 t0 (by decide)))
  have r8 := zs_pt.kept r8 (ho1 _ (cs_ne t8 t0 (by decide)))
  have r9 := zs_pt.kept r9 (ho1 _ (cs_ne t9 t0 (by decide)))
  have r10 := zs_pt.kept r10 (ho1 _ (cs_ne t10 t0 (by decide)))
  have r11 := zs_pt.kept r11 (ho1 _ (cs_ne t11 t0 (by decide)))
  have r12 := zs_pt.kept r12 (ho1 _ (cs_ne t12 t0 (by decide)))
  have r13 := zs_pt.kept r13 (ho1 _ (cs_ne t13 t0 (by decide)))
  have r14 := zs_pt.kept r14 (ho1 _ (cs_ne t14 t0 (by decide)))
  have r15 := zs_pt.kept r15 (ho1 _ (cs_ne t15 t0 (by decide)))
  have r16 := zs_pt.kept r16 (ho1 _ (cs_ne t16 t0 (by decide)))
  have r17 := zs_pt.kept r17 (ho1 _ (cs_ne t17 t0 (by decide)))
  have r18 := zs_pt.kept r18 (ho1 _ (cs_ne t18 t0 (by decide)))
  have r19 := zs_pt.kept r19 (ho1 _ (cs_ne t19 t0 (by decide)))
  have r20 := zs_pt.kept r20 (ho1 _ (cs_ne t20 t0 (by decide)))
  have hp1 : zs_pt D x (.inr (7, [.int (nI (sc 0)), .int (nI (sc 1)), .int (nI (sc 2)), .int (nI (sc 3)), .int (nI k), .ref (ad 5), .ref (ad 6), .ref (ad 7), .ref (ad 8), .ref (ad 9), .ref (ad 10), .ref (ad 11), .ref (ad 12), .ref (ad 13), .ref (ad 14), .ref (ad 15), .ref (ad 16), .ref (ad 17), .ref (ad 18), .ref (ad 19), .ref (ad 20)])) H1 := hp1
  refine zs_iconst (v := (nI 0)) hE dX7_fails_5 (by decide) ?_
  exact zs_iret hE hr (⟨rfl, hz1, ⟨t0, hp1, t5, t6, t7, t8, t9, t10, t11, t12, t13, t14, t15, t16, t17, t18, t19, t20, r5, r6, r7, r8, r9, r10, r11, r12, r13, r14, r15, r16, r17, r18, r19, r20⟩⟩) (by decide) (by decide) dX7_fails_6

set_option maxHeartbeats 4000000 in
set_option maxRecDepth 100000 in
theorem m_X7_tells (D : va_G) (E : Nat → ClassId) (B : Nat) (l : Launch) (κ : Nat → Nat) (x : Nat) (ad sc : Nat → Nat) (ar : Nat → Nat → Int32) (y : Int32) : zs_Ct D E B l yX7_tells cX7_tells 2 (some .int) ({ frames := 0, cells := 0, slots := 0, locals := 0 } : Room) [.ref x, .int y] (fun H => md_O D E κ x ad sc ar H) (md_F κ) (fun v H H1 => v = some (.int y) ∧ H1.size = H.size ∧ md_O D E κ x ad (va_up sc 4 0) ar H1) := by
  refine zs_ct (by decide) (Nat.le_of_ble_eq_true rfl) (fun p e s m below meth c hE hr hin hp => ?_)
  refine zs_lo (lo' := [(0, .ref x), (1, .int y)]) rfl ?_
  have hO := hp
  obtain ⟨t0, hx, t5, t6, t7, t8, t9, t10, t11, t12, t13, t14, t15, t16, t17, t18, t19, t20, r5, r6, r7, r8, r9, r10, r11, r12, r13, r14, r15, r16, r17, r18, r19, r20⟩ := id hO
  refine zs_aload_n hE 0 dX7_tells_0 rfl rfl ?_
  refine zs_iconst (v := (nI 0)) hE dX7_tells_1 (by decide) ?_
  refine zs_put (v := .int (nI 0)) hE fl_X7_22 hx (Or.inl (show 500 ≤ κ x by omega)) (rfl) (rfl) (Nat.le_of_ble_eq_true rfl) dX7_tells_2 (fun H1 hp1 hz1 ho1 => ?_)
  have r5 := zs_pt.kept r5 (ho1 _ (cs_ne t5 t0 (by decide)))
  have r6 := zs_pt.kept r6 (ho1 _ (cs_ne t6 t0 (by decide)))
  have r7 := zs_pt.kept r7 (ho1 _ (cs_ne t7 t0 (by decide)))
  have r8 := zs_pt.kept r8 (ho1 _ (cs_ne t8 t0 (by decide)))
  have r9 := zs_pt.kept r9 (ho1 _ (cs_ne t9 t0 (by decide)))
  have r10 := zs_pt.kept r10 (ho1 _ (cs_ne t10 t0 (by decide)))
  have r11 := zs_pt.kept r11 (ho1 _ (cs_ne t11 t0 (by decide)))
  have r12 := zs_pt.kept r12 (ho1 _ (cs_ne t12 t0 (by decide)))
  have r13 := zs_pt.kept r13 (ho1 _ (cs_ne t13 t0 (by decide)))
  have r14 := zs_pt.kept r14 (ho1 _ (cs_ne t14 t0 (by decide)))
  have r15 := zs_pt.kept r15 (ho1 _ (cs_ne t15 t0 (by decide)))
  have r16 := zs_pt.kept r16 (ho1 _ (cs_ne t16 t0 (by decide)))
  have r17 := zs_pt.kept r17 (ho1 _ (cs_ne t17 t0 (by decide)))
  have r18 := zs_pt.kept r18 (ho1 _ (cs_ne t18 t0 (by decide)))
  have r19 := zs_pt.kept r19 (ho1 _ (cs_ne t19 t0 (by decide)))
  have r20 := zs_pt.kept r20 (ho1 _ (cs_ne t20 t0 (by decide)))
  have hp1 : zs_pt D x (.inr (7, [.int (nI (sc 0)), .int (nI (sc 1)), .int (nI (sc 2)), .int (nI (sc 3)), .int (nI 0), .ref (ad 5), .ref (ad 6), .ref (ad 7), .ref (ad 8), .ref (ad 9), .ref (ad 10), .ref (ad 11), .ref (ad 12), .ref (ad 13), .ref (ad 14), .ref (ad 15), .ref (ad 16), .ref (ad 17), .ref (ad 18), .ref (ad 19), .ref (ad 20)])) H1 := hp1
  refine zs_iload_n hE 1 dX7_tells_5 rfl rfl ?_
  exact zs_iret hE hr (⟨rfl, hz1, ⟨t0, hp1, t5, t6, t7, t8, t9, t10, t11, t12, t13, t14, t15, t16, t17, t18, t19, t20, r5, r6, r7, r8, r9, r10, r11, r12, r13, r14, r15, r16, r17, r18, r19, r20⟩⟩) (by decide) (by decide) dX7_tells_6

set_option maxHeartbeats 4000000 in
set_option maxRecDepth 100000 in
theorem m_X7_thrown (D : va_G) (E : Nat → ClassId) (B : Nat) (l : Launch) (κ : Nat → Nat) (x : Nat) (ad sc : Nat → Nat) (ar : Nat → Nat → Int32) : zs_Ct D E B l yX7_thrown cX7_thrown 1 (some .int) ({ frames := 0, cells := 0, slots := 0, locals := 0 } : Room) [.ref x] (fun H => md_O D E κ x ad sc ar H) (zs_N) (zs_ro (.int (nI (sc 4)))) := by
  refine zs_ct (by decide) (Nat.le_of_ble_eq_true rfl) (fun p e s m below meth c hE hr hin hp => ?_)
  refine zs_lo (lo' := [(0, .ref x)]) rfl ?_
  have hO := hp
  obtain ⟨t0, hx, t5, t6, t7, t8, t9, t10, t11, t12, t13, t14, t15, t16, t17, t18, t19, t20, r5, r6, r7, r8, r9, r10, r11, r12, r13, r14, r15, r16, r17, r18, r19, r20⟩ := id hO
  refine zs_aload_n hE 0 dX7_thrown_0 rfl rfl ?_
  refine zs_get hE fl_X7_22 hx rfl dX7_thrown_1 ?_
  exact zs_iret hE hr (⟨rfl, rfl⟩) (by decide) (by decide) dX7_thrown_4

set_option maxHeartbeats 4000000 in
set_option maxRecDepth 100000 in
theorem m_X7_isPiece (D : va_G) (E : Nat → ClassId) (B : Nat) (l : Launch) (κ : Nat → Nat) (x : Nat) (ad sc : Nat → Nat) (ar : Nat → Nat → Int32) (y : Int32) (hn : sc 0 < 2 ^ 31) : zs_Ct D E B l yX7_isPiece cX7_isPiece 2 (some .boolean) ({ frames := 1, cells := 0, slots := 0, locals := 22 } : Room) [.ref x, .int y] (fun H => md_O D E κ x ad sc ar H) (zs_N) (zs_ro (.int (zs_b (sp_i y (sc 0) ≠ none)))) := by
  refine zs_ct (by decide) (Nat.le_of_ble_eq_true rfl) (fun p e s m below meth c hE hr hin hp => ?_)
  refine zs_lo (lo' := [(0, .ref x), (1, .int y)]) rfl ?_
  have hO := hp
  obtain ⟨t0, hx, t5, t6, t7, t8, t9, t10, t11, t12, t13, t14, t15, t16, t17, t18, t19, t20, r5, r6, r7, r8, r9, r10, r11, r12, r13, r14, r15, r16, r17, r18, r19, r20⟩ := id hO
  refine zs_iload_n hE 1 dX7_isPiece_0 rfl rfl ?_
  refine zs_iconst (v := (nI 0)) hE dX7_isPiece_1 (by decide) ?_
  refine zs_aload_n hE 0 dX7_isPiece_2 rfl rfl ?_
  refine zs_get hE fl_X7_7 hx rfl dX7_isPiece_3 ?_
  refine zs_iconst (v := (nI 1)) hE dX7_isPiece_6 (by decide) ?_
  refine zs_isub hE dX7_isPiece_7 ?_
  refine zs_callSR (av := [.int y, .int (nI 0), .int ((nI (sc 0)) - (nI 1))]) (st := []) hE (m_X7_in D E B l y (nI 0) (nI (sc 0) - 1)) rfl rfl sS_X7_77 (trivial) ⟨by decide, by decide⟩ ⟨by decide, by decide⟩ (Nat.le_of_ble_eq_true rfl) dX7_isPiece_8 ?_
  refine zs_top (v' := .int (zs_b (sp_i y (sc 0) ≠ none))) (by rw [zs_bc (in_i hn)]) ?_
  exact zs_zret hE hr (zs_bnar _) (⟨rfl, rfl⟩) (by decide) (by decide) dX7_isPiece_11

set_option maxHeartbeats 4000000 in
set_option maxRecDepth 100000 in
theorem m_X7_isVersion (D : va_G) (E : Nat → ClassId) (B : Nat) (l : Launch) (κ : Nat → Nat) (x : Nat) (ad sc : Nat → Nat) (ar : Nat → Nat → Int32) (y : Int32) (hn : sc 1 < 2 ^ 31) : zs_Ct D E B l yX7_isVersion cX7_isVersion 2 (some .boolean) ({ frames := 1, cells := 0, slots := 0, locals := 22 } : Room) [.ref x, .int y] (fun H => md_O D E κ x ad sc ar H) (zs_N) (zs_ro (.int (zs_b (sp_i y (sc 1) ≠ none)))) := by
  refine zs_ct (by decide) (Nat.le_of_ble_eq_true rfl) (fun p e s m below meth c hE hr hin hp => ?_)
  refine zs_lo (lo' := [(0, .ref x), (1, .int y)]) rfl ?_
  have hO := hp
  obtain ⟨t0, hx, t5, t6, t7, t8, t9, t10, t11, t12, t13, t14, t15, t16, t17, t18, t19, t20, r5, r6, r7, r8, r9, r10, r11, r12, r13, r14, r15, r16, r17, r18, r19, r20⟩ := id hO
  refine zs_iload_n hE 1 dX7_isVersion_0 rfl rfl ?_
  refine zs_iconst (v := (nI 0)) hE dX7_isVersion_1 (by decide) ?_
  refine zs_aload_n hE 0 dX7_isVersion_2 rfl rfl ?_
  refine zs_get hE fl_X7_13 hx rfl dX7_isVersion_3 ?_
  refine zs_iconst (v := (nI 1)) hE dX7_isVersion_6 (by decide) ?_
  refine zs_isub hE dX7_isVersion_7 ?_
  refine zs_callSR (av := [.int y, .int (nI 0), .int ((nI (sc 1)) - (nI 1))]) (st := []) hE (m_X7_in D E B l y (nI 0) (nI (sc 1) - 1)) rfl rfl sS_X7_77 (trivial) ⟨by decide, by decide⟩ ⟨by decide, by decide⟩ (Nat.le_of_ble_eq_true rfl) dX7_isVersion_8 ?_
  refine zs_top (v' := .int (zs_b (sp_i y (sc 1) ≠ none))) (by rw [zs_bc (in_i hn)]) ?_
  exact zs_zret hE hr (zs_bnar _) (⟨rfl, rfl⟩) (by decide) (by decide) dX7_isVersion_11

set_option maxHeartbeats 4000000 in
set_option maxRecDepth 100000 in
theorem m_X7_isRound (D : va_G) (E : Nat → ClassId) (B : Nat) (l : Launch) (y : Int32) : zs_Ct D E B l yX7_isRound cX7_isRound 1 (some .boolean) ({ frames := 1, cells := 0, slots := 0, locals := 22 } : Room) [.int y] (fun _ => True) (zs_N) (zs_ro (.int (zs_b (sp_i y 4 ≠ none)))) := by
  refine zs_ct (by decide) (Nat.le_of_ble_eq_true rfl) (fun p e s m below meth c hE hr hin hp => ?_)
  refine zs_lo (lo' := [(0, .int y)]) rfl ?_
  refine zs_iload_n hE 0 dX7_isRound_0 rfl rfl ?_
  refine zs_iconst (v := (nI 0)) hE dX7_isRound_1 (by decide) ?_
  refine zs_iconst (v := (nI 3)) hE dX7_isRound_2 (by decide) ?_
  refine zs_callSR (av := [.int y, .int (nI 0), .int (nI 3)]) (st := []) hE (m_X7_in D E B l y (nI 0) (nI 3)) rfl rfl sS_X7_77 (trivial) ⟨by decide, by decide⟩ ⟨by decide, by decide⟩ (Nat.le_of_ble_eq_true rfl) dX7_isRound_3 ?_
  refine zs_top (v' := .int (zs_b (sp_i y 4 ≠ none))) (by rw [← zs_bc (in_i (y := y) (n := 4) (by decide))]; rfl) ?_
  exact zs_zret hE hr (zs_bnar _) (⟨rfl, rfl⟩) (by decide) (by decide) dX7_isRound_6

set_option maxHeartbeats 4000000 in
set_option maxRecDepth 100000 in
theorem m_X7_sheafAt (D : va_G) (E : Nat → ClassId) (B : Nat) (l : Launch) (κ : Nat → Nat) (x : Nat) (ad sc : Nat → Nat) (ar : Nat → Nat → Int32) (v k : Nat) : zs_Ct D E B l yX7_sheafAt cX7_sheafAt 3 (some .int) ({ frames := 0, cells := 0, slots := 0, locals := 0 } : Room) [.ref x, .int (nI v), .int (nI k)] (fun H => md_O D E κ x ad sc ar H) (zs_N) (zs_ro (.int (nI (41 * (32 * v + k))))) := by
  refine zs_ct (by decide) (Nat.le_of_ble_eq_true rfl) (fun p e s m below meth c hE hr hin hp => ?_)
  refine zs_lo (lo' := [(0, .ref x), (1, .int (nI v)), (2, .int (nI k))]) rfl ?_
  have hO := hp
  obtain ⟨t0, hx, t5, t6, t7, t8, t9, t10, t11, t12, t13, t14, t15, t16, t17, t18, t19, t20, r5, r6, r7, r8, r9, r10, r11, r12, r13, r14, r15, r16, r17, r18, r19, r20⟩ := id hO
  refine zs_bipush (v := (nI 41)) hE dX7_sheafAt_0 (by decide) ?_
  refine zs_bipush (v := (nI 32)) hE dX7_sheafAt_2 (by decide) ?_
  refine zs_iload_n hE 1 dX7_sheafAt_4 rfl rfl ?_
  refine zs_imulN hE dX7_sheafAt_5 ?_
  refine zs_iload_n hE 2 dX7_sheafAt_6 rfl rfl ?_
  refine zs_iaddN hE dX7_sheafAt_7 ?_
  refine zs_imulN hE dX7_sheafAt_8 ?_
  exact zs_iret hE hr (⟨rfl, rfl⟩) (by decide) (by decide) dX7_sheafAt_9

set_option maxHeartbeats 4000000 in
set_option maxRecDepth 100000 in
theorem m_X7_size (D : va_G) (E : Nat → ClassId) (B : Nat) (l : Launch) (κ : Nat → Nat) (x : Nat) (ad sc : Nat → Nat) (ar : Nat → Nat → Int32) (i b q : Nat) (hi : i < 6) (hb : ar 5 i = nI b) (hq : ar 6 i = nI q) : zs_Ct D E B l yX7_size cX7_size 2 (some .int) ({ frames := 0, cells := 0, slots := 0, locals := 0 } : Room) [.ref x, .int (nI i)] (fun H => md_O D E κ x ad sc ar H) (zs_N) (zs_ro (.int (nI (b * q)))) := by
  refine zs_ct (by decide) (Nat.le_of_ble_eq_true rfl) (fun p e s m below meth c hE hr hin hp => ?_)
  refine zs_lo (lo' := [(0, .ref x), (1, .int (nI i))]) rfl ?_
  have hO := hp
  obtain ⟨t0, hx, t5, t6, t7, t8, t9, t10, t11, t12, t13, t14, t15, t16, t17, t18, t19, t20, r5, r6, r7, r8, r9, r10, r11, r12, r13, r14, r15, r16, r17, r18, r19, r20⟩ := id hO
  refine zs_aload_n hE 0 dX7_size_0 rfl rfl ?_
  refine zs_get hE fl_X7_25 hx rfl dX7_size_1 ?_
  refine zs_iload_n hE 1 dX7_size_4 rfl rfl ?_
  refine zs_iald hE r5 (by omega) (by decide) dX7_size_5 ?_
  refine zs_top (v' := .int (nI b)) (by rw [hb]) ?_
  refine zs_aload_n hE 0 dX7_size_6 rfl rfl ?_
  refine zs_get hE fl_X7_29 hx rfl dX7_size_7 ?_
  refine zs_iload_n hE 1 dX7_size_10 rfl rfl ?_
  refine zs_iald hE r6 (by omega) (by decide) dX7_size_11 ?_
  refine zs_top (v' := .int (nI q)) (by rw [hq]) ?_
  refine zs_imulN hE dX7_size_12 ?_
  exact zs_iret hE hr (⟨rfl, rfl⟩) (by decide) (by decide) dX7_size_13


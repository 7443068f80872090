/-! which version is above which -/
theorem am_up {S : sp_S} (hA : sw_A S) {v c : Nat} (hv : v < sp_nv S) (h : (sp_q1 S v ≠ 0 ∧ (sp_am S (sp_q1 S v - 1)).testBit c = true) ∨ (sp_q2 S v ≠ 0 ∧ (sp_am S (sp_q2 S v - 1)).testBit c = true)) : (sp_am S v).testBit c = true := ((hA v hv).1 c).mpr (Or.inr h)
theorem am_self {S : sp_S} (hA : sw_A S) {v : Nat} (hv : v < sp_nv S) : (sp_am S v).testBit v = true := ((hA v hv).1 v).mpr (Or.inl rfl)
theorem am_par {S : sp_S} (hV : sw_V S) (hA : sw_A S) {c j : Nat} (hc : sp_q1 S c = j + 1 ∨ sp_q2 S c = j + 1) : ∀ n v, v < n → v < sp_nv S → (sp_am S v).testBit c = true → (sp_am S v).testBit j = true
  | 0, _, h, _, _ => absurd h (Nat.not_lt_zero _)
  | n + 1, v, hn, hv, h => by
    obtain ⟨-, b1, b2, -⟩ := hV v hv
    rcases ((hA v hv).1 c).mp h with rfl | ⟨w1, w2⟩ | ⟨w1, w2⟩
    · rcases hc with e | e
      · exact am_up hA hv (Or.inl ⟨by omega, by rw [show sp_q1 S c - 1 = j by omega]; exact am_self hA (by omega)⟩)
      · exact am_up hA hv (Or.inr ⟨by omega, by rw [show sp_q2 S c - 1 = j by omega]; exact am_self hA (by omega)⟩)
    · exact am_up hA hv (Or.inl ⟨w1, am_par hV hA hc n _ (by omega) (by omega) w2⟩)
    · exact am_up hA hv (Or.inr ⟨w1, am_par hV hA hc n _ (by omega) (by omega) w2⟩)
theorem am_child {S : sp_S} (hV : sw_V S) (hA : sw_A S) {j : Nat} : ∀ n v, v < n → v < sp_nv S → (sp_am S v).testBit j = true → j ≠ v → ∃ c, c ≤ v ∧ j < c ∧ (sp_am S v).testBit c = true ∧ (sp_q1 S c = j + 1 ∨ sp_q2 S c = j + 1)
  | 0, _, h, _, _, _ => absurd h (Nat.not_lt_zero _)
  | n + 1, v, hn, hv, h, hj => by
    obtain ⟨-, b1, b2, -⟩ := hV v hv
    rcases ((hA v hv).1 j).mp h with rfl | ⟨w1, w2⟩ | ⟨w1, w2⟩
    · exact absurd rfl hj
    · by_cases e : j = sp_q1 S v - 1
      · exact ⟨v, Nat.le_refl _, by omega, am_self hA hv, Or.inl (by omega)⟩
      · obtain ⟨c, c1, c2, c3, c4⟩ := am_child hV hA n _ (by omega) (by omega) w2 e
        exact ⟨c, by omega, c2, am_up hA hv (Or.inl ⟨w1, c3⟩), c4⟩
    · by_cases e : j = sp_q2 S v - 1
      · exact ⟨v, Nat.le_refl _, by omega, am_self hA hv, Or.inr (by omega)⟩
      · obtain ⟨c, c1, c2, c3, c4⟩ := am_child hV hA n _ (by omega) (by omega) w2 e
        exact ⟨c, by omega, c2, am_up hA hv (Or.inr ⟨w1, c3⟩), c4⟩
/-- what is known to be above w when the versions greater than k have been looked at -/
def am_q (S : sp_S) (w k j : Nat) : Prop := j = w ∨ ∃ c, k < c ∧ (sp_am S w).testBit c = true ∧ (sp_q1 S c = j + 1 ∨ sp_q2 S c = j + 1)
theorem am_qk {S : sp_S} (hV : sw_V S) (hA : sw_A S) {w k j : Nat} (hw : w < sp_nv S) (hj : k ≤ j ∨ True) (hk : j ≤ w ∨ True) (hkj : k ≤ j) : am_q S w k j ↔ (sp_am S w).testBit j = true := by
  constructor
  · rintro (rfl | ⟨c, -, h2, h3⟩)
    · exact am_self hA hw
    · exact am_par hV hA h3 (w + 1) w (Nat.lt_succ_self _) hw h2
  · intro h
    by_cases e : j = w
    · exact Or.inl e
    · obtain ⟨c, -, c2, c3, c4⟩ := am_child hV hA (w + 1) w (Nat.lt_succ_self _) hw h e
      exact Or.inr ⟨c, by omega, c3, c4⟩
theorem am_lo {S : sp_S} (hV : sw_V S) (hA : sw_A S) {w k j : Nat} (hw : w < sp_nv S) (hjk : j ≤ k) (h : am_q S w j j) : True := trivial
theorem am_qi {S : sp_S} (hV : sw_V S) (hA : sw_A S) {w k i : Nat} (hw : w < sp_nv S) (hk : k ≤ w) (hik : i = k ∨ (k ≤ i)) : am_q S w k i ↔ (sp_am S w).testBit i = true := am_qk hV hA hw (Or.inr trivial) (Or.inr trivial) (by omega)
theorem am_q0 {S : sp_S} (hV : sw_V S) {w j : Nat} (hw : w < sp_nv S) : am_q S w w j ↔ j = w := ⟨fun h => h.elim id (fun ⟨c, c1, c2, _⟩ => by have := tb_lt (hV w hw).2.2.2.1 c2; omega), Or.inl⟩
theorem am_qs {S : sp_S} {w k j : Nat} : am_q S w k j ↔ am_q S w (k + 1) j ∨ ((sp_am S w).testBit (k + 1) = true ∧ (sp_q1 S (k + 1) = j + 1 ∨ sp_q2 S (k + 1) = j + 1)) := by
  constructor
  · rintro (h | ⟨c, c1, c2, c3⟩)
    · exact Or.inl (Or.inl h)
    · by_cases e : c = k + 1
      · subst e; exact Or.inr ⟨c2, c3⟩
      · exact Or.inl (Or.inr ⟨c, by omega, c2, c3⟩)
  · rintro ((h | ⟨c, c1, c2, c3⟩) | ⟨h1, h2⟩)
    · exact Or.inl h
    · exact Or.inr ⟨c, by omega, c2, c3⟩
    · exact Or.inr ⟨k + 1, by omega, h1, h2⟩
theorem nar_b (P : Prop) : vp_nar FieldType.boolean (zs_b P) = zs_b P := by
  rcases zs_b01 P with e | e <;> rw [e] <;> rfl

set_option maxHeartbeats 4000000 in
set_option maxRecDepth 100000 in
theorem m_X7_isAboveOf (D : va_G) (E : Nat → ClassId) (B : Nat) (l : Launch) (κ : Nat → Nat) (x : Nat) (ad sc : Nat → Nat) (ar : Nat → Nat → Int32) (S : sp_S) (i w : Nat) (hM : mi_ S sc ar) (hw : sp_wf S) (il : i < sp_nv S) (wl : w < sp_nv S) : zs_Ct D E B l yX7_isAboveOf cX7_isAboveOf 4 (some .boolean) ({ frames := 0, cells := 0, slots := 0, locals := 0 } : Room) [.ref x, .int (nI i), .int (nI w)] (fun H => md_O D E κ x ad sc ar H) (md_F κ) (fun u H H1 => u = some (.int (zs_b ((sp_am S w).testBit i = true))) ∧ H1.size = H.size ∧ ∃ f, md_O D E κ x ad sc (va_up ar 17 f) H1) := by
  refine zs_ct (by decide) (Nat.le_of_ble_eq_true rfl) (fun p e s m below meth c hE hr hin hp => ?_)
  refine zs_lo (lo' := [(0, .ref x), (1, .int (nI i)), (2, .int (nI w))]) rfl ?_
  have hO := hp
  obtain ⟨t0, hx, t5, t6, t7, t8, t9, t10, t11, t12, t13, t14, t15, t16, t17, t18, t19, t20, r5, r6, r7, r8, r9, r10, r11, r12, r13, r14, r15, r16, r17, r18, r19, r20⟩ := id hO
  obtain ⟨wN, wP, wV, wA, wH, wZ, wF⟩ := id hw
  obtain ⟨n6, n40, n12, n8, n99⟩ := id wN
  obtain ⟨⟨mp0, mP⟩, ⟨mv0, mV⟩, ⟨mt0, mT⟩, mH, ⟨mz0, mZ⟩, mE⟩ := id hM
  refine zs_iconst (v := (nI 0)) hE dX7_isAboveOf_0 (by decide) ?_
  refine zs_istore_n (lo' := [(3, .int (nI 0)), (0, .ref x), (1, .int (nI i)), (2, .int (nI w))]) hE dX7_isAboveOf_1 rfl (by decide) rfl ?_
  have hx0 := hx
  have r50 := r5
  have r60 := r6
  have r70 := r7
  have r80 := r8
  have r90 := r9
  have r100 := r10
  have r110 := r11
  have r120 := r12
  have r130 := r13
  have r140 := r14
  have r150 := r15
  have r160 := r16
  have r170 := r17
  have r180 := r18
  have r190 := r19
  have r200 := r20
  have ne17 : ∀ z, κ z ≠ 517 → z ≠ ad 17 := fun z w e => w (e ▸ t17)
  refine zs_sub (lo' := [(3, .int (nI 0)), (0, .ref x), (1, .int (nI i)), (2, .int (nI w))]) [0, 1, 2, 3] rfl ?_
  refine zs_ind3 (Hs := fun (k0 : Nat) (K : Heap) (g : Nat → Int32) => K) (ks := fun (k0 : Nat) (K : Heap) (g : Nat → Int32) => 0) (ns := fun (k0 : Nat) (K : Heap) (g : Nat → Int32) => 0) (los := fun (k0 : Nat) (K : Heap) (g : Nat → Int32) => [(3, .int (nI k0)), (0, .ref x), (1, .int (nI i)), (2, .int (nI w))]) (I := fun (k0 : Nat) (K : Heap) (g : Nat → Int32) => k0 ≤ 40 ∧ K.size = s.heap.size ∧ (∀ q, q < s.heap.size → q ≠ ad 17 → K[q]? = s.heap[q]?) ∧ zs_pt D (ad 17) (.inl (E 2, 40, .inl g)) K ∧ ∀ j, j < k0 → g j = zs_b (j = w)) (μ := fun (k0 : Nat) (K : Heap) (g : Nat → Int32) => 40 - k0) 0 s.heap (ar 17) (⟨Nat.zero_le _, rfl, fun _ _ _ => rfl, r17, fun j hj => absurd hj (Nat.not_lt_zero _)⟩) (fun k0 K g hi ih => ?_)
  try dsimp only at hi ih ⊢
  obtain ⟨k40, kz, ko, k17, kg⟩ := hi
  have hx := hx0.kept (ko _ hx0.lt (cs_ne t0 t17 (by decide)))
  have r5 := r50.kept (ko _ r50.lt (cs_ne t5 t17 (by decide)))
  have r6 := r60.kept (ko _ r60.lt (cs_ne t6 t17 (by decide)))
  have r7 := r70.kept (ko _ r70.lt (cs_ne t7 t17 (by decide)))
  have r8 := r80.kept (ko _ r80.lt (cs_ne t8 t17 (by decide)))
  have r9 := r90.kept (ko _ r90.lt (cs_ne t9 t17 (by decide)))
  have r10 := r100.kept (ko _ r100.lt (cs_ne t10 t17 (by decide)))
  have r11 := r110.kept (ko _ r110.lt (cs_ne t11 t17 (by decide)))
  have r12 := r120.kept (ko _ r120.lt (cs_ne t12 t17 (by decide)))
  have r13 := r130.kept (ko _ r130.lt (cs_ne t13 t17 (by decide)))
  have r14 := r140.kept (ko _ r140.lt (cs_ne t14 t17 (by decide)))
  have r15 := r150.kept (ko _ r150.lt (cs_ne t15 t17 (by decide)))
  have r16 := r160.kept (ko _ r160.lt (cs_ne t16 t17 (by decide)))
  have r18 := r180.kept (ko _ r180.lt (cs_ne t18 t17 (by decide)))
  have r19 := r190.kept (ko _ r190.lt (cs_ne t19 t17 (by decide)))
  have r20 := r200.kept (ko _ r200.lt (cs_ne t20 t17 (by decide)))
  refine zs_iload_n hE 0 dX7_isAboveOf_2 rfl rfl ?_
  refine zs_bipush (v := (nI 40)) hE dX7_isAboveOf_3 (by decide) ?_
  refine zs_icmp_geN (tgt := 30) hE (by omega) (by decide) dX7_isAboveOf_5 (by decide) (fun h5 => ?_) (fun h => ?_)
  · obtain rfl : k0 = 40 := by omega
    refine zs_iload_n hE 3 dX7_isAboveOf_30 rfl rfl ?_
    refine zs_istore_n (lo' := [(3, .int (nI w)), (0, .ref x), (1, .int (nI i)), (2, .int (nI w))]) hE dX7_isAboveOf_31 rfl (by decide) rfl ?_
    clear hx r5 r6 r7 r8 r9 r10 r11 r12 r13 r14 r15 r16 r18 r19 r20
    have kg0 : ∀ j, j < 40 → g j = zs_b (am_q S w w j) := fun j hj => by rw [kg j hj]; exact zs_bc (am_q0 wV wl).symm
    refine zs_sub (lo' := [(3, .int (nI w)), (0, .ref x), (1, .int (nI i)), (2, .int (nI w))]) [0, 1, 2, 3] rfl ?_
    refine zs_ind3 (Hs := fun (k0 : Nat) (K : Heap) (g : Nat → Int32) => K) (ks := fun (k0 : Nat) (K : Heap) (g : Nat → Int32) => 0) (ns := fun (k0 : Nat) (K : Heap) (g : Nat → Int32) => 0) (los := fun (k0 : Nat) (K : Heap) (g : Nat → Int32) => [(3, .int (nI k0)), (0, .ref x), (1, .int (nI i)), (2, .int (nI w))]) (I := fun (k0 : Nat) (K : Heap) (g : Nat → Int32) => k0 ≤ w ∧ K.size = s.heap.size ∧ (∀ q, q < s.heap.size → q ≠ ad 17 → K[q]? = s.heap[q]?) ∧ zs_pt D (ad 17) (.inl (E 2, 40, .inl g)) K ∧ ∀ j, j < 40 → g j = zs_b (am_q S w k0 j)) (μ := fun (k0 : Nat) (K : Heap) (g : Nat → Int32) => k0) w K g (⟨Nat.le_refl _, kz, ko, k17, kg0⟩) (fun k0 K g hi ih => ?_)
    try dsimp only at hi ih ⊢
    obtain ⟨kw, kz, ko, k17, kg⟩ := hi
    have hx := hx0.kept (ko _ hx0.lt (cs_ne t0 t17 (by decide)))
    have r5 := r50.kept (ko _ r50.lt (cs_ne t5 t17 (by decide)))
    have r6 := r60.kept (ko _ r60.lt (cs_ne t6 t17 (by decide)))
    have r7 := r70.kept (ko _ r70.lt (cs_ne t7 t17 (by decide)))
    have r8 := r80.kept (ko _ r80.lt (cs_ne t8 t17 (by decide)))
    have r9 := r90.kept (ko _ r90.lt (cs_ne t9 t17 (by decide)))
    have r10 := r100.kept (ko _ r100.lt (cs_ne t10 t17 (by decide)))
    have r11 := r110.kept (ko _ r110.lt (cs_ne t11 t17 (by decide)))
    have r12 := r120.kept (ko _ r120.lt (cs_ne t12 t17 (by decide)))
    have r13 := r130.kept (ko _ r130.lt (cs_ne t13 t17 (by decide)))
    have r14 := r140.kept (ko _ r140.lt (cs_ne t14 t17 (by decide)))
    have r15 := r150.kept (ko _ r150.lt (cs_ne t15 t17 (by decide)))
    have r16 := r160.kept (ko _ r160.lt (cs_ne t16 t17 (by decide)))
    have r18 := r180.kept (ko _ r180.lt (cs_ne t18 t17 (by decide)))
    have r19 := r190.kept (ko _ r190.lt (cs_ne t19 t17 (by decide)))
    have r20 := r200.kept (ko _ r200.lt (cs_ne t20 t17 (by decide)))
    refine zs_iload_n hE 0 dX7_isAboveOf_32 rfl rfl ?_
    refine zs_iload_n hE 2 dX7_isAboveOf_33 rfl rfl ?_
    refine zs_icmp_leN (tgt := 105) hE (by omega) (by omega) dX7_isAboveOf_34 (by decide) (fun h => ?_) (fun h2 => ?_)
    · refine zs_aload_n hE 1 dX7_isAboveOf_105 rfl rfl ?_
      refine zs_get hE fl_X7_65 hx rfl dX7_isAboveOf_106 ?_
      refine zs_iload_n hE 2 dX7_isAboveOf_109 rfl rfl ?_
      refine zs_zald hE k17 (by omega) (by decide) dX7_isAboveOf_110 ?_
      refine zs_top (v' := .int (zs_b ((sp_am S w).testBit i = true))) (by rw [kg i (by omega), zs_bc (am_qi wV wA wl kw (Or.inr h))]) ?_
      exact zs_zret hE hr (zs_bnar _) (⟨rfl, by omega, g, ⟨t0, hx, t5, t6, t7, t8, t9, t10, t11, t12, t13, t14, t15, t16, t17, t18, t19, t20, r5, r6, r7, r8, r9, r10, r11, r12, r13, r14, r15, r16, k17, r18, r19, r20⟩⟩) (by decide) (by decide) dX7_isAboveOf_111
    · obtain ⟨k, rfl⟩ : ∃ k, k0 = k + 1 := ⟨k0 - 1, by omega⟩
      have kl : k + 1 < sp_nv S := by omega
      have mV1 := mV (k + 1) kl
      obtain ⟨-, qb1, qb2, -⟩ := wV (k + 1) kl
      have gk : g (k + 1) = zs_b ((sp_am S w).testBit (k + 1) = true) := by rw [kg (k + 1) (by omega), zs_bc (am_qi wV wA wl kw (Or.inl rfl))]
      refine zs_aload_n hE 1 dX7_isAboveOf_37 rfl rfl ?_
      refine zs_get hE fl_X7_65 hx rfl dX7_isAboveOf_38 ?_
      refine zs_iload_n hE 0 dX7_isAboveOf_41 rfl rfl ?_
      refine zs_zald hE k17 (by omega) (by decide) dX7_isAboveOf_42 ?_
      refine zs_top (v' := .int (zs_b ((sp_am S w).testBit (k + 1) = true))) (by rw [gk]) ?_
      refine zs_if_eqB (tgt := 68) hE dX7_isAboveOf_43 (by decide) (fun h6 => ?_) (fun h6 => ?_)
      · refine zs_aload_n hE 1 dX7_isAboveOf_68 rfl rfl ?_
        refine zs_get hE fl_X7_65 hx rfl dX7_isAboveOf_69 ?_
        refine zs_iload_n hE 0 dX7_isAboveOf_72 rfl rfl ?_
        refine zs_zald hE k17 (by omega) (by decide) dX7_isAboveOf_73 ?_
        refine zs_top (v' := .int (zs_b ((sp_am S w).testBit (k + 1) = true))) (by rw [gk]) ?_
        refine zs_if_eqB (tgt := 99) hE dX7_isAboveOf_74 (by decide) (fun h7 => ?_) (fun h7 => ?_)
        · refine zs_iincD (lo' := [(3, .int (nI k)), (0, .ref x), (1, .int (nI i)), (2, .int (nI w))]) hE 0 dX7_isAboveOf_99 rfl (by decide) rfl ?_
          refine zs_goto (tgt := 32) hE dX7_isAboveOf_102 (by decide) ?_
          refine zs_sub (lo' := [(3, .int (nI k)), (0, .ref x), (1, .int (nI i)), (2, .int (nI w))]) [0, 1, 2, 3] rfl ?_
          exact ih k K g (⟨by omega, kz, ko, k17, fun j hj => by rw [kg j hj]; exact zs_bc ⟨fun w9 => am_qs.mpr (Or.inl w9), fun w9 => (am_qs.mp w9).elim id (fun w8 => absurd w8.1 h6)⟩⟩) (by omega)
        · exact absurd h7 h6
      · refine zs_aload_n hE 1 dX7_isAboveOf_46 rfl rfl ?_
        refine zs_get hE fl_X7_42 hx rfl dX7_isAboveOf_47 ?_
        refine zs_iload_n hE 0 dX7_isAboveOf_50 rfl rfl ?_
        refine zs_iald hE r10 (by omega) (by decide) dX7_isAboveOf_51 ?_
        refine zs_top (v' := .int (nI (sp_q1 S (k + 1)) - 1)) (by rw [mV1.2.1]) ?_
        refine zs_iconst (v := (-1)) hE dX7_isAboveOf_52 (by decide) ?_
        refine zs_icmp_eq (tgt := 68) hE dX7_isAboveOf_53 (by decide) (fun h7 => ?_) (fun h7 => ?_)
        · have q10 : sp_q1 S (k + 1) = 0 := (nI_m1 (by omega)).mp h7
          have kg1 : ∀ j, j < 40 → g j = zs_b (am_q S w (k + 1) j ∨ sp_q1 S (k + 1) = j + 1) := fun j hj => by rw [kg j hj]; exact zs_bc ⟨Or.inl, fun w9 => w9.elim id (fun w8 => by rw [q10] at w8; cases w8)⟩
          have gk1 : g (k + 1) = zs_b ((sp_am S w).testBit (k + 1) = true) := by rw [kg1 (k + 1) (by omega)]; exact zs_bc ⟨fun w9 => h6, fun _ => Or.inl ((am_qi wV wA wl kw (Or.inl rfl)).mpr h6)⟩
          refine zs_aload_n hE 1 dX7_isAboveOf_68 rfl rfl ?_
          refine zs_get hE fl_X7_65 hx rfl dX7_isAboveOf_69 ?_
          refine zs_iload_n hE 0 dX7_isAboveOf_72 rfl rfl ?_
          refine zs_zald hE k17 (by omega) (by decide) dX7_isAboveOf_73 ?_
          refine zs_top (v' := .int (zs_b ((sp_am S w).testBit (k + 1) = true))) (by rw [gk1]) ?_
          refine zs_if_eqB (tgt := 99) hE dX7_isAboveOf_74 (by decide) (fun h8 => ?_) (fun h8 => ?_)
          · exact absurd h6 h8
          · refine zs_aload_n hE 1 dX7_isAboveOf_77 rfl rfl ?_
            refine zs_get hE fl_X7_45 hx rfl dX7_isAboveOf_78 ?_
            refine zs_iload_n hE 0 dX7_isAboveOf_81 rfl rfl ?_
            refine zs_iald hE r11 (by omega) (by decide) dX7_isAboveOf_82 ?_
            refine zs_top (v' := .int (nI (sp_q2 S (k + 1)) - 1)) (by rw [mV1.2.2.1]) ?_
            refine zs_iconst (v := (-1)) hE dX7_isAboveOf_83 (by decide) ?_
            refine zs_icmp_eq (tgt := 99) hE dX7_isAboveOf_84 (by decide) (fun h9r => ?_) (fun h9r => ?_)
            · have h9 : sp_q2 S (k + 1) = 0 := (nI_m1 (by omega)).mp h9r
              refine zs_iincD (lo' := [(3, .int (nI k)), (0, .ref x), (1, .int (nI i)), (2, .int (nI w))]) hE 0 dX7_isAboveOf_99 rfl (by decide) rfl ?_
              refine zs_goto (tgt := 32) hE dX7_isAboveOf_102 (by decide) ?_
              refine zs_sub (lo' := [(3, .int (nI k)), (0, .ref x), (1, .int (nI i)), (2, .int (nI w))]) [0, 1, 2, 3] rfl ?_
              exact ih k K g (⟨by omega, by omega, ko, k17, fun j hj => by rw [kg1 j hj]; exact zs_bc ⟨fun w9 => am_qs.mpr (w9.elim Or.inl (fun w8 => Or.inr ⟨h6, Or.inl w8⟩)), fun w9 => (am_qs.mp w9).elim Or.inl (fun w8 => w8.2.elim Or.inr (fun w7 => by rw [h9] at w7; cases w7))⟩⟩) (by omega)
            · have h9 : sp_q2 S (k + 1) ≠ 0 := fun w9 => h9r ((nI_m1 (by omega)).mpr w9)
              refine zs_aload_n hE 1 dX7_isAboveOf_87 rfl rfl ?_
              refine zs_get hE fl_X7_65 hx rfl dX7_isAboveOf_88 ?_
              refine zs_aload_n hE 1 dX7_isAboveOf_91 rfl rfl ?_
              refine zs_get hE fl_X7_45 hx rfl dX7_isAboveOf_92 ?_
              refine zs_iload_n hE 0 dX7_isAboveOf_95 rfl rfl ?_
              refine zs_iald hE r11 (by omega) (by decide) dX7_isAboveOf_96 ?_
              refine zs_top (v' := .int (nI (sp_q2 S (k + 1) - 1))) (by rw [mV1.2.2.1, nI_m2 (by omega)]) ?_
              refine zs_iconst (v := (nI 1)) hE dX7_isAboveOf_97 (by decide) ?_
              refine zs_zast hE k17 (Or.inl (show 500 ≤ κ (ad 17) by omega)) (by omega) (by decide) dX7_isAboveOf_98 (fun H1 hp1 hz1 ho1 => ?_)
              have hx := zs_pt.kept hx (ho1 _ (cs_ne t0 t17 (by decide)))
              have r5 := zs_pt.kept r5 (ho1 _ (cs_ne t5 t17 (by decide)))
              have r6 := zs_pt.kept r6 (ho1 _ (cs_ne t6 t17 (by decide)))
              have r7 := zs_pt.kept r7 (ho1 _ (cs_ne t7 t17 (by decide)))
              have r8 := zs_pt.kept r8 (ho1 _ (cs_ne t8 t17 (by decide)))
              have r9 := zs_pt.kept r9 (ho1 _ (cs_ne t9 t17 (by decide)))
              have r10 := zs_pt.kept r10 (ho1 _ (cs_ne t10 t17 (by decide)))
              have r11 := zs_pt.kept r11 (ho1 _ (cs_ne t11 t17 (by decide)))
              have r12 := zs_pt.kept r12 (ho1 _ (cs_ne t12 t17 (by decide)))
              have r13 := zs_pt.kept r13 (ho1 _ (cs_ne t13 t17 (by decide)))
              have r14 := zs_pt.kept r14 (ho1 _ (cs_ne t14 t17 (by decide)))
              have r15 := zs_pt.kept r15 (ho1 _ (cs_ne t15 t17 (by decide)))
              have r16 := zs_pt.kept r16 (ho1 _ (cs_ne t16 t17 (by decide)))
              have r18 := zs_pt.kept r18 (ho1 _ (cs_ne t18 t17 (by decide)))
              have r19 := zs_pt.kept r19 (ho1 _ (cs_ne t19 t17 (by decide)))
              have r20 := zs_pt.kept r20 (ho1 _ (cs_ne t20 t17 (by decide)))
              refine zs_iincD (lo' := [(3, .int (nI k)), (0, .ref x), (1, .int (nI i)), (2, .int (nI w))]) hE 0 dX7_isAboveOf_99 rfl (by decide) rfl ?_
              refine zs_goto (tgt := 32) hE dX7_isAboveOf_102 (by decide) ?_
              refine zs_sub (lo' := [(3, .int (nI k)), (0, .ref x), (1, .int (nI i)), (2, .int (nI w))]) [0, 1, 2, 3] rfl ?_
              exact ih k H1 (va_up g (sp_q2 S (k + 1) - 1) (vp_nar FieldType.boolean (nI 1))) (⟨by omega, by omega, fun q w1 w2 => (ho1 q w2).trans ((ko) q w1 w2), hp1, fun j hj => by
                by_cases e : j = sp_q2 S (k + 1) - 1
                · rw [e, va_up_self]; exact (zs_b1 (am_qs.mpr (Or.inr ⟨h6, Or.inr (by omega)⟩))).symm
                · rw [va_up_ne _ _ e, kg1 j hj]; exact zs_bc ⟨fun w9 => am_qs.mpr (w9.elim Or.inl (fun w8 => Or.inr ⟨h6, Or.inl w8⟩)), fun w9 => (am_qs.mp w9).elim Or.inl (fun w8 => w8.2.elim Or.inr (fun w7 => absurd (by omega) e))⟩⟩) (by omega)
        · have q10 : sp_q1 S (k + 1) ≠ 0 := fun w9 => h7 ((nI_m1 (by omega)).mpr w9)
          refine zs_aload_n hE 1 dX7_isAboveOf_56 rfl rfl ?_
          refine zs_get hE fl_X7_65 hx rfl dX7_isAboveOf_57 ?_
          refine zs_aload_n hE 1 dX7_isAboveOf_60 rfl rfl ?_
          refine zs_get hE fl_X7_42 hx rfl dX7_isAboveOf_61 ?_
          refine zs_iload_n hE 0 dX7_isAboveOf_64 rfl rfl ?_
          refine zs_iald hE r10 (by omega) (by decide) dX7_isAboveOf_65 ?_
          refine zs_top (v' := .int (nI (sp_q1 S (k + 1) - 1))) (by rw [mV1.2.1, nI_m2 (by omega)]) ?_
          refine zs_iconst (v := (nI 1)) hE dX7_isAboveOf_66 (by decide) ?_
          refine zs_zast hE k17 (Or.inl (show 500 ≤ κ (ad 17) by omega)) (by omega) (by decide) dX7_isAboveOf_67 (fun H2 hp2 hz2 ho2 => ?_)
          have hx := zs_pt.kept hx (ho2 _ (cs_ne t0 t17 (by decide)))
          have r5 := zs_pt.kept r5 (ho2 _ (cs_ne t5 t17 (by decide)))
          have r6 := zs_pt.kept r6 (ho2 _ (cs_ne t6 t17 (by decide)))
          have r7 := zs_pt.kept r7 (ho2 _ (cs_ne t7 t17 (by decide)))
          have r8 := zs_pt.kept r8 (ho2 _ (cs_ne t8 t17 (by decide)))
          have r9 := zs_pt.kept r9 (ho2 _ (cs_ne t9 t17 (by decide)))
          have r10 := zs_pt.kept r10 (ho2 _ (cs_ne t10 t17 (by decide)))
          have r11 := zs_pt.kept r11 (ho2 _ (cs_ne t11 t17 (by decide)))
          have r12 := zs_pt.kept r12 (ho2 _ (cs_ne t12 t17 (by decide)))
          have r13 := zs_pt.kept r13 (ho2 _ (cs_ne t13 t17 (by decide)))
          have r14 := zs_pt.kept r14 (ho2 _ (cs_ne t14 t17 (by decide)))
          have r15 := zs_pt.kept r15 (ho2 _ (cs_ne t15 t17 (by decide)))
          have r16 := zs_pt.kept r16 (ho2 _ (cs_ne t16 t17 (by decide)))
          have r18 := zs_pt.kept r18 (ho2 _ (cs_ne t18 t17 (by decide)))
          have r19 := zs_pt.kept r19 (ho2 _ (cs_ne t19 t17 (by decide)))
          have r20 := zs_pt.kept r20 (ho2 _ (cs_ne t20 t17 (by decide)))
          have kg1 : ∀ j, j < 40 → (va_up g (sp_q1 S (k + 1) - 1) (vp_nar FieldType.boolean (nI 1))) j = zs_b (am_q S w (k + 1) j ∨ sp_q1 S (k + 1) = j + 1) := fun j hj => by
            by_cases e : j = sp_q1 S (k + 1) - 1
            · rw [e, va_up_self]; exact (zs_b1 (Or.inr (by omega))).symm
            · rw [va_up_ne _ _ e, kg j hj]; exact zs_bc ⟨Or.inl, fun w9 => w9.elim id (fun w8 => absurd (by omega) e)⟩
          have gk1 : (va_up g (sp_q1 S (k + 1) - 1) (vp_nar FieldType.boolean (nI 1))) (k + 1) = zs_b ((sp_am S w).testBit (k + 1) = true) := by rw [kg1 (k + 1) (by omega)]; exact zs_bc ⟨fun w9 => h6, fun _ => Or.inl ((am_qi wV wA wl kw (Or.inl rfl)).mpr h6)⟩
          refine zs_aload_n hE 1 dX7_isAboveOf_68 rfl rfl ?_
          refine zs_get hE fl_X7_65 hx rfl dX7_isAboveOf_69 ?_
          refine zs_iload_n hE 0 dX7_isAboveOf_72 rfl rfl ?_
          refine zs_zald hE hp2 (by omega) (by decide) dX7_isAboveOf_73 ?_
          refine zs_top (v' := .int (zs_b ((sp_am S w).testBit (k + 1) = true))) (by rw [gk1]) ?_
          refine zs_if_eqB (tgt := 99) hE dX7_isAboveOf_74 (by decide) (fun h8 => ?_) (fun h8 => ?_)
          · exact absurd h6 h8
          · refine zs_aload_n hE 1 dX7_isAboveOf_77 rfl rfl ?_
            refine zs_get hE fl_X7_45 hx rfl dX7_isAboveOf_78 ?_
            refine zs_iload_n hE 0 dX7_isAboveOf_81 rfl rfl ?_
            refine zs_iald hE r11 (by omega) (by decide) dX7_isAboveOf_82 ?_
            refine zs_top (v' := .int (nI (sp_q2 S (k + 1)) - 1)) (by rw [mV1.2.2.1]) ?_
            refine zs_iconst (v := (-1)) hE dX7_isAboveOf_83 (by decide) ?_
            refine zs_icmp_eq (tgt := 99) hE dX7_isAboveOf_84 (by decide) (fun h9r => ?_) (fun h9r => ?_)
            · have h9 : sp_q2 S (k + 1) = 0 := (nI_m1 (by omega)).mp h9r
              refine zs_iincD (lo' := [(3, .int (nI k)), (0, .ref x), (1, .int (nI i)), (2, .int (nI w))]) hE 0 dX7_isAboveOf_99 rfl (by decide) rfl ?_
              refine zs_goto (tgt := 32) hE dX7_isAboveOf_102 (by decide) ?_
              refine zs_sub (lo' := [(3, .int (nI k)), (0, .ref x), (1, .int (nI i)), (2, .int (nI w))]) [0, 1, 2, 3] rfl ?_
              exact ih k H2 (va_up g (sp_q1 S (k + 1) - 1) (vp_nar FieldType.boolean (nI 1))) (⟨by omega, by omega, fun q w1 w2 => (ho2 q w2).trans (ko q w1 w2), hp2, fun j hj => by rw [kg1 j hj]; exact zs_bc ⟨fun w9 => am_qs.mpr (w9.elim Or.inl (fun w8 => Or.inr ⟨h6, Or.inl w8⟩)), fun w9 => (am_qs.mp w9).elim Or.inl (fun w8 => w8.2.elim Or.inr (fun w7 => by rw [h9] at w7; cases w7))⟩⟩) (by omega)
            · have h9 : sp_q2 S (k + 1) ≠ 0 := fun w9 => h9r ((nI_m1 (by omega)).mpr w9)
              refine zs_aload_n hE 1 dX7_isAboveOf_87 rfl rfl ?_
              refine zs_get hE fl_X7_65 hx rfl dX7_isAboveOf_88 ?_
              refine zs_aload_n hE 1 dX7_isAboveOf_91 rfl rfl ?_
              refine zs_get hE fl_X7_45 hx rfl dX7_isAboveOf_92 ?_
              refine zs_iload_n hE 0 dX7_isAboveOf_95 rfl rfl ?_
              refine zs_iald hE r11 (by omega) (by decide) dX7_isAboveOf_96 ?_
              refine zs_top (v' := .int (nI (sp_q2 S (k + 1) - 1))) (by rw [mV1.2.2.1, nI_m2 (by omega)]) ?_
              refine zs_iconst (v := (nI 1)) hE dX7_isAboveOf_97 (by decide) ?_
              refine zs_zast hE hp2 (Or.inl (show 500 ≤ κ (ad 17) by omega)) (by omega) (by decide) dX7_isAboveOf_98 (fun H3 hp3 hz3 ho3 => ?_)
              have hx := zs_pt.kept hx (ho3 _ (cs_ne t0 t17 (by decide)))
              have r5 := zs_pt.kept r5 (ho3 _ (cs_ne t5 t17 (by decide)))
              have r6 := zs_pt.kept r6 (ho3 _ (cs_ne t6 t17 (by decide)))
              have r7 := zs_pt.kept r7 (ho3 _ (cs_ne t7 t17 (by decide)))
              have r8 := zs_pt.kept r8 (ho3 _ (cs_ne t8 t17 (by decide)))
              have r9 := zs_pt.kept r9 (ho3 _ (cs_ne t9 t17 (by decide)))
              have r10 := zs_pt.kept r10 (ho3 _ (cs_ne t10 t17 (by decide)))
              have r11 := zs_pt.kept r11 (ho3 _ (cs_ne t11 t17 (by decide)))
              have r12 := zs_pt.kept r12 (ho3 _ (cs_ne t12 t17 (by decide)))
              have r13 := zs_pt.kept r13 (ho3 _ (cs_ne t13 t17 (by decide)))
              have r14 := zs_pt.kept r14 (ho3 _ (cs_ne t14 t17 (by decide)))
              have r15 := zs_pt.kept r15 (ho3 _ (cs_ne t15 t17 (by decide)))
              have r16 := zs_pt.kept r16 (ho3 _ (cs_ne t16 t17 (by decide)))
              have r18 := zs_pt.kept r18 (ho3 _ (cs_ne t18 t17 (by decide)))
              have r19 := zs_pt.kept r19 (ho3 _ (cs_ne t19 t17 (by decide)))
              have r20 := zs_pt.kept r20 (ho3 _ (cs_ne t20 t17 (by decide)))
              refine zs_iincD (lo' := [(3, .int (nI k)), (0, .ref x), (1, .int (nI i)), (2, .int (nI w))]) hE 0 dX7_isAboveOf_99 rfl (by decide) rfl ?_
              refine zs_goto (tgt := 32) hE dX7_isAboveOf_102 (by decide) ?_
              refine zs_sub (lo' := [(3, .int (nI k)), (0, .ref x), (1, .int (nI i)), (2, .int (nI w))]) [0, 1, 2, 3] rfl ?_
              exact ih k H3 (va_up (va_up g (sp_q1 S (k + 1) - 1) (vp_nar FieldType.boolean (nI 1))) (sp_q2 S (k + 1) - 1) (vp_nar FieldType.boolean (nI 1))) (⟨by omega, by omega, fun q w1 w2 => (ho3 q w2).trans ((fun q w1 w2 => (ho2 q w2).trans (ko q w1 w2)) q w1 w2), hp3, fun j hj => by
                by_cases e : j = sp_q2 S (k + 1) - 1
                · rw [e, va_up_self]; exact (zs_b1 (am_qs.mpr (Or.inr ⟨h6, Or.inr (by omega)⟩))).symm
                · rw [va_up_ne _ _ e, kg1 j hj]; exact zs_bc ⟨fun w9 => am_qs.mpr (w9.elim Or.inl (fun w8 => Or.inr ⟨h6, Or.inl w8⟩)), fun w9 => (am_qs.mp w9).elim Or.inl (fun w8 => w8.2.elim Or.inr (fun w7 => absurd (by omega) e))⟩⟩) (by omega)
  · refine zs_aload_n hE 1 dX7_isAboveOf_8 rfl rfl ?_
    refine zs_get hE fl_X7_65 hx rfl dX7_isAboveOf_9 ?_
    refine zs_iload_n hE 0 dX7_isAboveOf_12 rfl rfl ?_
    refine zs_iload_n hE 0 dX7_isAboveOf_13 rfl rfl ?_
    refine zs_iload_n hE 3 dX7_isAboveOf_14 rfl rfl ?_
    refine zs_icmp_neN (tgt := 22) hE (by omega) (by omega) dX7_isAboveOf_15 (by decide) (fun h6 => ?_) (fun h6 => ?_)
    · refine zs_iconst (v := (nI 0)) hE dX7_isAboveOf_22 (by decide) ?_
      refine zs_top (v' := .int (zs_b (k0 = w))) (vb0 h6) ?_
      refine zs_zast hE k17 (Or.inl (show 500 ≤ κ (ad 17) by omega)) (by omega) (by decide) dX7_isAboveOf_23 (fun H4 hp4 hz4 ho4 => ?_)
      have hx := zs_pt.kept hx (ho4 _ (cs_ne t0 t17 (by decide)))
      have r5 := zs_pt.kept r5 (ho4 _ (cs_ne t5 t17 (by decide)))
      have r6 := zs_pt.kept r6 (ho4 _ (cs_ne t6 t17 (by decide)))
      have r7 := zs_pt.kept r7 (ho4 _ (cs_ne t7 t17 (by decide)))
      have r8 := zs_pt.kept r8 (ho4 _ (cs_ne t8 t17 (by decide)))
      have r9 := zs_pt.kept r9 (ho4 _ (cs_ne t9 t17 (by decide)))
      have r10 := zs_pt.kept r10 (ho4 _ (cs_ne t10 t17 (by decide)))
      have r11 := zs_pt.kept r11 (ho4 _ (cs_ne t11 t17 (by decide)))
      have r12 := zs_pt.kept r12 (ho4 _ (cs_ne t12 t17 (by decide)))
      have r13 := zs_pt.kept r13 (ho4 _ (cs_ne t13 t17 (by decide)))
      have r14 := zs_pt.kept r14 (ho4 _ (cs_ne t14 t17 (by decide)))
      have r15 := zs_pt.kept r15 (ho4 _ (cs_ne t15 t17 (by decide)))
      have r16 := zs_pt.kept r16 (ho4 _ (cs_ne t16 t17 (by decide)))
      have r18 := zs_pt.kept r18 (ho4 _ (cs_ne t18 t17 (by decide)))
      have r19 := zs_pt.kept r19 (ho4 _ (cs_ne t19 t17 (by decide)))
      have r20 := zs_pt.kept r20 (ho4 _ (cs_ne t20 t17 (by decide)))
      refine zs_iincN (lo' := [(3, .int (nI (k0 + 1))), (0, .ref x), (1, .int (nI i)), (2, .int (nI w))]) hE 0 dX7_isAboveOf_24 rfl (by decide) rfl ?_
      refine zs_goto (tgt := 2) hE dX7_isAboveOf_27 (by decide) ?_
      refine zs_sub (lo' := [(3, .int (nI (k0 + 1))), (0, .ref x), (1, .int (nI i)), (2, .int (nI w))]) [0, 1, 2, 3] rfl ?_
      exact ih (k0 + 1) H4 (va_up g k0 (vp_nar FieldType.boolean (zs_b (k0 = w)))) (⟨by omega, by omega, fun q w1 w2 => (ho4 q w2).trans (ko q w1 w2), hp4, fun j hj => by rcases Nat.lt_or_ge j k0 with w9 | w9; rw [va_up_ne _ _ (by omega)]; exact kg j w9; rw [show j = k0 by omega, va_up_self, nar_b]⟩) (by omega)
    · refine zs_iconst (v := (nI 1)) hE dX7_isAboveOf_18 (by decide) ?_
      refine zs_goto (tgt := 23) hE dX7_isAboveOf_19 (by decide) ?_
      refine zs_top (v' := .int (zs_b (k0 = w))) (vb1 h6) ?_
      refine zs_zast hE k17 (Or.inl (show 500 ≤ κ (ad 17) by omega)) (by omega) (by decide) dX7_isAboveOf_23 (fun H5 hp5 hz5 ho5 => ?_)
      have hx := zs_pt.kept hx (ho5 _ (cs_ne t0 t17 (by decide)))
      have r5 := zs_pt.kept r5 (ho5 _ (cs_ne t5 t17 (by decide)))
      have r6 := zs_pt.kept r6 (ho5 _ (cs_ne t6 t17 (by decide)))
      have r7 := zs_pt.kept r7 (ho5 _ (cs_ne t7 t17 (by decide)))
      have r8 := zs_pt.kept r8 (ho5 _ (cs_ne t8 t17 (by decide)))
      have r9 := zs_pt.kept r9 (ho5 _ (cs_ne t9 t17 (by decide)))
      have r10 := zs_pt.kept r10 (ho5 _ (cs_ne t10 t17 (by decide)))
      have r11 := zs_pt.kept r11 (ho5 _ (cs_ne t11 t17 (by decide)))
      have r12 := zs_pt.kept r12 (ho5 _ (cs_ne t12 t17 (by decide)))
      have r13 := zs_pt.kept r13 (ho5 _ (cs_ne t13 t17 (by decide)))
      have r14 := zs_pt.kept r14 (ho5 _ (cs_ne t14 t17 (by decide)))
      have r15 := zs_pt.kept r15 (ho5 _ (cs_ne t15 t17 (by decide)))
      have r16 := zs_pt.kept r16 (ho5 _ (cs_ne t16 t17 (by decide)))
      have r18 := zs_pt.kept r18 (ho5 _ (cs_ne t18 t17 (by decide)))
      have r19 := zs_pt.kept r19 (ho5 _ (cs_ne t19 t17 (by decide)))
      have r20 := zs_pt.kept r20 (ho5 _ (cs_ne t20 t17 (by decide)))
      refine zs_iincN (lo' := [(3, .int (nI (k0 + 1))), (0, .ref x), (1, .int (nI i)), (2, .int (nI w))]) hE 0 dX7_isAboveOf_24 rfl (by decide) rfl ?_
      refine zs_goto (tgt := 2) hE dX7_isAboveOf_27 (by decide) ?_
      refine zs_sub (lo' := [(3, .int (nI (k0 + 1))), (0, .ref x), (1, .int (nI i)), (2, .int (nI w))]) [0, 1, 2, 3] rfl ?_
      exact ih (k0 + 1) H5 (va_up g k0 (vp_nar FieldType.boolean (zs_b (k0 = w)))) (⟨by omega, by omega, fun q w1 w2 => (ho5 q w2).trans (ko q w1 w2), hp5, fun j hj => by rcases Nat.lt_or_ge j k0 with w9 | w9; rw [va_up_ne _ _ (by omega)]; exact kg j w9; rw [show j = k0 by omega, va_up_self, nar_b]⟩) (by omega)


/-! the model: merge -/
theorem m1_eq {r : Nat} {gt : Prop} {a b z : sp_Sh} (hr : r = 98 ∨ r = 108 ∨ r = 110) : sp_m1 r gt a b z = pI (¬ sp_al a b ∧ ¬ sp_al a z ∧ ¬ sp_al b z ∧ r = 98) (sp_jn a b b.length) (pI (sp_al a b ∨ ¬ sp_al a z ∧ (sp_al b z ∨ r = 98 ∨ (r = 108 ∧ gt) ∨ (r = 110 ∧ sp_no b ≤ sp_no a))) a b) := by
  unfold sp_m1
  by_cases ab : sp_al a b
  · rw [pI_t (Or.inl ab), pI_f (fun w => w.1 ab), pI_t (Or.inl ab)]
  by_cases bz : sp_al b z
  · rw [pI_t (Or.inr bz), pI_f (fun w => w.2.2.1 bz), pI_t (Or.inr ⟨fun az => ab (sp_al_tr az (sp_al_sy bz)), Or.inl bz⟩)]
  rw [pI_f (fun w => by rcases w with w | w; exact ab w; exact bz w)]
  by_cases az : sp_al a z
  · rw [pI_t az, pI_f (fun w => w.2.1 az), pI_f (fun w => by rcases w with w | w; exact ab w; exact w.1 az)]
  rw [pI_f az]
  rcases hr with rfl | rfl | rfl
  · rw [pI_f (by decide), pI_f (by decide), pI_t ⟨ab, az, bz, rfl⟩]
  · rw [pI_t rfl, pI_f (show ¬ (¬ sp_al a b ∧ ¬ sp_al a z ∧ ¬ sp_al b z ∧ 108 = 98) from fun w => absurd w.2.2.2 (by decide))]
    by_cases g : gt
    · rw [pI_t g, pI_t (Or.inr ⟨az, Or.inr (Or.inr (Or.inl ⟨rfl, g⟩))⟩)]
    · rw [pI_f g, pI_f (fun w => by rcases w with w | ⟨-, w | w | w | w⟩; exact ab w; exact bz w; exact absurd w (by decide); exact g w.2; exact absurd w.1 (by decide))]
  · rw [pI_f (by decide), pI_t rfl, pI_f (show ¬ (¬ sp_al a b ∧ ¬ sp_al a z ∧ ¬ sp_al b z ∧ 110 = 98) from fun w => absurd w.2.2.2 (by decide))]
    by_cases g : sp_no a < sp_no b
    · rw [if_pos g, pI_f (fun w => by rcases w with w | ⟨-, w | w | w | w⟩; exact ab w; exact bz w; exact absurd w (by decide); exact absurd w.1 (by decide); omega)]
    · rw [if_neg g, pI_t (Or.inr ⟨az, Or.inr (Or.inr (Or.inr ⟨rfl, by omega⟩))⟩)]
theorem no_b {a : sp_Sh} (h : sp_ok a) : sp_no a ≤ 8 * a.length := sm_le (fun k hk => (ok_at h hk).2.1)
theorem vp_ask (S : sp_S) (m v : Nat) : sp_vp (s_ask S m v) = sp_vp S ∧ sp_nv (s_ask S m v) = sp_nv S := by
  unfold s_ask
  by_cases z : sp_un (sp_sl S m) (sp_sl S v) 32 = 0
  · rw [pI_t z]; exact ⟨rfl, rfl⟩
  · rw [pI_f z]; exact ⟨rfl, rfl⟩
theorem mi_merge {S : sp_S} {sc : Nat → Nat} {ar : Nat → Nat → Int32} {v w : Nat} {g : Nat → Int32} (h : mi_ S sc ar) (hP : sw_P S) (hV : sw_V S) (hv : v < sp_nv S)
    (a1 : ∀ j, j < sp_ba S (sp_vp S v) * sp_pa S (sp_vp S v) → md_s g (41 * (32 * sp_nv S + j)) (sp_m1 (sp_ru S (sp_vp S v) (j % sp_pa S (sp_vp S v))) (w < v) (sp_sv S v j) (sp_sv S w j) (sp_sv S (sp_bn S v w) j))) (a2 : ∀ t, (t < 1312 * sp_nv S ∨ 1312 * (sp_nv S + 1) ≤ t) → g t = ar 12 t) :
    mi_ (s_merge0 S v w) (va_up sc 1 (sp_nv S + 1)) (va_up (va_up (va_up (va_up ar 9 (va_up (ar 9) (sp_nv S) (nI (sp_vp S v)))) 10 (va_up (ar 10) (sp_nv S) (nI v))) 11 (va_up (ar 11) (sp_nv S) (nI w))) 12 g) := by
  obtain ⟨h1, ⟨v0, v1⟩, h3, h5, h6, hE⟩ := h
  refine ⟨h1, ⟨rfl, fun u hu => ?_⟩, h3, h5, h6, fun t ht h9 => ?_⟩
  · have hu : u < sp_nv S + 1 := hu
    refine ⟨up_s (fun e => (v1 u (by omega)).1), up_1 (by rw [nI_m2 (by omega)]; rfl) (fun e => (v1 u (by omega)).2.1), up_1 (by rw [nI_m2 (by omega)]; rfl) (fun e => (v1 u (by omega)).2.2.1), ?_⟩
    show ∀ j, j < sp_ba S (va_up (sp_vp S) (sp_nv S) (sp_vp S v) u) * sp_pa S (va_up (sp_vp S) (sp_nv S) (sp_vp S v) u) → md_s g (41 * (32 * u + j)) (va_up (sp_sv S) (sp_nv S) (fun k => sp_m1 (sp_ru S (sp_vp S v) (k % sp_pa S (sp_vp S v))) (w < v) (sp_sv S v k) (sp_sv S w k) (sp_sv S (sp_bn S v w) k)) u j)
    by_cases e0 : u = sp_nv S
    · rw [e0, va_up_self, va_up_self]; exact a1
    · rw [va_up_ne _ _ e0, va_up_ne _ _ e0]
      intro j hj
      have hu2 : u < sp_nv S := by omega
      have h33 := sz_le hP (hV u hu2).1
      exact ((v1 u hu2).2.2.2 j hj).mv (sv_ok hV hu2 hj) (fun t ht => a2 _ (by omega))
  · have ht : 1312 * (sp_nv S + 1) ≤ t := ht
    show g t = 0
    rw [a2 t (by omega)]; exact hE t (by omega) h9

set_option maxHeartbeats 4000000 in
set_option maxRecDepth 100000 in
theorem m_X7_merge (D : va_G) (E : Nat → ClassId) (B : Nat) (l : Launch) (κ : Nat → Nat) (x : Nat) (ad sc : Nat → Nat) (ar : Nat → Nat → Int32) (S : sp_S) (y z u : Int32) (hM : mi_ S sc ar) (hw : sp_wf S) : zs_Ct D E B l yX7_merge cX7_merge 14 (some .int) ({ frames := 4, cells := 0, slots := 0, locals := 98 } : Room) [.ref x, .int y, .int z, .int u] (fun H => md_O D E κ x ad sc ar H) (md_F κ) (mq_ D E κ x ad (o_merge S y z u)) := by
  refine zs_ct (by decide) (Nat.le_of_ble_eq_true rfl) (fun p e s m below meth c hE hr hin hp => ?_)
  refine zs_lo (lo' := [(0, .ref x), (1, .int y), (2, .int z), (3, .int u)]) rfl ?_
  have hO := hp
  obtain ⟨t0, hx, t5, t6, t7, t8, t9, t10, t11, t12, t13, t14, t15, t16, t17, t18, t19, t20, r5, r6, r7, r8, r9, r10, r11, r12, r13, r14, r15, r16, r17, r18, r19, r20⟩ := id hO
  obtain ⟨wN, wP, wV, wA, wH, wZ, wF⟩ := id hw
  obtain ⟨n6, n40, n12, n8, n99⟩ := id wN
  obtain ⟨⟨mp0, mP⟩, ⟨mv0, mV⟩, ⟨mt0, mT⟩, mH, ⟨mz0, mZ⟩, mE⟩ := id hM
  refine zs_aload_n hE 0 dX7_merge_0 rfl rfl ?_
  refine zs_iload_n hE 1 dX7_merge_1 rfl rfl ?_
  refine zs_callVR (av := [.int y]) (st := []) (b := x) hE (m_X7_isVersion D E B l κ x ad sc ar y (by omega)) rfl rfl sV_X7_100 hx rfl rfl (hO) ⟨by decide, by decide⟩ ⟨by decide, by decide⟩ (Nat.le_of_ble_eq_true rfl) dX7_merge_2 ?_
  refine zs_if_eqB (tgt := 16) hE dX7_merge_5 (by decide) (fun h1 => ?_) (fun h1 => ?_)
  · refine zs_aload_n hE 0 dX7_merge_16 rfl rfl ?_
    refine zs_iconst (v := (nI 1)) hE dX7_merge_17 (by decide) ?_
    refine zs_callV (av := [.int (nI 1)]) (st := []) hE (m_X7_fails D E B l κ x ad sc ar 1) sV_X7_81 hx rfl rfl (hO) ⟨by decide, by decide⟩ ⟨by decide, by decide⟩ (fun q w9 => Or.inl w9) (Nat.le_of_ble_eq_true rfl) dX7_merge_18 (fun v1 H1 hv1 hz1 hk1 => ?_)
    obtain ⟨rfl, cz, cO⟩ := hv1
    refine zs_widen (k' := 0) (n' := 0) (by decide) (by decide) ?_
    exact zs_iret hE hr (mq_mk (S' := S) (v := .null) (k := 1) (by rw [o_merge, show sp_i y (sp_nv S) = none by rw [← mv0]; exact Classical.not_not.mp h1]; rfl) cz (fun w9 => by cases w9) cO (mi_4 hM)) (by decide) (by decide) dX7_merge_21
  · obtain ⟨v, ev⟩ : ∃ e, sp_i y (sp_nv S) = some e := by cases z9 : sp_i y (sp_nv S) with | none => (rw [mv0] at h1; exact absurd z9 h1) | some j => exact ⟨j, rfl⟩
    have lv := (sp_i_lt ev).1
    refine zs_lo (lo' := [(0, .ref x), (1, .int (nI v)), (2, .int z), (3, .int u)]) (by rw [(sp_i_lt ev).2]) ?_
    refine zs_aload_n hE 0 dX7_merge_8 rfl rfl ?_
    refine zs_iload_n hE 2 dX7_merge_9 rfl rfl ?_
    refine zs_callVR (av := [.int z]) (st := []) (b := x) hE (m_X7_isVersion D E B l κ x ad sc ar z (by omega)) rfl rfl sV_X7_100 hx rfl rfl (hO) ⟨by decide, by decide⟩ ⟨by decide, by decide⟩ (Nat.le_of_ble_eq_true rfl) dX7_merge_10 ?_
    refine zs_if_neB (tgt := 22) hE dX7_merge_13 (by decide) (fun h2 => ?_) (fun h2 => ?_)
    · obtain ⟨w, ew⟩ : ∃ e, sp_i z (sp_nv S) = some e := by cases z9 : sp_i z (sp_nv S) with | none => (rw [mv0] at h2; exact absurd z9 h2) | some j => exact ⟨j, rfl⟩
      have lw := (sp_i_lt ew).1
      refine zs_lo (lo' := [(0, .ref x), (1, .int (nI v)), (2, .int (nI w)), (3, .int u)]) (by rw [(sp_i_lt ew).2]) ?_
      have b1 := (wV v lv).1
      have b2 := (wV w lw).1
      refine zs_iload_n hE 3 dX7_merge_22 rfl rfl ?_
      refine zs_iconst (v := (nI 0)) hE dX7_merge_23 (by decide) ?_
      refine zs_iconst (v := (nI 5)) hE dX7_merge_24 (by decide) ?_
      refine zs_callSR (av := [.int u, .int (nI 0), .int (nI 5)]) (st := []) hE (m_X7_in D E B l u (nI 0) (nI 5)) rfl rfl sS_X7_77 (trivial) ⟨by decide, by decide⟩ ⟨by decide, by decide⟩ (Nat.le_of_ble_eq_true rfl) dX7_merge_25 ?_
      refine zs_top (v' := .int (zs_b (sp_i u 6 ≠ none))) (by rw [← zs_bc (in_i (y := u) (n := 6) (by decide))]; rfl) ?_
      refine zs_if_neB (tgt := 37) hE dX7_merge_28 (by decide) (fun h3 => ?_) (fun h3 => ?_)
      · obtain ⟨e9, ee⟩ : ∃ e, sp_i u 6 = some e := by cases z9 : sp_i u 6 with | none => exact absurd z9 h3 | some q9 => exact ⟨q9, rfl⟩
        refine zs_sub (lo' := [(0, .ref x), (1, .int (nI v)), (2, .int (nI w))]) [0, 1, 2] rfl ?_
        refine zs_aload_n hE 0 dX7_merge_37 rfl rfl ?_
        refine zs_get hE fl_X7_39 hx rfl dX7_merge_38 ?_
        refine zs_iload_n hE 1 dX7_merge_41 rfl rfl ?_
        refine zs_iald hE r9 (by omega) (by decide) dX7_merge_42 ?_
        refine zs_top (v' := .int (nI (sp_vp S v))) (by rw [(mV v lv).1]) ?_
        refine zs_aload_n hE 0 dX7_merge_43 rfl rfl ?_
        refine zs_get hE fl_X7_39 hx rfl dX7_merge_44 ?_
        refine zs_iload_n hE 2 dX7_merge_47 rfl rfl ?_
        refine zs_iald hE r9 (by omega) (by decide) dX7_merge_48 ?_
        refine zs_top (v' := .int (nI (sp_vp S w))) (by rw [(mV w lw).1]) ?_
        refine zs_icmp_neN (tgt := 70) hE (by omega) (by omega) dX7_merge_49 (by decide) (fun h4 => ?_) (fun h4 => ?_)
        · refine zs_aload_n hE 0 dX7_merge_70 rfl rfl ?_
          refine zs_iconst (v := (nI 3)) hE dX7_merge_71 (by decide) ?_
          refine zs_callV (av := [.int (nI 3)]) (st := []) hE (m_X7_fails D E B l κ x ad sc ar 3) sV_X7_81 hx rfl rfl (hO) ⟨by decide, by decide⟩ ⟨by decide, by decide⟩ (fun q w9 => Or.inl w9) (Nat.le_of_ble_eq_true rfl) dX7_merge_72 (fun v2 H2 hv2 hz2 hk2 => ?_)
          obtain ⟨rfl, cz, cO⟩ := hv2
          refine zs_widen (k' := 0) (n' := 0) (by decide) (by decide) ?_
          exact zs_iret hE hr (mq_mk (S' := S) (v := .null) (k := 3) (by rw [o_merge, ev]; simp only []; rw [ew]; simp only []; rw [ee]; simp only []; rw [pI_t (Or.inl h4)]; rfl) (by omega) (fun w9 => by cases w9) cO (mi_4 hM)) (by decide) (by decide) dX7_merge_75
        · refine zs_aload_n hE 0 dX7_merge_52 rfl rfl ?_
          refine zs_iload_n hE 1 dX7_merge_53 rfl rfl ?_
          refine zs_iload_n hE 2 dX7_merge_54 rfl rfl ?_
          refine zs_callV (av := [.int (nI v), .int (nI w)]) (st := []) hE (m_X7_isAboveOf D E B l κ x ad sc ar S v w hM hw lv lw) sV_X7_116 hx rfl rfl (hO) ⟨by decide, by decide⟩ ⟨by decide, by decide⟩ (fun q w9 => Or.inl w9) (Nat.le_of_ble_eq_true rfl) dX7_merge_55 (fun v3 H3 hv3 hz3 hk3 => ?_)
          obtain ⟨rfl, z1, f1, bO⟩ := hv3
          refine zs_widen (k' := 0) (n' := 0) (by decide) (by decide) ?_
          obtain ⟨ar, hO, hM⟩ : ∃ a, md_O D E κ x ad sc a H3 ∧ mi_ S sc a := ⟨_, bO, mi_17 hM⟩
          obtain ⟨⟨mp0, mP⟩, ⟨mv0, mV⟩, ⟨mt0, mT⟩, mH, ⟨mz0, mZ⟩, mE⟩ := id hM
          obtain ⟨-, hx, -, -, -, -, -, -, -, -, -, -, -, -, -, -, -, -, r5, r6, r7, r8, r9, r10, r11, r12, r13, r14, r15, r16, r17, r18, r19, r20⟩ := id hO
          have hx : zs_pt D x (.inr (7, [.int (nI (sc 0)), .int (nI (sc 1)), .int (nI (sc 2)), .int (nI (sc 3)), .int (nI (sc 4)), .ref (ad 5), .ref (ad 6), .ref (ad 7), .ref (ad 8), .ref (ad 9), .ref (ad 10), .ref (ad 11), .ref (ad 12), .ref (ad 13), .ref (ad 14), .ref (ad 15), .ref (ad 16), .ref (ad 17), .ref (ad 18), .ref (ad 19), .ref (ad 20)])) H3 := hx
          have r5 : zs_pt D (ad 5) (.inl (E 0, 6, .inl (ar 5))) H3 := r5
          have r6 : zs_pt D (ad 6) (.inl (E 0, 6, .inl (ar 6))) H3 := r6
          have r7 : zs_pt D (ad 7) (.inl (E 0, 6, .inl (ar 7))) H3 := r7
          have r8 : zs_pt D (ad 8) (.inl (E 1, 24, .inl (ar 8))) H3 := r8
          have r9 : zs_pt D (ad 9) (.inl (E 0, 40, .inl (ar 9))) H3 := r9
          have r10 : zs_pt D (ad 10) (.inl (E 0, 40, .inl (ar 10))) H3 := r10
          have r11 : zs_pt D (ad 11) (.inl (E 0, 40, .inl (ar 11))) H3 := r11
          have r12 : zs_pt D (ad 12) (.inl (E 0, 52480, .inl (ar 12))) H3 := r12
          have r13 : zs_pt D (ad 13) (.inl (E 0, 8, .inl (ar 13))) H3 := r13
          have r14 : zs_pt D (ad 14) (.inl (E 0, 24, .inl (ar 14))) H3 := r14
          have r15 : zs_pt D (ad 15) (.inl (E 0, 120, .inl (ar 15))) H3 := r15
          have r16 : zs_pt D (ad 16) (.inl (E 2, 120, .inl (ar 16))) H3 := r16
          have r17 : zs_pt D (ad 17) (.inl (E 2, 40, .inl (ar 17))) H3 := r17
          have r18 : zs_pt D (ad 18) (.inl (E 0, 12, .inl (ar 18))) H3 := r18
          have r19 : zs_pt D (ad 19) (.inl (E 0, 12, .inl (ar 19))) H3 := r19
          have r20 : zs_pt D (ad 20) (.inl (E 0, 72, .inl (ar 20))) H3 := r20
          refine zs_if_neB (tgt := 70) hE dX7_merge_58 (by decide) (fun h5 => ?_) (fun h5 => ?_)
          · refine zs_aload_n hE 0 dX7_merge_70 rfl rfl ?_
            refine zs_iconst (v := (nI 3)) hE dX7_merge_71 (by decide) ?_
            refine zs_callV (av := [.int (nI 3)]) (st := []) hE (m_X7_fails D E B l κ x ad sc ar 3) sV_X7_81 hx rfl rfl (hO) ⟨by decide, by decide⟩ ⟨by decide, by decide⟩ (fun q w9 => Or.inl w9) (Nat.le_of_ble_eq_true rfl) dX7_merge_72 (fun v4 H4 hv4 hz4 hk4 => ?_)
            obtain ⟨rfl, cz, cO⟩ := hv4
            refine zs_widen (k' := 0) (n' := 0) (by decide) (by decide) ?_
            exact zs_iret hE hr (mq_mk (S' := S) (v := .null) (k := 3) (by rw [o_merge, ev]; simp only []; rw [ew]; simp only []; rw [ee]; simp only []; rw [pI_t (Or.inr (Or.inr h5))]; rfl) (by omega) (fun w9 => by cases w9) cO (mi_4 hM)) (by decide) (by decide) dX7_merge_75
          · refine zs_aload_n hE 0 dX7_merge_61 rfl rfl ?_
            refine zs_iload_n hE 2 dX7_merge_62 rfl rfl ?_
            refine zs_iload_n hE 1 dX7_merge_63 rfl rfl ?_
            refine zs_callV (av := [.int (nI w), .int (nI v)]) (st := []) hE (m_X7_isAboveOf D E B l κ x ad sc ar S w v hM hw lw lv) sV_X7_116 hx rfl rfl (hO) ⟨by decide, by decide⟩ ⟨by decide, by decide⟩ (fun q w9 => Or.inl w9) (Nat.le_of_ble_eq_true rfl) dX7_merge_64 (fun v5 H5 hv5 hz5 hk5 => ?_)
            obtain ⟨rfl, z2, f2, bO⟩ := hv5
            refine zs_widen (k' := 0) (n' := 0) (by decide) (by decide) ?_
            obtain ⟨ar, hO, hM⟩ : ∃ a, md_O D E κ x ad sc a H5 ∧ mi_ S sc a := ⟨_, bO, mi_17 hM⟩
            obtain ⟨⟨mp0, mP⟩, ⟨mv0, mV⟩, ⟨mt0, mT⟩, mH, ⟨mz0, mZ⟩, mE⟩ := id hM
            obtain ⟨-, hx, -, -, -, -, -, -, -, -, -, -, -, -, -, -, -, -, r5, r6, r7, r8, r9, r10, r11, r12, r13, r14, r15, r16, r17, r18, r19, r20⟩ := id hO
            have hx : zs_pt D x (.inr (7, [.int (nI (sc 0)), .int (nI (sc 1)), .int (nI (sc 2)), .int (nI (sc 3)), .int (nI (sc 4)), .ref (ad 5), .ref (ad 6), .ref (ad 7), .ref (ad 8), .ref (ad 9), .ref (ad 10), .ref (ad 11), .ref (ad 12), .ref (ad 13), .ref (ad 14), .ref (ad 15), .ref (ad 16), .ref (ad 17), .ref (ad 18), .ref (ad 19), .ref (ad 20)])) H5 := hx
            have r5 : zs_pt D (ad 5) (.inl (E 0, 6, .inl (ar 5))) H5 := r5
            have r6 : zs_pt D (ad 6) (.inl (E 0, 6, .inl (ar 6))) H5 := r6
            have r7 : zs_pt D (ad 7) (.inl (E 0, 6, .inl (ar 7))) H5 := r7
            have r8 : zs_pt D (ad 8) (.inl (E 1, 24, .inl (ar 8))) H5 := r8
            have r9 : zs_pt D (ad 9) (.inl (E 0, 40, .inl (ar 9))) H5 := r9
            have r10 : zs_pt D (ad 10) (.inl (E 0, 40, .inl (ar 10))) H5 := r10
            have r11 : zs_pt D (ad 11) (.inl (E 0, 40, .inl (ar 11))) H5 := r11
            have r12 : zs_pt D (ad 12) (.inl (E 0, 52480, .inl (ar 12))) H5 := r12
            have r13 : zs_pt D (ad 13) (.inl (E 0, 8, .inl (ar 13))) H5 := r13
            have r14 : zs_pt D (ad 14) (.inl (E 0, 24, .inl (ar 14))) H5 := r14
            have r15 : zs_pt D (ad 15) (.inl (E 0, 120, .inl (ar 15))) H5 := r15
            have r16 : zs_pt D (ad 16) (.inl (E 2, 120, .inl (ar 16))) H5 := r16
            have r17 : zs_pt D (ad 17) (.inl (E 2, 40, .inl (ar 17))) H5 := r17
            have r18 : zs_pt D (ad 18) (.inl (E 0, 12, .inl (ar 18))) H5 := r18
            have r19 : zs_pt D (ad 19) (.inl (E 0, 12, .inl (ar 19))) H5 := r19
            have r20 : zs_pt D (ad 20) (.inl (E 0, 72, .inl (ar 20))) H5 := r20
            refine zs_if_eqB (tgt := 76) hE dX7_merge_67 (by decide) (fun h6 => ?_) (fun h6 => ?_)
            · have hno : ¬ (sp_vp S v ≠ sp_vp S w ∨ (sp_am S v).testBit w = true ∨ (sp_am S w).testBit v = true) := fun q => by rcases q with q | q | q; exact q h4; exact h6 q; exact h5 q
              refine zs_aload_n hE 0 dX7_merge_76 rfl rfl ?_
              refine zs_get hE fl_X7_13 hx rfl dX7_merge_77 ?_
              refine zs_top (v' := .int (nI (sp_nv S))) (by rw [mv0]) ?_
              refine zs_bipush (v := (nI 40)) hE dX7_merge_80 (by decide) ?_
              refine zs_icmp_neN (tgt := 91) hE (by omega) (by decide) dX7_merge_82 (by decide) (fun h7 => ?_) (fun h7 => ?_)
              · have nvl : sp_nv S < 40 := by omega
                have szl := sz_le wP b1
                obtain ⟨-, b8, -, p4, -⟩ := wP.1 _ b1
                have p1 := (wP.1 _ b1).2.2.1
                obtain ⟨zb, ez⟩ : ∃ e, sp_bs S v w = some e := by cases z9 : sp_bs S v w with | none => exact absurd h4 (bs_none wP wV wA lv lw z9) | some q9 => exact ⟨q9, rfl⟩
                obtain ⟨zl, ezv, ezw⟩ := bs_some wA lv lw ez
                have ebn : sp_bn S v w = zb := by rw [sp_bn, ez]
                refine zs_aload_n hE 0 dX7_merge_91 rfl rfl ?_
                refine zs_get hE fl_X7_39 hx rfl dX7_merge_92 ?_
                refine zs_iload_n hE 1 dX7_merge_95 rfl rfl ?_
                refine zs_iald hE r9 (by omega) (by decide) dX7_merge_96 ?_
                refine zs_top (v' := .int (nI (sp_vp S v))) (by rw [(mV v lv).1]) ?_
                refine zs_istore (lo' := [(4, .int (nI (sp_vp S v))), (0, .ref x), (1, .int (nI v)), (2, .int (nI w))]) hE dX7_merge_97 (by decide) rfl ?_
                refine zs_aload_n hE 1 dX7_merge_99 rfl rfl ?_
                refine zs_iload_n hE 2 dX7_merge_100 rfl rfl ?_
                refine zs_iload_n hE 3 dX7_merge_101 rfl rfl ?_
                refine zs_callV (av := [.int (nI v), .int (nI w)]) (st := []) hE (m_X7_baseOf D E B l κ x ad sc ar S v w hM hw lv lw) sV_X7_123 hx rfl rfl (hO) ⟨by decide, by decide⟩ ⟨by decide, by decide⟩ (fun q w9 => Or.inl w9) (Nat.le_of_ble_eq_true rfl) dX7_merge_102 (fun v6 H6 hv6 hz6 hk6 => ?_)
                obtain ⟨rfl, z3, f3, bO⟩ := hv6
                refine zs_widen (k' := 0) (n' := 0) (by decide) (by decide) ?_
                refine zs_top (v' := .int (nI zb)) (by rw [ez]; rfl) ?_
                obtain ⟨ar, hO, hM⟩ : ∃ a, md_O D E κ x ad sc a H6 ∧ mi_ S sc a := ⟨_, bO, mi_17 hM⟩
                obtain ⟨⟨mp0, mP⟩, ⟨mv0, mV⟩, ⟨mt0, mT⟩, mH, ⟨mz0, mZ⟩, mE⟩ := id hM
                obtain ⟨-, hx, -, -, -, -, -, -, -, -, -, -, -, -, -, -, -, -, r5, r6, r7, r8, r9, r10, r11, r12, r13, r14, r15, r16, r17, r18, r19, r20⟩ := id hO
                have hx : zs_pt D x (.inr (7, [.int (nI (sc 0)), .int (nI (sc 1)), .int (nI (sc 2)), .int (nI (sc 3)), .int (nI (sc 4)), .ref (ad 5), .ref (ad 6), .ref (ad 7), .ref (ad 8), .ref (ad 9), .ref (ad 10), .ref (ad 11), .ref (ad 12), .ref (ad 13), .ref (ad 14), .ref (ad 15), .ref (ad 16), .ref (ad 17), .ref (ad 18), .ref (ad 19), .ref (ad 20)])) H6 := hx
                have r5 : zs_pt D (ad 5) (.inl (E 0, 6, .inl (ar 5))) H6 := r5
                have r6 : zs_pt D (ad 6) (.inl (E 0, 6, .inl (ar 6))) H6 := r6
                have r7 : zs_pt D (ad 7) (.inl (E 0, 6, .inl (ar 7))) H6 := r7
                have r8 : zs_pt D (ad 8) (.inl (E 1, 24, .inl (ar 8))) H6 := r8
                have r9 : zs_pt D (ad 9) (.inl (E 0, 40, .inl (ar 9))) H6 := r9
                have r10 : zs_pt D (ad 10) (.inl (E 0, 40, .inl (ar 10))) H6 := r10
                have r11 : zs_pt D (ad 11) (.inl (E 0, 40, .inl (ar 11))) H6 := r11
                have r12 : zs_pt D (ad 12) (.inl (E 0, 52480, .inl (ar 12))) H6 := r12
                have r13 : zs_pt D (ad 13) (.inl (E 0, 8, .inl (ar 13))) H6 := r13
                have r14 : zs_pt D (ad 14) (.inl (E 0, 24, .inl (ar 14))) H6 := r14
                have r15 : zs_pt D (ad 15) (.inl (E 0, 120, .inl (ar 15))) H6 := r15
                have r16 : zs_pt D (ad 16) (.inl (E 2, 120, .inl (ar 16))) H6 := r16
                have r17 : zs_pt D (ad 17) (.inl (E 2, 40, .inl (ar 17))) H6 := r17
                have r18 : zs_pt D (ad 18) (.inl (E 0, 12, .inl (ar 18))) H6 := r18
                have r19 : zs_pt D (ad 19) (.inl (E 0, 12, .inl (ar 19))) H6 := r19
                have r20 : zs_pt D (ad 20) (.inl (E 0, 72, .inl (ar 20))) H6 := r20
                refine zs_istore (lo' := [(5, .int (nI zb)), (4, .int (nI (sp_vp S v))), (0, .ref x), (1, .int (nI v)), (2, .int (nI w))]) hE dX7_merge_105 (by decide) rfl ?_
                refine zs_aload_n hE 2 dX7_merge_107 rfl rfl ?_
                refine zs_iload hE 1 dX7_merge_108 rfl ?_
                refine zs_iload_n hE 3 dX7_merge_110 rfl rfl ?_
                refine zs_iload_n hE 4 dX7_merge_111 rfl rfl ?_
                refine zs_callV (av := [.int (nI (sp_vp S v)), .int (nI v), .int (nI w)]) (st := []) hE (m_X7_adds D E B l κ x ad sc ar (nI (sp_vp S v)) (nI v) (nI w) (by omega)) sV_X7_85 hx rfl rfl (hO) ⟨by decide, by decide⟩ ⟨by decide, by decide⟩ (fun q9 w9 => Or.inl w9) (Nat.le_of_ble_eq_true rfl) dX7_merge_112 (fun v7 H7 hv7 hz7 hk7 => ?_)
                obtain ⟨rfl, az, aO0⟩ := hv7
                refine zs_widen (k' := 0) (n' := 0) (by decide) (by decide) ?_
                refine zs_top (v' := .int (nI (sp_nv S))) (by rw [mv0]) ?_
                have hOa : md_O D E κ x ad (va_up sc 1 (sp_nv S + 1)) (va_up (va_up (va_up ar 9 (va_up (ar 9) (sp_nv S) (nI (sp_vp S v)))) 10 (va_up (ar 10) (sp_nv S) (nI v))) 11 (va_up (ar 11) (sp_nv S) (nI w))) H7 := by rw [← mv0]; exact aO0
                refine zs_istore (lo' := [(6, .int (nI (sp_nv S))), (5, .int (nI zb)), (4, .int (nI (sp_vp S v))), (0, .ref x), (1, .int (nI v)), (2, .int (nI w))]) hE dX7_merge_115 (by decide) rfl ?_
                refine zs_iconst (v := (nI 0)) hE dX7_merge_117 (by decide) ?_
                refine zs_istore (lo' := [(7, .int (nI 0)), (6, .int (nI (sp_nv S))), (5, .int (nI zb)), (4, .int (nI (sp_vp S v))), (0, .ref x), (1, .int (nI v)), (2, .int (nI w))]) hE dX7_merge_118 (by decide) rfl ?_
                refine zs_sub (lo' := [(7, .int (nI 0)), (0, .ref x), (1, .int (nI v)), (2, .int (nI w)), (4, .int (nI (sp_vp S v))), (5, .int (nI zb)), (6, .int (nI (sp_nv S)))]) [0, 4, 5, 6, 3, 2, 1] rfl ?_
                refine zs_ind3 (Hs := fun (k0 : Nat) (K : Heap) (f : Nat → Int32) => K) (ks := fun (k0 : Nat) (K : Heap) (f : Nat → Int32) => 0) (ns := fun (k0 : Nat) (K : Heap) (f : Nat → Int32) => 0) (los := fun (k0 : Nat) (K : Heap) (f : Nat → Int32) => [(7, .int (nI k0)), (0, .ref x), (1, .int (nI v)), (2, .int (nI w)), (4, .int (nI (sp_vp S v))), (5, .int (nI zb)), (6, .int (nI (sp_nv S)))]) (I := fun (k0 : Nat) (K : Heap) (f : Nat → Int32) => k0 ≤ sp_ba S (sp_vp S v) * sp_pa S (sp_vp S v) ∧ K.size = s.heap.size ∧ md_O D E κ x ad (va_up sc 1 (sp_nv S + 1)) (va_up (va_up (va_up (va_up ar 9 (va_up (ar 9) (sp_nv S) (nI (sp_vp S v)))) 10 (va_up (ar 10) (sp_nv S) (nI v))) 11 (va_up (ar 11) (sp_nv S) (nI w))) 12 f) K ∧ (∀ j, j < k0 → md_s f (41 * (32 * sp_nv S + j)) (sp_m1 (sp_ru S (sp_vp S v) (j % sp_pa S (sp_vp S v))) (w < v) (sp_sv S v j) (sp_sv S w j) (sp_sv S (sp_bn S v w) j))) ∧ ∀ t, (t < 1312 * sp_nv S ∨ 1312 * (sp_nv S + 1) ≤ t) → f t = ar 12 t) (μ := fun (k0 : Nat) (K : Heap) (f : Nat → Int32) => sp_ba S (sp_vp S v) * sp_pa S (sp_vp S v) - k0) 0 H7 (ar 12) (⟨Nat.zero_le _, by omega, md_up 12 hOa, fun j hj => absurd hj (Nat.not_lt_zero _), fun t _ => rfl⟩) (fun k0 K f hi ih => ?_)
                try dsimp only at hi ih ⊢
                obtain ⟨kl, kz, kO, kf, ke⟩ := hi
                obtain ⟨-, hx, -, -, -, -, -, -, -, -, -, -, -, -, -, -, -, -, r5, r6, r7, r8, r9, r10, r11, r12, r13, r14, r15, r16, r17, r18, r19, r20⟩ := id kO
                have hx : zs_pt D x (.inr (7, [.int (nI (sc 0)), .int (nI (sp_nv S + 1)), .int (nI (sc 2)), .int (nI (sc 3)), .int (nI (sc 4)), .ref (ad 5), .ref (ad 6), .ref (ad 7), .ref (ad 8), .ref (ad 9), .ref (ad 10), .ref (ad 11), .ref (ad 12), .ref (ad 13), .ref (ad 14), .ref (ad 15), .ref (ad 16), .ref (ad 17), .ref (ad 18), .ref (ad 19), .ref (ad 20)])) K := hx
                have r5 : zs_pt D (ad 5) (.inl (E 0, 6, .inl (ar 5))) K := r5
                have r6 : zs_pt D (ad 6) (.inl (E 0, 6, .inl (ar 6))) K := r6
                have r7 : zs_pt D (ad 7) (.inl (E 0, 6, .inl (ar 7))) K := r7
                have r8 : zs_pt D (ad 8) (.inl (E 1, 24, .inl (ar 8))) K := r8
                have r9 : zs_pt D (ad 9) (.inl (E 0, 40, .inl (va_up (ar 9) (sp_nv S) (nI (sp_vp S v))))) K := r9
                have r10 : zs_pt D (ad 10) (.inl (E 0, 40, .inl (va_up (ar 10) (sp_nv S) (nI v)))) K := r10
                have r11 : zs_pt D (ad 11) (.inl (E 0, 40, .inl (va_up (ar 11) (sp_nv S) (nI w)))) K := r11
                have r12 : zs_pt D (ad 12) (.inl (E 0, 52480, .inl (f))) K := r12
                have r13 : zs_pt D (ad 13) (.inl (E 0, 8, .inl (ar 13))) K := r13
                have r14 : zs_pt D (ad 14) (.inl (E 0, 24, .inl (ar 14))) K := r14
                have r15 : zs_pt D (ad 15) (.inl (E 0, 120, .inl (ar 15))) K := r15
                have r16 : zs_pt D (ad 16) (.inl (E 2, 120, .inl (ar 16))) K := r16
                have r17 : zs_pt D (ad 17) (.inl (E 2, 40, .inl (ar 17))) K := r17
                have r18 : zs_pt D (ad 18) (.inl (E 0, 12, .inl (ar 18))) K := r18
                have r19 : zs_pt D (ad 19) (.inl (E 0, 12, .inl (ar 19))) K := r19
                have r20 : zs_pt D (ad 20) (.inl (E 0, 72, .inl (ar 20))) K := r20
                refine zs_iload hE 0 dX7_merge_120 rfl ?_
                refine zs_aload_n hE 1 dX7_merge_122 rfl rfl ?_
                refine zs_iload hE 4 dX7_merge_123 rfl ?_
                refine zs_callVR (av := [.int (nI (sp_vp S v))]) (st := [.int (nI k0)]) (b := x) hE (m_X7_size D E B l κ x ad (va_up sc 1 (sp_nv S + 1)) (va_up (va_up (va_up (va_up ar 9 (va_up (ar 9) (sp_nv S) (nI (sp_vp S v)))) 10 (va_up (ar 10) (sp_nv S) (nI v))) 11 (va_up (ar 11) (sp_nv S) (nI w))) 12 f) (sp_vp S v) (sp_ba S (sp_vp S v)) (sp_pa S (sp_vp S v)) (by omega) (mP _ b1).1 (mP _ b1).2.1) rfl rfl sV_X7_106 hx rfl rfl (kO) ⟨by decide, by decide⟩ ⟨by decide, by decide⟩ (Nat.le_of_ble_eq_true rfl) dX7_merge_125 ?_
                refine zs_icmp_geN (tgt := 370) hE (by omega) (by omega) dX7_merge_128 (by decide) (fun h8 => ?_) (fun h => ?_)
                · obtain rfl : k0 = sp_ba S (sp_vp S v) * sp_pa S (sp_vp S v) := by omega
                  have hM1 : mi_ (s_merge0 S v w) (va_up sc 1 (sp_nv S + 1)) (va_up (va_up (va_up (va_up ar 9 (va_up (ar 9) (sp_nv S) (nI (sp_vp S v)))) 10 (va_up (ar 10) (sp_nv S) (nI v))) 11 (va_up (ar 11) (sp_nv S) (nI w))) 12 f) := mi_merge hM wP wV lv kf ke
                  have hw1 := wf_merge0 hw lv lw nvl h4
                  have nv1 : sp_nv (s_merge0 S v w) = sp_nv S + 1 := rfl
                  have vo : ∀ q, q < sp_nv S → sp_vp (s_merge0 S v w) q = sp_vp S q := fun q hq => va_up_ne _ _ (by omega)
                  have vn : sp_vp (s_merge0 S v w) (sp_nv S) = sp_vp S v := va_up_self _ _ _
                  obtain ⟨ev2, en2⟩ := vp_ask (s_merge0 S v w) (sp_nv S) v
                  refine zs_aload_n hE 1 dX7_merge_370 rfl rfl ?_
                  refine zs_iload hE 6 dX7_merge_371 rfl ?_
                  refine zs_iload_n hE 2 dX7_merge_373 rfl rfl ?_
                  refine zs_callV (av := [.int (nI (sp_nv S)), .int (nI v)]) (st := []) hE (m_X7_asksAgain D E B l κ x ad (va_up sc 1 (sp_nv S + 1)) (va_up (va_up (va_up (va_up ar 9 (va_up (ar 9) (sp_nv S) (nI (sp_vp S v)))) 10 (va_up (ar 10) (sp_nv S) (nI v))) 11 (va_up (ar 11) (sp_nv S) (nI w))) 12 f) (s_merge0 S v w) (sp_nv S) v hM1 hw1 (by omega) (by omega) (by rw [vn, vo v lv])) sV_X7_135 hx rfl rfl (kO) ⟨by decide, by decide⟩ ⟨by decide, by decide⟩ (fun q9 w9 => Or.inl w9) (Nat.le_of_ble_eq_true rfl) dX7_merge_374 (fun v8 H8 hv8 hz8 hk8 => ?_)
                  obtain ⟨rfl, xz, g1, xO, hM2⟩ := hv8
                  refine zs_widen (k' := 0) (n' := 0) (by decide) (by decide) ?_
                  obtain ⟨-, hx, -, -, -, -, -, -, -, -, -, -, -, -, -, -, -, -, r5, r6, r7, r8, r9, r10, r11, r12, r13, r14, r15, r16, r17, r18, r19, r20⟩ := id xO
                  have hx : zs_pt D x (.inr (7, [.int (nI (sc 0)), .int (nI (sp_nv S + 1)), .int (nI (sc 2)), .int (nI (sc 3)), .int (nI (sc 4)), .ref (ad 5), .ref (ad 6), .ref (ad 7), .ref (ad 8), .ref (ad 9), .ref (ad 10), .ref (ad 11), .ref (ad 12), .ref (ad 13), .ref (ad 14), .ref (ad 15), .ref (ad 16), .ref (ad 17), .ref (ad 18), .ref (ad 19), .ref (ad 20)])) H8 := hx
                  have r5 : zs_pt D (ad 5) (.inl (E 0, 6, .inl (ar 5))) H8 := r5
                  have r6 : zs_pt D (ad 6) (.inl (E 0, 6, .inl (ar 6))) H8 := r6
                  have r7 : zs_pt D (ad 7) (.inl (E 0, 6, .inl (ar 7))) H8 := r7
                  have r8 : zs_pt D (ad 8) (.inl (E 1, 24, .inl (ar 8))) H8 := r8
                  have r9 : zs_pt D (ad 9) (.inl (E 0, 40, .inl (va_up (ar 9) (sp_nv S) (nI (sp_vp S v))))) H8 := r9
                  have r10 : zs_pt D (ad 10) (.inl (E 0, 40, .inl (va_up (ar 10) (sp_nv S) (nI v)))) H8 := r10
                  have r11 : zs_pt D (ad 11) (.inl (E 0, 40, .inl (va_up (ar 11) (sp_nv S) (nI w)))) H8 := r11
                  have r12 : zs_pt D (ad 12) (.inl (E 0, 52480, .inl (f))) H8 := r12
                  have r13 : zs_pt D (ad 13) (.inl (E 0, 8, .inl (ar 13))) H8 := r13
                  have r14 : zs_pt D (ad 14) (.inl (E 0, 24, .inl (ar 14))) H8 := r14
                  have r15 : zs_pt D (ad 15) (.inl (E 0, 120, .inl (ar 15))) H8 := r15
                  have r16 : zs_pt D (ad 16) (.inl (E 2, 120, .inl (g1))) H8 := r16
                  have r17 : zs_pt D (ad 17) (.inl (E 2, 40, .inl (ar 17))) H8 := r17
                  have r18 : zs_pt D (ad 18) (.inl (E 0, 12, .inl (ar 18))) H8 := r18
                  have r19 : zs_pt D (ad 19) (.inl (E 0, 12, .inl (ar 19))) H8 := r19
                  have r20 : zs_pt D (ad 20) (.inl (E 0, 72, .inl (ar 20))) H8 := r20
                  refine zs_aload_n hE 1 dX7_merge_377 rfl rfl ?_
                  refine zs_iload hE 6 dX7_merge_378 rfl ?_
                  refine zs_iload_n hE 3 dX7_merge_380 rfl rfl ?_
                  refine zs_callV (av := [.int (nI (sp_nv S)), .int (nI w)]) (st := []) hE (m_X7_asksAgain D E B l κ x ad (va_up sc 1 (sp_nv S + 1)) (va_up (va_up (va_up (va_up (va_up ar 9 (va_up (ar 9) (sp_nv S) (nI (sp_vp S v)))) 10 (va_up (ar 10) (sp_nv S) (nI v))) 11 (va_up (ar 11) (sp_nv S) (nI w))) 12 f) 16 g1) (s_ask (s_merge0 S v w) (sp_nv S) v) (sp_nv S) w hM2 (wf_ask hw1 _ _) (by omega) (by omega) (by rw [ev2, vn, vo w lw]; exact h4)) sV_X7_135 hx rfl rfl (xO) ⟨by decide, by decide⟩ ⟨by decide, by decide⟩ (fun q9 w9 => Or.inl w9) (Nat.le_of_ble_eq_true rfl) dX7_merge_381 (fun v9 H9 hv9 hz9 hk9 => ?_)
                  obtain ⟨rfl, yz, g2, yO, hM3⟩ := hv9
                  refine zs_widen (k' := 0) (n' := 0) (by decide) (by decide) ?_
                  obtain ⟨-, hx, -, -, -, -, -, -, -, -, -, -, -, -, -, -, -, -, r5, r6, r7, r8, r9, r10, r11, r12, r13, r14, r15, r16, r17, r18, r19, r20⟩ := id yO
                  have hx : zs_pt D x (.inr (7, [.int (nI (sc 0)), .int (nI (sp_nv S + 1)), .int (nI (sc 2)), .int (nI (sc 3)), .int (nI (sc 4)), .ref (ad 5), .ref (ad 6), .ref (ad 7), .ref (ad 8), .ref (ad 9), .ref (ad 10), .ref (ad 11), .ref (ad 12), .ref (ad 13), .ref (ad 14), .ref (ad 15), .ref (ad 16), .ref (ad 17), .ref (ad 18), .ref (ad 19), .ref (ad 20)])) H9 := hx
                  have r5 : zs_pt D (ad 5) (.inl (E 0, 6, .inl (ar 5))) H9 := r5
                  have r6 : zs_pt D (ad 6) (.inl (E 0, 6, .inl (ar 6))) H9 := r6
                  have r7 : zs_pt D (ad 7) (.inl (E 0, 6, .inl (ar 7))) H9 := r7
                  have r8 : zs_pt D (ad 8) (.inl (E 1, 24, .inl (ar 8))) H9 := r8
                  have r9 : zs_pt D (ad 9) (.inl (E 0, 40, .inl (va_up (ar 9) (sp_nv S) (nI (sp_vp S v))))) H9 := r9
                  have r10 : zs_pt D (ad 10) (.inl (E 0, 40, .inl (va_up (ar 10) (sp_nv S) (nI v)))) H9 := r10
                  have r11 : zs_pt D (ad 11) (.inl (E 0, 40, .inl (va_up (ar 11) (sp_nv S) (nI w)))) H9 := r11
                  have r12 : zs_pt D (ad 12) (.inl (E 0, 52480, .inl (f))) H9 := r12
                  have r13 : zs_pt D (ad 13) (.inl (E 0, 8, .inl (ar 13))) H9 := r13
                  have r14 : zs_pt D (ad 14) (.inl (E 0, 24, .inl (ar 14))) H9 := r14
                  have r15 : zs_pt D (ad 15) (.inl (E 0, 120, .inl (ar 15))) H9 := r15
                  have r16 : zs_pt D (ad 16) (.inl (E 2, 120, .inl (g2))) H9 := r16
                  have r17 : zs_pt D (ad 17) (.inl (E 2, 40, .inl (ar 17))) H9 := r17
                  have r18 : zs_pt D (ad 18) (.inl (E 0, 12, .inl (ar 18))) H9 := r18
                  have r19 : zs_pt D (ad 19) (.inl (E 0, 12, .inl (ar 19))) H9 := r19
                  have r20 : zs_pt D (ad 20) (.inl (E 0, 72, .inl (ar 20))) H9 := r20
                  refine zs_aload_n hE 1 dX7_merge_384 rfl rfl ?_
                  refine zs_iload hE 6 dX7_merge_385 rfl ?_
                  refine zs_callV (av := [.int (nI (sp_nv S))]) (st := []) hE (m_X7_tells D E B l κ x ad (va_up sc 1 (sp_nv S + 1)) (va_up (va_up (va_up (va_up (va_up (va_up ar 9 (va_up (ar 9) (sp_nv S) (nI (sp_vp S v)))) 10 (va_up (ar 10) (sp_nv S) (nI v))) 11 (va_up (ar 11) (sp_nv S) (nI w))) 12 f) 16 g1) 16 g2) (nI (sp_nv S))) sV_X7_93 hx rfl rfl (yO) ⟨by decide, by decide⟩ ⟨by decide, by decide⟩ (fun q w9 => Or.inl w9) (Nat.le_of_ble_eq_true rfl) dX7_merge_387 (fun v10 H10 hv10 hz10 hk10 => ?_)
                  obtain ⟨rfl, cz, cO⟩ := hv10
                  refine zs_widen (k' := 0) (n' := 0) (by decide) (by decide) ?_
                  exact zs_iret hE hr (mq_mk (S' := s_merge S v w) (k := 0) (by rw [o_merge, ev]; simp only []; rw [ew]; simp only []; rw [ee]; simp only []; rw [pI_f hno, pI_f (by omega)]) (by omega) (fun _ => rfl) cO (mi_4 hM3)) (by decide) (by decide) dX7_merge_390
                · have ka := sv_ok wV lv h
                  have kb := sv_ok wV lw (show k0 < sp_ba S (sp_vp S w) * sp_pa S (sp_vp S w) by rw [← h4]; exact h)
                  have kc := sv_ok wV zl (show k0 < sp_ba S (sp_vp S zb) * sp_pa S (sp_vp S zb) by rw [ezv]; exact h)
                  have da : md_s f (41 * (32 * v + k0)) (sp_sv S v k0) := ((mV v lv).2.2.2 k0 h).mv ka (fun t ht => ke _ (by omega))
                  have db : md_s f (41 * (32 * w + k0)) (sp_sv S w k0) := ((mV w lw).2.2.2 k0 (by rw [← h4]; exact h)).mv kb (fun t ht => ke _ (by omega))
                  have dz : md_s f (41 * (32 * zb + k0)) (sp_sv S zb k0) := ((mV zb zl).2.2.2 k0 (by rw [ezv]; exact h)).mv kc (fun t ht => ke _ (by omega))
                  have hrr := wP.2 (sp_vp S v) (k0 % sp_pa S (sp_vp S v))
                  have kp : k0 % sp_pa S (sp_vp S v) < sp_pa S (sp_vp S v) := Nat.mod_lt _ p1
                  have na := no_b ka
                  have nb := no_b kb
                  have la := ka.2.1
                  have lb := kb.2.1
                  refine zs_aload_n hE 1 dX7_merge_131 rfl rfl ?_
                  refine zs_iload_n hE 2 dX7_merge_132 rfl rfl ?_
                  refine zs_iload hE 0 dX7_merge_133 rfl ?_
                  refine zs_callVR (av := [.int (nI v), .int (nI k0)]) (st := []) (b := x) hE (m_X7_sheafAt D E B l κ x ad (va_up sc 1 (sp_nv S + 1)) (va_up (va_up (va_up (va_up ar 9 (va_up (ar 9) (sp_nv S) (nI (sp_vp S v)))) 10 (va_up (ar 10) (sp_nv S) (nI v))) 11 (va_up (ar 11) (sp_nv S) (nI w))) 12 f) v k0) rfl rfl sV_X7_89 hx rfl rfl (kO) ⟨by decide, by decide⟩ ⟨by decide, by decide⟩ (Nat.le_of_ble_eq_true rfl) dX7_merge_135 ?_
                  refine zs_istore (lo' := [(8, .int (nI (41 * (32 * v + k0)))), (7, .int (nI k0)), (0, .ref x), (1, .int (nI v)), (2, .int (nI w)), (4, .int (nI (sp_vp S v))), (5, .int (nI zb)), (6, .int (nI (sp_nv S)))]) hE dX7_merge_138 (by decide) rfl ?_
                  refine zs_aload_n hE 2 dX7_merge_140 rfl rfl ?_
                  refine zs_iload_n hE 4 dX7_merge_141 rfl rfl ?_
                  refine zs_iload hE 1 dX7_merge_142 rfl ?_
                  refine zs_callVR (av := [.int (nI w), .int (nI k0)]) (st := []) (b := x) hE (m_X7_sheafAt D E B l κ x ad (va_up sc 1 (sp_nv S + 1)) (va_up (va_up (va_up (va_up ar 9 (va_up (ar 9) (sp_nv S) (nI (sp_vp S v)))) 10 (va_up (ar 10) (sp_nv S) (nI v))) 11 (va_up (ar 11) (sp_nv S) (nI w))) 12 f) w k0) rfl rfl sV_X7_89 hx rfl rfl (kO) ⟨by decide, by decide⟩ ⟨by decide, by decide⟩ (Nat.le_of_ble_eq_true rfl) dX7_merge_144 ?_
                  refine zs_istore (lo' := [(9, .int (nI (41 * (32 * w + k0)))), (8, .int (nI (41 * (32 * v + k0)))), (7, .int (nI k0)), (0, .ref x), (1, .int (nI v)), (2, .int (nI w)), (4, .int (nI (sp_vp S v))), (5, .int (nI zb)), (6, .int (nI (sp_nv S)))]) hE dX7_merge_147 (by decide) rfl ?_
                  refine zs_aload_n hE 3 dX7_merge_149 rfl rfl ?_
                  refine zs_iload hE 8 dX7_merge_150 rfl ?_
                  refine zs_iload hE 2 dX7_merge_152 rfl ?_
                  refine zs_callVR (av := [.int (nI (sp_nv S)), .int (nI k0)]) (st := []) (b := x) hE (m_X7_sheafAt D E B l κ x ad (va_up sc 1 (sp_nv S + 1)) (va_up (va_up (va_up (va_up ar 9 (va_up (ar 9) (sp_nv S) (nI (sp_vp S v)))) 10 (va_up (ar 10) (sp_nv S) (nI v))) 11 (va_up (ar 11) (sp_nv S) (nI w))) 12 f) (sp_nv S) k0) rfl rfl sV_X7_89 hx rfl rfl (kO) ⟨by decide, by decide⟩ ⟨by decide, by decide⟩ (Nat.le_of_ble_eq_true rfl) dX7_merge_154 ?_
                  refine zs_istore (lo' := [(10, .int (nI (41 * (32 * sp_nv S + k0)))), (9, .int (nI (41 * (32 * w + k0)))), (8, .int (nI (41 * (32 * v + k0)))), (7, .int (nI k0)), (0, .ref x), (1, .int (nI v)), (2, .int (nI w)), (4, .int (nI (sp_vp S v))), (5, .int (nI zb)), (6, .int (nI (sp_nv S)))]) hE dX7_merge_157 (by decide) rfl ?_
                  refine zs_aload_n hE 4 dX7_merge_159 rfl rfl ?_
                  refine zs_get hE fl_X7_35 hx rfl dX7_merge_160 ?_
                  refine zs_iconst (v := (nI 4)) hE dX7_merge_163 (by decide) ?_
                  refine zs_iload hE 7 dX7_merge_164 rfl ?_
                  refine zs_imulN hE dX7_merge_166 ?_
                  refine zs_iload hE 3 dX7_merge_167 rfl ?_
                  refine zs_aload_n hE 4 dX7_merge_169 rfl rfl ?_
                  refine zs_get hE fl_X7_29 hx rfl dX7_merge_170 ?_
                  refine zs_iload hE 7 dX7_merge_173 rfl ?_
                  refine zs_iald hE r6 (by omega) (by decide) dX7_merge_175 ?_
                  refine zs_top (v' := .int (nI (sp_pa S (sp_vp S v)))) (by rw [(mP _ b1).2.1]) ?_
                  refine zs_irem hE dX7_merge_176 (fun w9 => nI_ne0 (n := sp_pa S (sp_vp S v)) p1 (by omega) w9) ?_
                  refine zs_top (v' := .int (nI (k0 % sp_pa S (sp_vp S v)))) (by rw [pk_rem (by omega) (by omega) (by omega)]) ?_
                  refine zs_iaddN hE dX7_merge_177 ?_
                  refine zs_cald hE r8 (by omega) (by decide) dX7_merge_178 ?_
                  refine zs_top (v' := .int (nI (sp_ru S (sp_vp S v) (k0 % sp_pa S (sp_vp S v))))) (by rw [(mP _ b1).2.2.2 (k0 % sp_pa S (sp_vp S v)) (by omega)]) ?_
                  refine zs_istore (lo' := [(11, .int (nI (sp_ru S (sp_vp S v) (k0 % sp_pa S (sp_vp S v))))), (10, .int (nI (41 * (32 * sp_nv S + k0)))), (9, .int (nI (41 * (32 * w + k0)))), (8, .int (nI (41 * (32 * v + k0)))), (7, .int (nI k0)), (0, .ref x), (1, .int (nI v)), (2, .int (nI w)), (4, .int (nI (sp_vp S v))), (5, .int (nI zb)), (6, .int (nI (sp_nv S)))]) hE dX7_merge_179 (by decide) rfl ?_
                  refine zs_join (pc' := 287) (lo' := [(0, .ref x), (1, .int (nI v)), (2, .int (nI w)), (4, .int (nI (sp_vp S v))), (5, .int (nI zb)), (6, .int (nI (sp_nv S))), (7, .int (nI k0)), (8, .int (nI (41 * (32 * v + k0)))), (9, .int (nI (41 * (32 * w + k0)))), (10, .int (nI (41 * (32 * sp_nv S + k0)))), (11, .int (nI (sp_ru S (sp_vp S v) (k0 % sp_pa S (sp_vp S v)))))]) (st' := [.int (nI (pI (sp_al (sp_sv S v k0) (sp_sv S w k0) ∨ ¬ sp_al (sp_sv S v k0) (sp_sv S zb k0) ∧ (sp_al (sp_sv S w k0) (sp_sv S zb k0) ∨ (sp_ru S (sp_vp S v) (k0 % sp_pa S (sp_vp S v))) = 98 ∨ ((sp_ru S (sp_vp S v) (k0 % sp_pa S (sp_vp S v))) = 108 ∧ w < v) ∨ ((sp_ru S (sp_vp S v) (k0 % sp_pa S (sp_vp S v))) = 110 ∧ sp_no (sp_sv S w k0) ≤ sp_no (sp_sv S v k0)))) (41 * (32 * v + k0)) (41 * (32 * w + k0)))), .ref x]) ?_ (fun jn => ?_)
                  · have hm1 := m1_eq (gt := w < v) (a := (sp_sv S v k0)) (b := (sp_sv S w k0)) (z := (sp_sv S zb k0)) hrr
                    have hpi : pI (sp_al (sp_sv S v k0) (sp_sv S w k0) ∨ ¬ sp_al (sp_sv S v k0) (sp_sv S zb k0) ∧ (sp_al (sp_sv S w k0) (sp_sv S zb k0) ∨ (sp_ru S (sp_vp S v) (k0 % sp_pa S (sp_vp S v))) = 98 ∨ ((sp_ru S (sp_vp S v) (k0 % sp_pa S (sp_vp S v))) = 108 ∧ w < v) ∨ ((sp_ru S (sp_vp S v) (k0 % sp_pa S (sp_vp S v))) = 110 ∧ sp_no (sp_sv S w k0) ≤ sp_no (sp_sv S v k0)))) (41 * (32 * v + k0)) (41 * (32 * w + k0)) + 41 ≤ 1312 * sp_nv S := by by_cases q : sp_al (sp_sv S v k0) (sp_sv S w k0) ∨ ¬ sp_al (sp_sv S v k0) (sp_sv S zb k0) ∧ (sp_al (sp_sv S w k0) (sp_sv S zb k0) ∨ (sp_ru S (sp_vp S v) (k0 % sp_pa S (sp_vp S v))) = 98 ∨ ((sp_ru S (sp_vp S v) (k0 % sp_pa S (sp_vp S v))) = 108 ∧ w < v) ∨ ((sp_ru S (sp_vp S v) (k0 % sp_pa S (sp_vp S v))) = 110 ∧ sp_no (sp_sv S w k0) ≤ sp_no (sp_sv S v k0))); (rw [pI_t q]; omega); (rw [pI_f q]; omega)
                    generalize hF : (sp_al (sp_sv S v k0) (sp_sv S w k0) ∨ ¬ sp_al (sp_sv S v k0) (sp_sv S zb k0) ∧ (sp_al (sp_sv S w k0) (sp_sv S zb k0) ∨ (sp_ru S (sp_vp S v) (k0 % sp_pa S (sp_vp S v))) = 98 ∨ ((sp_ru S (sp_vp S v) (k0 % sp_pa S (sp_vp S v))) = 108 ∧ w < v) ∨ ((sp_ru S (sp_vp S v) (k0 % sp_pa S (sp_vp S v))) = 110 ∧ sp_no (sp_sv S w k0) ≤ sp_no (sp_sv S v k0)))) = FF at *
                    refine zs_iload hE 9 dX7_merge_287 rfl ?_
                    refine zs_callV (av := [.int (nI (pI FF (41 * (32 * v + k0)) (41 * (32 * w + k0)))), .int (nI (41 * (32 * sp_nv S + k0)))]) (st := []) hE (m_X7_copies D E B l κ x ad (va_up sc 1 (sp_nv S + 1)) (va_up (va_up (va_up (va_up ar 9 (va_up (ar 9) (sp_nv S) (nI (sp_vp S v)))) 10 (va_up (ar 10) (sp_nv S) (nI v))) 11 (va_up (ar 11) (sp_nv S) (nI w))) 12 f) (pI FF (41 * (32 * v + k0)) (41 * (32 * w + k0))) (41 * (32 * sp_nv S + k0)) (by omega) (by omega) (Or.inl (by omega))) sV_X7_109 hx rfl rfl (kO) ⟨by decide, by decide⟩ ⟨by decide, by decide⟩ (fun q9 w9 => Or.inl w9) (Nat.le_of_ble_eq_true rfl) dX7_merge_289 (fun v11 H11 hv11 hz11 hk11 => ?_)
                    obtain ⟨rfl, cz, f2, cO, cf, ce⟩ := hv11
                    refine zs_widen (k' := 0) (n' := 0) (by decide) (by decide) ?_
                    have cO := md_12 cO
                    have cf : ∀ j, j < 41 → f2 (41 * (32 * sp_nv S + k0) + j) = f (pI FF (41 * (32 * v + k0)) (41 * (32 * w + k0)) + j) := cf
                    have ce : ∀ t, (t < 41 * (32 * sp_nv S + k0) ∨ 41 * (32 * sp_nv S + k0) + 41 ≤ t) → f2 t = f t := ce
                    have dX : md_s f2 (41 * (32 * sp_nv S + k0)) (pI FF (sp_sv S v k0) (sp_sv S w k0)) := by
                      by_cases q : FF
                      · rw [pI_t q]; rw [pI_t q] at cf; exact da.mv ka cf
                      · rw [pI_f q]; rw [pI_f q] at cf; exact db.mv kb cf
                    have kx : sp_ok (pI FF (sp_sv S v k0) (sp_sv S w k0)) := pI_p ka kb
                    have da2 : md_s f2 (41 * (32 * v + k0)) (sp_sv S v k0) := da.mv ka (fun t ht => ce _ (by omega))
                    have db2 : md_s f2 (41 * (32 * w + k0)) (sp_sv S w k0) := db.mv kb (fun t ht => ce _ (by omega))
                    have dz2 : md_s f2 (41 * (32 * zb + k0)) (sp_sv S zb k0) := dz.mv kc (fun t ht => ce _ (by omega))
                    obtain ⟨-, hx, -, -, -, -, -, -, -, -, -, -, -, -, -, -, -, -, r5, r6, r7, r8, r9, r10, r11, r12, r13, r14, r15, r16, r17, r18, r19, r20⟩ := id cO
                    have hx : zs_pt D x (.inr (7, [.int (nI (sc 0)), .int (nI (sp_nv S + 1)), .int (nI (sc 2)), .int (nI (sc 3)), .int (nI (sc 4)), .ref (ad 5), .ref (ad 6), .ref (ad 7), .ref (ad 8), .ref (ad 9), .ref (ad 10), .ref (ad 11), .ref (ad 12), .ref (ad 13), .ref (ad 14), .ref (ad 15), .ref (ad 16), .ref (ad 17), .ref (ad 18), .ref (ad 19), .ref (ad 20)])) H11 := hx
                    have r5 : zs_pt D (ad 5) (.inl (E 0, 6, .inl (ar 5))) H11 := r5
                    have r6 : zs_pt D (ad 6) (.inl (E 0, 6, .inl (ar 6))) H11 := r6
                    have r7 : zs_pt D (ad 7) (.inl (E 0, 6, .inl (ar 7))) H11 := r7
                    have r8 : zs_pt D (ad 8) (.inl (E 1, 24, .inl (ar 8))) H11 := r8
                    have r9 : zs_pt D (ad 9) (.inl (E 0, 40, .inl (va_up (ar 9) (sp_nv S) (nI (sp_vp S v))))) H11 := r9
                    have r10 : zs_pt D (ad 10) (.inl (E 0, 40, .inl (va_up (ar 10) (sp_nv S) (nI v)))) H11 := r10
                    have r11 : zs_pt D (ad 11) (.inl (E 0, 40, .inl (va_up (ar 11) (sp_nv S) (nI w)))) H11 := r11
                    have r12 : zs_pt D (ad 12) (.inl (E 0, 52480, .inl (f2))) H11 := r12
                    have r13 : zs_pt D (ad 13) (.inl (E 0, 8, .inl (ar 13))) H11 := r13
                    have r14 : zs_pt D (ad 14) (.inl (E 0, 24, .inl (ar 14))) H11 := r14
                    have r15 : zs_pt D (ad 15) (.inl (E 0, 120, .inl (ar 15))) H11 := r15
                    have r16 : zs_pt D (ad 16) (.inl (E 2, 120, .inl (ar 16))) H11 := r16
                    have r17 : zs_pt D (ad 17) (.inl (E 2, 40, .inl (ar 17))) H11 := r17
                    have r18 : zs_pt D (ad 18) (.inl (E 0, 12, .inl (ar 18))) H11 := r18
                    have r19 : zs_pt D (ad 19) (.inl (E 0, 12, .inl (ar 19))) H11 := r19
                    have r20 : zs_pt D (ad 20) (.inl (E 0, 72, .inl (ar 20))) H11 := r20
                    refine zs_aload_n hE 0 dX7_merge_292 rfl rfl ?_
                    refine zs_iload hE 7 dX7_merge_293 rfl ?_
                    refine zs_iload hE 8 dX7_merge_295 rfl ?_
                    refine zs_callVR (av := [.int (nI (41 * (32 * v + k0))), .int (nI (41 * (32 * w + k0)))]) (st := []) (b := x) hE (m_X7_areAlike D E B l κ x ad (va_up sc 1 (sp_nv S + 1)) (va_up (va_up (va_up (va_up ar 9 (va_up (ar 9) (sp_nv S) (nI (sp_vp S v)))) 10 (va_up (ar 10) (sp_nv S) (nI v))) 11 (va_up (ar 11) (sp_nv S) (nI w))) 12 f2) (41 * (32 * v + k0)) (41 * (32 * w + k0)) (sp_sv S v k0) (sp_sv S w k0) (by omega) (by omega) da2 db2 ka kb) rfl rfl sV_X7_126 hx rfl rfl (cO) ⟨by decide, by decide⟩ ⟨by decide, by decide⟩ (Nat.le_of_ble_eq_true rfl) dX7_merge_297 ?_
                    refine zs_if_neB (tgt := 348) hE dX7_merge_300 (by decide) (fun h10 => ?_) (fun h10 => ?_)
                    · refine zs_iconst (v := (nI 0)) hE dX7_merge_348 (by decide) ?_
                      refine zs_istore (lo' := [(13, .int (nI 0)), (0, .ref x), (1, .int (nI v)), (2, .int (nI w)), (4, .int (nI (sp_vp S v))), (5, .int (nI zb)), (6, .int (nI (sp_nv S))), (7, .int (nI k0)), (8, .int (nI (41 * (32 * v + k0)))), (9, .int (nI (41 * (32 * w + k0)))), (10, .int (nI (41 * (32 * sp_nv S + k0)))), (11, .int (nI (sp_ru S (sp_vp S v) (k0 % sp_pa S (sp_vp S v)))))]) hE dX7_merge_349 (by decide) rfl ?_
                      refine zs_iload hE 0 dX7_merge_351 rfl ?_
                      refine zs_if_eqN (tgt := 364) hE (by decide) dX7_merge_353 (by decide) (fun h21 => ?_) (fun h21 => ?_)
                      · refine zs_iincN (lo' := [(7, .int (nI (k0 + 1))), (13, .int (nI 0)), (0, .ref x), (1, .int (nI v)), (2, .int (nI w)), (4, .int (nI (sp_vp S v))), (5, .int (nI zb)), (6, .int (nI (sp_nv S))), (8, .int (nI (41 * (32 * v + k0)))), (9, .int (nI (41 * (32 * w + k0)))), (10, .int (nI (41 * (32 * sp_nv S + k0)))), (11, .int (nI (sp_ru S (sp_vp S v) (k0 % sp_pa S (sp_vp S v)))))]) hE 7 dX7_merge_364 rfl (by decide) rfl ?_
                        refine zs_goto (tgt := 120) hE dX7_merge_367 (by decide) ?_
                        refine zs_sub (lo' := [(7, .int (nI (k0 + 1))), (0, .ref x), (1, .int (nI v)), (2, .int (nI w)), (4, .int (nI (sp_vp S v))), (5, .int (nI zb)), (6, .int (nI (sp_nv S)))]) [0, 2, 3, 4, 5, 6, 7] rfl ?_
                        refine ih (k0 + 1) H11 f2 (⟨by omega, by omega, cO, fun j hj => ?_, fun t ht => ?_⟩) (by omega)
                        by_cases e : j = k0
                        · rw [e, ebn, hm1, pI_f (fun q => q.1 h10)]; exact dX
                        · exact (kf j (by omega)).mv (m1_ok (sv_ok wV lv (by omega)) (sv_ok wV lw (by rw [← h4]; omega))) (fun t ht => ce _ (by omega))
                        rw [ce _ (by omega)]; exact ke t ht
                      · exact absurd h21 (by decide)
                    · refine zs_aload_n hE 0 dX7_merge_303 rfl rfl ?_
                      refine zs_iload hE 7 dX7_merge_304 rfl ?_
                      refine zs_aload_n hE 0 dX7_merge_306 rfl rfl ?_
                      refine zs_iload hE 4 dX7_merge_307 rfl ?_
                      refine zs_iload hE 6 dX7_merge_309 rfl ?_
                      refine zs_callVR (av := [.int (nI zb), .int (nI k0)]) (st := [.int (nI (41 * (32 * v + k0))), .ref x]) (b := x) hE (m_X7_sheafAt D E B l κ x ad (va_up sc 1 (sp_nv S + 1)) (va_up (va_up (va_up (va_up ar 9 (va_up (ar 9) (sp_nv S) (nI (sp_vp S v)))) 10 (va_up (ar 10) (sp_nv S) (nI v))) 11 (va_up (ar 11) (sp_nv S) (nI w))) 12 f2) zb k0) rfl rfl sV_X7_89 hx rfl rfl (cO) ⟨by decide, by decide⟩ ⟨by decide, by decide⟩ (Nat.le_of_ble_eq_true rfl) dX7_merge_311 ?_
                      refine zs_callVR (av := [.int (nI (41 * (32 * v + k0))), .int (nI (41 * (32 * zb + k0)))]) (st := []) (b := x) hE (m_X7_areAlike D E B l κ x ad (va_up sc 1 (sp_nv S + 1)) (va_up (va_up (va_up (va_up ar 9 (va_up (ar 9) (sp_nv S) (nI (sp_vp S v)))) 10 (va_up (ar 10) (sp_nv S) (nI v))) 11 (va_up (ar 11) (sp_nv S) (nI w))) 12 f2) (41 * (32 * v + k0)) (41 * (32 * zb + k0)) (sp_sv S v k0) (sp_sv S zb k0) (by omega) (by omega) da2 dz2 ka kc) rfl rfl sV_X7_126 hx rfl rfl (cO) ⟨by decide, by decide⟩ ⟨by decide, by decide⟩ (Nat.le_of_ble_eq_true rfl) dX7_merge_314 ?_
                      refine zs_if_neB (tgt := 348) hE dX7_merge_317 (by decide) (fun h11 => ?_) (fun h11 => ?_)
                      · refine zs_iconst (v := (nI 0)) hE dX7_merge_348 (by decide) ?_
                        refine zs_istore (lo' := [(13, .int (nI 0)), (0, .ref x), (1, .int (nI v)), (2, .int (nI w)), (4, .int (nI (sp_vp S v))), (5, .int (nI zb)), (6, .int (nI (sp_nv S))), (7, .int (nI k0)), (8, .int (nI (41 * (32 * v + k0)))), (9, .int (nI (41 * (32 * w + k0)))), (10, .int (nI (41 * (32 * sp_nv S + k0)))), (11, .int (nI (sp_ru S (sp_vp S v) (k0 % sp_pa S (sp_vp S v)))))]) hE dX7_merge_349 (by decide) rfl ?_
                        refine zs_iload hE 0 dX7_merge_351 rfl ?_
                        refine zs_if_eqN (tgt := 364) hE (by decide) dX7_merge_353 (by decide) (fun h21 => ?_) (fun h21 => ?_)
                        · refine zs_iincN (lo' := [(7, .int (nI (k0 + 1))), (13, .int (nI 0)), (0, .ref x), (1, .int (nI v)), (2, .int (nI w)), (4, .int (nI (sp_vp S v))), (5, .int (nI zb)), (6, .int (nI (sp_nv S))), (8, .int (nI (41 * (32 * v + k0)))), (9, .int (nI (41 * (32 * w + k0)))), (10, .int (nI (41 * (32 * sp_nv S + k0)))), (11, .int (nI (sp_ru S (sp_vp S v) (k0 % sp_pa S (sp_vp S v)))))]) hE 7 dX7_merge_364 rfl (by decide) rfl ?_
                          refine zs_goto (tgt := 120) hE dX7_merge_367 (by decide) ?_
                          refine zs_sub (lo' := [(7, .int (nI (k0 + 1))), (0, .ref x), (1, .int (nI v)), (2, .int (nI w)), (4, .int (nI (sp_vp S v))), (5, .int (nI zb)), (6, .int (nI (sp_nv S)))]) [0, 2, 3, 4, 5, 6, 7] rfl ?_
                          refine ih (k0 + 1) H11 f2 (⟨by omega, by omega, cO, fun j hj => ?_, fun t ht => ?_⟩) (by omega)
                          by_cases e : j = k0
                          · rw [e, ebn, hm1, pI_f (fun q => q.2.1 h11)]; exact dX
                          · exact (kf j (by omega)).mv (m1_ok (sv_ok wV lv (by omega)) (sv_ok wV lw (by rw [← h4]; omega))) (fun t ht => ce _ (by omega))
                          rw [ce _ (by omega)]; exact ke t ht
                        · exact absurd h21 (by decide)
                      · refine zs_aload_n hE 0 dX7_merge_320 rfl rfl ?_
                        refine zs_iload hE 8 dX7_merge_321 rfl ?_
                        refine zs_aload_n hE 0 dX7_merge_323 rfl rfl ?_
                        refine zs_iload hE 4 dX7_merge_324 rfl ?_
                        refine zs_iload hE 6 dX7_merge_326 rfl ?_
                        refine zs_callVR (av := [.int (nI zb), .int (nI k0)]) (st := [.int (nI (41 * (32 * w + k0))), .ref x]) (b := x) hE (m_X7_sheafAt D E B l κ x ad (va_up sc 1 (sp_nv S + 1)) (va_up (va_up (va_up (va_up ar 9 (va_up (ar 9) (sp_nv S) (nI (sp_vp S v)))) 10 (va_up (ar 10) (sp_nv S) (nI v))) 11 (va_up (ar 11) (sp_nv S) (nI w))) 12 f2) zb k0) rfl rfl sV_X7_89 hx rfl rfl (cO) ⟨by decide, by decide⟩ ⟨by decide, by decide⟩ (Nat.le_of_ble_eq_true rfl) dX7_merge_328 ?_
                        refine zs_callVR (av := [.int (nI (41 * (32 * w + k0))), .int (nI (41 * (32 * zb + k0)))]) (st := []) (b := x) hE (m_X7_areAlike D E B l κ x ad (va_up sc 1 (sp_nv S + 1)) (va_up (va_up (va_up (va_up ar 9 (va_up (ar 9) (sp_nv S) (nI (sp_vp S v)))) 10 (va_up (ar 10) (sp_nv S) (nI v))) 11 (va_up (ar 11) (sp_nv S) (nI w))) 12 f2) (41 * (32 * w + k0)) (41 * (32 * zb + k0)) (sp_sv S w k0) (sp_sv S zb k0) (by omega) (by omega) db2 dz2 kb kc) rfl rfl sV_X7_126 hx rfl rfl (cO) ⟨by decide, by decide⟩ ⟨by decide, by decide⟩ (Nat.le_of_ble_eq_true rfl) dX7_merge_331 ?_
                        refine zs_if_neB (tgt := 348) hE dX7_merge_334 (by decide) (fun h12 => ?_) (fun h12 => ?_)
                        · refine zs_iconst (v := (nI 0)) hE dX7_merge_348 (by decide) ?_
                          refine zs_istore (lo' := [(13, .int (nI 0)), (0, .ref x), (1, .int (nI v)), (2, .int (nI w)), (4, .int (nI (sp_vp S v))), (5, .int (nI zb)), (6, .int (nI (sp_nv S))), (7, .int (nI k0)), (8, .int (nI (41 * (32 * v + k0)))), (9, .int (nI (41 * (32 * w + k0)))), (10, .int (nI (41 * (32 * sp_nv S + k0)))), (11, .int (nI (sp_ru S (sp_vp S v) (k0 % sp_pa S (sp_vp S v)))))]) hE dX7_merge_349 (by decide) rfl ?_
                          refine zs_iload hE 0 dX7_merge_351 rfl ?_
                          refine zs_if_eqN (tgt := 364) hE (by decide) dX7_merge_353 (by decide) (fun h21 => ?_) (fun h21 => ?_)
                          · refine zs_iincN (lo' := [(7, .int (nI (k0 + 1))), (13, .int (nI 0)), (0, .ref x), (1, .int (nI v)), (2, .int (nI w)), (4, .int (nI (sp_vp S v))), (5, .int (nI zb)), (6, .int (nI (sp_nv S))), (8, .int (nI (41 * (32 * v + k0)))), (9, .int (nI (41 * (32 * w + k0)))), (10, .int (nI (41 * (32 * sp_nv S + k0)))), (11, .int (nI (sp_ru S (sp_vp S v) (k0 % sp_pa S (sp_vp S v)))))]) hE 7 dX7_merge_364 rfl (by decide) rfl ?_
                            refine zs_goto (tgt := 120) hE dX7_merge_367 (by decide) ?_
                            refine zs_sub (lo' := [(7, .int (nI (k0 + 1))), (0, .ref x), (1, .int (nI v)), (2, .int (nI w)), (4, .int (nI (sp_vp S v))), (5, .int (nI zb)), (6, .int (nI (sp_nv S)))]) [0, 2, 3, 4, 5, 6, 7] rfl ?_
                            refine ih (k0 + 1) H11 f2 (⟨by omega, by omega, cO, fun j hj => ?_, fun t ht => ?_⟩) (by omega)
                            by_cases e : j = k0
                            · rw [e, ebn, hm1, pI_f (fun q => q.2.2.1 h12)]; exact dX
                            · exact (kf j (by omega)).mv (m1_ok (sv_ok wV lv (by omega)) (sv_ok wV lw (by rw [← h4]; omega))) (fun t ht => ce _ (by omega))
                            rw [ce _ (by omega)]; exact ke t ht
                          · exact absurd h21 (by decide)
                        · refine zs_iload hE 10 dX7_merge_337 rfl ?_
                          refine zs_bipush (v := (nI 98)) hE dX7_merge_339 (by decide) ?_
                          refine zs_icmp_neN (tgt := 348) hE (by omega) (by decide) dX7_merge_341 (by decide) (fun h13 => ?_) (fun h13 => ?_)
                          · refine zs_iconst (v := (nI 0)) hE dX7_merge_348 (by decide) ?_
                            refine zs_istore (lo' := [(13, .int (nI 0)), (0, .ref x), (1, .int (nI v)), (2, .int (nI w)), (4, .int (nI (sp_vp S v))), (5, .int (nI zb)), (6, .int (nI (sp_nv S))), (7, .int (nI k0)), (8, .int (nI (41 * (32 * v + k0)))), (9, .int (nI (41 * (32 * w + k0)))), (10, .int (nI (41 * (32 * sp_nv S + k0)))), (11, .int (nI (sp_ru S (sp_vp S v) (k0 % sp_pa S (sp_vp S v)))))]) hE dX7_merge_349 (by decide) rfl ?_
                            refine zs_iload hE 0 dX7_merge_351 rfl ?_
                            refine zs_if_eqN (tgt := 364) hE (by decide) dX7_merge_353 (by decide) (fun h21 => ?_) (fun h21 => ?_)
                            · refine zs_iincN (lo' := [(7, .int (nI (k0 + 1))), (13, .int (nI 0)), (0, .ref x), (1, .int (nI v)), (2, .int (nI w)), (4, .int (nI (sp_vp S v))), (5, .int (nI zb)), (6, .int (nI (sp_nv S))), (8, .int (nI (41 * (32 * v + k0)))), (9, .int (nI (41 * (32 * w + k0)))), (10, .int (nI (41 * (32 * sp_nv S + k0)))), (11, .int (nI (sp_ru S (sp_vp S v) (k0 % sp_pa S (sp_vp S v)))))]) hE 7 dX7_merge_364 rfl (by decide) rfl ?_
                              refine zs_goto (tgt := 120) hE dX7_merge_367 (by decide) ?_
                              refine zs_sub (lo' := [(7, .int (nI (k0 + 1))), (0, .ref x), (1, .int (nI v)), (2, .int (nI w)), (4, .int (nI (sp_vp S v))), (5, .int (nI zb)), (6, .int (nI (sp_nv S)))]) [0, 2, 3, 4, 5, 6, 7] rfl ?_
                              refine ih (k0 + 1) H11 f2 (⟨by omega, by omega, cO, fun j hj => ?_, fun t ht => ?_⟩) (by omega)
                              by_cases e : j = k0
                              · rw [e, ebn, hm1, pI_f (fun q => h13 q.2.2.2)]; exact dX
                              · exact (kf j (by omega)).mv (m1_ok (sv_ok wV lv (by omega)) (sv_ok wV lw (by rw [← h4]; omega))) (fun t ht => ce _ (by omega))
                              rw [ce _ (by omega)]; exact ke t ht
                            · exact absurd h21 (by decide)
                          · refine zs_iconst (v := (nI 1)) hE dX7_merge_344 (by decide) ?_
                            refine zs_goto (tgt := 349) hE dX7_merge_345 (by decide) ?_
                            refine zs_istore (lo' := [(13, .int (nI 1)), (0, .ref x), (1, .int (nI v)), (2, .int (nI w)), (4, .int (nI (sp_vp S v))), (5, .int (nI zb)), (6, .int (nI (sp_nv S))), (7, .int (nI k0)), (8, .int (nI (41 * (32 * v + k0)))), (9, .int (nI (41 * (32 * w + k0)))), (10, .int (nI (41 * (32 * sp_nv S + k0)))), (11, .int (nI (sp_ru S (sp_vp S v) (k0 % sp_pa S (sp_vp S v)))))]) hE dX7_merge_349 (by decide) rfl ?_
                            refine zs_iload hE 0 dX7_merge_351 rfl ?_
                            refine zs_if_eqN (tgt := 364) hE (by decide) dX7_merge_353 (by decide) (fun h21 => ?_) (fun h21 => ?_)
                            · exact absurd h21 (by decide)
                            · have hFF : FF := by rw [← hF]; exact Or.inr ⟨h11, Or.inr (Or.inl h13)⟩
                              rw [pI_t hFF] at dX
                              refine zs_aload_n hE 1 dX7_merge_356 rfl rfl ?_
                              refine zs_iload hE 9 dX7_merge_357 rfl ?_
                              refine zs_iload hE 10 dX7_merge_359 rfl ?_
                              refine zs_callV (av := [.int (nI (41 * (32 * w + k0))), .int (nI (41 * (32 * sp_nv S + k0)))]) (st := []) hE (m_X7_joins D E B l κ x ad (va_up sc 1 (sp_nv S + 1)) (va_up (va_up (va_up (va_up ar 9 (va_up (ar 9) (sp_nv S) (nI (sp_vp S v)))) 10 (va_up (ar 10) (sp_nv S) (nI v))) 11 (va_up (ar 11) (sp_nv S) (nI w))) 12 f2) (41 * (32 * w + k0)) (41 * (32 * sp_nv S + k0)) (sp_sv S w k0) (sp_sv S v k0) (by omega) (by omega) kb ka db2 dX) sV_X7_132 hx rfl rfl (cO) ⟨by decide, by decide⟩ ⟨by decide, by decide⟩ (fun q9 w9 => Or.inl w9) (Nat.le_of_ble_eq_true rfl) dX7_merge_361 (fun v12 H12 hv12 hz12 hk12 => ?_)
                              obtain ⟨rfl, ez9, f4, eO, ej, ee9⟩ := hv12
                              refine zs_widen (k' := 0) (n' := 0) (by decide) (by decide) ?_
                              have eO := md_12 eO
                              have ee9 : ∀ t, (t < 41 * (32 * sp_nv S + k0) ∨ 41 * (32 * sp_nv S + k0) + 41 ≤ t) → f4 t = f2 t := ee9
                              refine zs_iincN (lo' := [(7, .int (nI (k0 + 1))), (13, .int (nI 1)), (0, .ref x), (1, .int (nI v)), (2, .int (nI w)), (4, .int (nI (sp_vp S v))), (5, .int (nI zb)), (6, .int (nI (sp_nv S))), (8, .int (nI (41 * (32 * v + k0)))), (9, .int (nI (41 * (32 * w + k0)))), (10, .int (nI (41 * (32 * sp_nv S + k0)))), (11, .int (nI (sp_ru S (sp_vp S v) (k0 % sp_pa S (sp_vp S v)))))]) hE 7 dX7_merge_364 rfl (by decide) rfl ?_
                              refine zs_goto (tgt := 120) hE dX7_merge_367 (by decide) ?_
                              refine zs_sub (lo' := [(7, .int (nI (k0 + 1))), (0, .ref x), (1, .int (nI v)), (2, .int (nI w)), (4, .int (nI (sp_vp S v))), (5, .int (nI zb)), (6, .int (nI (sp_nv S)))]) [0, 2, 3, 4, 5, 6, 7] rfl ?_
                              refine ih (k0 + 1) H12 f4 (⟨by omega, by omega, eO, fun j hj => ?_, fun t ht => ?_⟩) (by omega)
                              by_cases e : j = k0
                              · rw [e, ebn, hm1, pI_t ⟨h10, h11, h12, h13⟩]; exact ej
                              · exact (kf j (by omega)).mv (m1_ok (sv_ok wV lv (by omega)) (sv_ok wV lw (by rw [← h4]; omega))) (fun t ht => by rw [ee9 _ (by omega)]; exact ce _ (by omega))
                              rw [ee9 _ (by omega), ce _ (by omega)]; exact ke t ht
                  · refine zs_aload_n hE 5 dX7_merge_181 rfl rfl ?_
                    refine zs_iload hE 3 dX7_merge_182 rfl ?_
                    refine zs_iload hE 2 dX7_merge_184 rfl ?_
                    refine zs_callVR (av := [.int (nI (41 * (32 * v + k0))), .int (nI (41 * (32 * w + k0)))]) (st := []) (b := x) hE (m_X7_areAlike D E B l κ x ad (va_up sc 1 (sp_nv S + 1)) (va_up (va_up (va_up (va_up ar 9 (va_up (ar 9) (sp_nv S) (nI (sp_vp S v)))) 10 (va_up (ar 10) (sp_nv S) (nI v))) 11 (va_up (ar 11) (sp_nv S) (nI w))) 12 f) (41 * (32 * v + k0)) (41 * (32 * w + k0)) (sp_sv S v k0) (sp_sv S w k0) (by omega) (by omega) da db ka kb) rfl rfl sV_X7_126 hx rfl rfl (kO) ⟨by decide, by decide⟩ ⟨by decide, by decide⟩ (Nat.le_of_ble_eq_true rfl) dX7_merge_186 ?_
                    refine zs_if_neB (tgt := 267) hE dX7_merge_189 (by decide) (fun h10 => ?_) (fun h10 => ?_)
                    · refine zs_iconst (v := (nI 1)) hE dX7_merge_267 (by decide) ?_
                      refine zs_goto (tgt := 272) hE dX7_merge_268 (by decide) ?_
                      refine zs_istore (lo' := [(12, .int (nI 1)), (11, .int (nI (sp_ru S (sp_vp S v) (k0 % sp_pa S (sp_vp S v))))), (10, .int (nI (41 * (32 * sp_nv S + k0)))), (9, .int (nI (41 * (32 * w + k0)))), (8, .int (nI (41 * (32 * v + k0)))), (7, .int (nI k0)), (0, .ref x), (1, .int (nI v)), (2, .int (nI w)), (4, .int (nI (sp_vp S v))), (5, .int (nI zb)), (6, .int (nI (sp_nv S)))]) hE dX7_merge_272 (by decide) rfl ?_
                      refine zs_aload_n hE 6 dX7_merge_274 rfl rfl ?_
                      refine zs_iload hE 0 dX7_merge_275 rfl ?_
                      refine zs_if_eqN (tgt := 285) hE (by decide) dX7_merge_277 (by decide) (fun h20 => ?_) (fun h20 => ?_)
                      · exact absurd h20 (by decide)
                      · refine zs_iload hE 4 dX7_merge_280 rfl ?_
                        refine zs_goto (tgt := 287) hE dX7_merge_282 (by decide) ?_
                        refine zs_top (v' := .int (nI (pI (sp_al (sp_sv S v k0) (sp_sv S w k0) ∨ ¬ sp_al (sp_sv S v k0) (sp_sv S zb k0) ∧ (sp_al (sp_sv S w k0) (sp_sv S zb k0) ∨ (sp_ru S (sp_vp S v) (k0 % sp_pa S (sp_vp S v))) = 98 ∨ ((sp_ru S (sp_vp S v) (k0 % sp_pa S (sp_vp S v))) = 108 ∧ w < v) ∨ ((sp_ru S (sp_vp S v) (k0 % sp_pa S (sp_vp S v))) = 110 ∧ sp_no (sp_sv S w k0) ≤ sp_no (sp_sv S v k0)))) (41 * (32 * v + k0)) (41 * (32 * w + k0))))) (by rw [pI_t (Or.inl h10)]) ?_
                        refine zs_sub (lo' := [(0, .ref x), (1, .int (nI v)), (2, .int (nI w)), (4, .int (nI (sp_vp S v))), (5, .int (nI zb)), (6, .int (nI (sp_nv S))), (7, .int (nI k0)), (8, .int (nI (41 * (32 * v + k0)))), (9, .int (nI (41 * (32 * w + k0)))), (10, .int (nI (41 * (32 * sp_nv S + k0)))), (11, .int (nI (sp_ru S (sp_vp S v) (k0 % sp_pa S (sp_vp S v)))))]) [6, 7, 8, 9, 10, 11, 5, 4, 3, 2, 1] rfl ?_
                        exact jn
                    · refine zs_aload_n hE 5 dX7_merge_192 rfl rfl ?_
                      refine zs_iload hE 3 dX7_merge_193 rfl ?_
                      refine zs_aload_n hE 5 dX7_merge_195 rfl rfl ?_
                      refine zs_iload hE 9 dX7_merge_196 rfl ?_
                      refine zs_iload hE 4 dX7_merge_198 rfl ?_
                      refine zs_callVR (av := [.int (nI zb), .int (nI k0)]) (st := [.int (nI (41 * (32 * v + k0))), .ref x]) (b := x) hE (m_X7_sheafAt D E B l κ x ad (va_up sc 1 (sp_nv S + 1)) (va_up (va_up (va_up (va_up ar 9 (va_up (ar 9) (sp_nv S) (nI (sp_vp S v)))) 10 (va_up (ar 10) (sp_nv S) (nI v))) 11 (va_up (ar 11) (sp_nv S) (nI w))) 12 f) zb k0) rfl rfl sV_X7_89 hx rfl rfl (kO) ⟨by decide, by decide⟩ ⟨by decide, by decide⟩ (Nat.le_of_ble_eq_true rfl) dX7_merge_200 ?_
                      refine zs_callVR (av := [.int (nI (41 * (32 * v + k0))), .int (nI (41 * (32 * zb + k0)))]) (st := []) (b := x) hE (m_X7_areAlike D E B l κ x ad (va_up sc 1 (sp_nv S + 1)) (va_up (va_up (va_up (va_up ar 9 (va_up (ar 9) (sp_nv S) (nI (sp_vp S v)))) 10 (va_up (ar 10) (sp_nv S) (nI v))) 11 (va_up (ar 11) (sp_nv S) (nI w))) 12 f) (41 * (32 * v + k0)) (41 * (32 * zb + k0)) (sp_sv S v k0) (sp_sv S zb k0) (by omega) (by omega) da dz ka kc) rfl rfl sV_X7_126 hx rfl rfl (kO) ⟨by decide, by decide⟩ ⟨by decide, by decide⟩ (Nat.le_of_ble_eq_true rfl) dX7_merge_203 ?_
                      refine zs_if_neB (tgt := 271) hE dX7_merge_206 (by decide) (fun h11 => ?_) (fun h11 => ?_)
                      · refine zs_iconst (v := (nI 0)) hE dX7_merge_271 (by decide) ?_
                        refine zs_istore (lo' := [(12, .int (nI 0)), (11, .int (nI (sp_ru S (sp_vp S v) (k0 % sp_pa S (sp_vp S v))))), (10, .int (nI (41 * (32 * sp_nv S + k0)))), (9, .int (nI (41 * (32 * w + k0)))), (8, .int (nI (41 * (32 * v + k0)))), (7, .int (nI k0)), (0, .ref x), (1, .int (nI v)), (2, .int (nI w)), (4, .int (nI (sp_vp S v))), (5, .int (nI zb)), (6, .int (nI (sp_nv S)))]) hE dX7_merge_272 (by decide) rfl ?_
                        refine zs_aload_n hE 6 dX7_merge_274 rfl rfl ?_
                        refine zs_iload hE 0 dX7_merge_275 rfl ?_
                        refine zs_if_eqN (tgt := 285) hE (by decide) dX7_merge_277 (by decide) (fun h20 => ?_) (fun h20 => ?_)
                        · refine zs_iload hE 3 dX7_merge_285 rfl ?_
                          refine zs_top (v' := .int (nI (pI (sp_al (sp_sv S v k0) (sp_sv S w k0) ∨ ¬ sp_al (sp_sv S v k0) (sp_sv S zb k0) ∧ (sp_al (sp_sv S w k0) (sp_sv S zb k0) ∨ (sp_ru S (sp_vp S v) (k0 % sp_pa S (sp_vp S v))) = 98 ∨ ((sp_ru S (sp_vp S v) (k0 % sp_pa S (sp_vp S v))) = 108 ∧ w < v) ∨ ((sp_ru S (sp_vp S v) (k0 % sp_pa S (sp_vp S v))) = 110 ∧ sp_no (sp_sv S w k0) ≤ sp_no (sp_sv S v k0)))) (41 * (32 * v + k0)) (41 * (32 * w + k0))))) (by rw [pI_f (fun q => by rcases q with q | q; exact h10 q; exact q.1 h11)]) ?_
                          refine zs_sub (lo' := [(0, .ref x), (1, .int (nI v)), (2, .int (nI w)), (4, .int (nI (sp_vp S v))), (5, .int (nI zb)), (6, .int (nI (sp_nv S))), (7, .int (nI k0)), (8, .int (nI (41 * (32 * v + k0)))), (9, .int (nI (41 * (32 * w + k0)))), (10, .int (nI (41 * (32 * sp_nv S + k0)))), (11, .int (nI (sp_ru S (sp_vp S v) (k0 % sp_pa S (sp_vp S v)))))]) [6, 7, 8, 9, 10, 11, 5, 4, 3, 2, 1] rfl ?_
                          exact jn
                        · exact absurd h20 (by decide)
                      · refine zs_aload_n hE 5 dX7_merge_209 rfl rfl ?_
                        refine zs_iload hE 2 dX7_merge_210 rfl ?_
                        refine zs_aload_n hE 5 dX7_merge_212 rfl rfl ?_
                        refine zs_iload hE 9 dX7_merge_213 rfl ?_
                        refine zs_iload hE 4 dX7_merge_215 rfl ?_
                        refine zs_callVR (av := [.int (nI zb), .int (nI k0)]) (st := [.int (nI (41 * (32 * w + k0))), .ref x]) (b := x) hE (m_X7_sheafAt D E B l κ x ad (va_up sc 1 (sp_nv S + 1)) (va_up (va_up (va_up (va_up ar 9 (va_up (ar 9) (sp_nv S) (nI (sp_vp S v)))) 10 (va_up (ar 10) (sp_nv S) (nI v))) 11 (va_up (ar 11) (sp_nv S) (nI w))) 12 f) zb k0) rfl rfl sV_X7_89 hx rfl rfl (kO) ⟨by decide, by decide⟩ ⟨by decide, by decide⟩ (Nat.le_of_ble_eq_true rfl) dX7_merge_217 ?_
                        refine zs_callVR (av := [.int (nI (41 * (32 * w + k0))), .int (nI (41 * (32 * zb + k0)))]) (st := []) (b := x) hE (m_X7_areAlike D E B l κ x ad (va_up sc 1 (sp_nv S + 1)) (va_up (va_up (va_up (va_up ar 9 (va_up (ar 9) (sp_nv S) (nI (sp_vp S v)))) 10 (va_up (ar 10) (sp_nv S) (nI v))) 11 (va_up (ar 11) (sp_nv S) (nI w))) 12 f) (41 * (32 * w + k0)) (41 * (32 * zb + k0)) (sp_sv S w k0) (sp_sv S zb k0) (by omega) (by omega) db dz kb kc) rfl rfl sV_X7_126 hx rfl rfl (kO) ⟨by decide, by decide⟩ ⟨by decide, by decide⟩ (Nat.le_of_ble_eq_true rfl) dX7_merge_220 ?_
                        refine zs_if_neB (tgt := 267) hE dX7_merge_223 (by decide) (fun h12 => ?_) (fun h12 => ?_)
                        · refine zs_iconst (v := (nI 1)) hE dX7_merge_267 (by decide) ?_
                          refine zs_goto (tgt := 272) hE dX7_merge_268 (by decide) ?_
                          refine zs_istore (lo' := [(12, .int (nI 1)), (11, .int (nI (sp_ru S (sp_vp S v) (k0 % sp_pa S (sp_vp S v))))), (10, .int (nI (41 * (32 * sp_nv S + k0)))), (9, .int (nI (41 * (32 * w + k0)))), (8, .int (nI (41 * (32 * v + k0)))), (7, .int (nI k0)), (0, .ref x), (1, .int (nI v)), (2, .int (nI w)), (4, .int (nI (sp_vp S v))), (5, .int (nI zb)), (6, .int (nI (sp_nv S)))]) hE dX7_merge_272 (by decide) rfl ?_
                          refine zs_aload_n hE 6 dX7_merge_274 rfl rfl ?_
                          refine zs_iload hE 0 dX7_merge_275 rfl ?_
                          refine zs_if_eqN (tgt := 285) hE (by decide) dX7_merge_277 (by decide) (fun h20 => ?_) (fun h20 => ?_)
                          · exact absurd h20 (by decide)
                          · refine zs_iload hE 4 dX7_merge_280 rfl ?_
                            refine zs_goto (tgt := 287) hE dX7_merge_282 (by decide) ?_
                            refine zs_top (v' := .int (nI (pI (sp_al (sp_sv S v k0) (sp_sv S w k0) ∨ ¬ sp_al (sp_sv S v k0) (sp_sv S zb k0) ∧ (sp_al (sp_sv S w k0) (sp_sv S zb k0) ∨ (sp_ru S (sp_vp S v) (k0 % sp_pa S (sp_vp S v))) = 98 ∨ ((sp_ru S (sp_vp S v) (k0 % sp_pa S (sp_vp S v))) = 108 ∧ w < v) ∨ ((sp_ru S (sp_vp S v) (k0 % sp_pa S (sp_vp S v))) = 110 ∧ sp_no (sp_sv S w k0) ≤ sp_no (sp_sv S v k0)))) (41 * (32 * v + k0)) (41 * (32 * w + k0))))) (by rw [pI_t (Or.inr ⟨h11, Or.inl h12⟩)]) ?_
                            refine zs_sub (lo' := [(0, .ref x), (1, .int (nI v)), (2, .int (nI w)), (4, .int (nI (sp_vp S v))), (5, .int (nI zb)), (6, .int (nI (sp_nv S))), (7, .int (nI k0)), (8, .int (nI (41 * (32 * v + k0)))), (9, .int (nI (41 * (32 * w + k0)))), (10, .int (nI (41 * (32 * sp_nv S + k0)))), (11, .int (nI (sp_ru S (sp_vp S v) (k0 % sp_pa S (sp_vp S v)))))]) [6, 7, 8, 9, 10, 11, 5, 4, 3, 2, 1] rfl ?_
                            exact jn
                        · refine zs_iload hE 0 dX7_merge_226 rfl ?_
                          refine zs_bipush (v := (nI 98)) hE dX7_merge_228 (by decide) ?_
                          refine zs_icmp_eqN (tgt := 267) hE (by omega) (by decide) dX7_merge_230 (by decide) (fun h13 => ?_) (fun h13 => ?_)
                          · refine zs_iconst (v := (nI 1)) hE dX7_merge_267 (by decide) ?_
                            refine zs_goto (tgt := 272) hE dX7_merge_268 (by decide) ?_
                            refine zs_istore (lo' := [(12, .int (nI 1)), (11, .int (nI (sp_ru S (sp_vp S v) (k0 % sp_pa S (sp_vp S v))))), (10, .int (nI (41 * (32 * sp_nv S + k0)))), (9, .int (nI (41 * (32 * w + k0)))), (8, .int (nI (41 * (32 * v + k0)))), (7, .int (nI k0)), (0, .ref x), (1, .int (nI v)), (2, .int (nI w)), (4, .int (nI (sp_vp S v))), (5, .int (nI zb)), (6, .int (nI (sp_nv S)))]) hE dX7_merge_272 (by decide) rfl ?_
                            refine zs_aload_n hE 6 dX7_merge_274 rfl rfl ?_
                            refine zs_iload hE 0 dX7_merge_275 rfl ?_
                            refine zs_if_eqN (tgt := 285) hE (by decide) dX7_merge_277 (by decide) (fun h20 => ?_) (fun h20 => ?_)
                            · exact absurd h20 (by decide)
                            · refine zs_iload hE 4 dX7_merge_280 rfl ?_
                              refine zs_goto (tgt := 287) hE dX7_merge_282 (by decide) ?_
                              refine zs_top (v' := .int (nI (pI (sp_al (sp_sv S v k0) (sp_sv S w k0) ∨ ¬ sp_al (sp_sv S v k0) (sp_sv S zb k0) ∧ (sp_al (sp_sv S w k0) (sp_sv S zb k0) ∨ (sp_ru S (sp_vp S v) (k0 % sp_pa S (sp_vp S v))) = 98 ∨ ((sp_ru S (sp_vp S v) (k0 % sp_pa S (sp_vp S v))) = 108 ∧ w < v) ∨ ((sp_ru S (sp_vp S v) (k0 % sp_pa S (sp_vp S v))) = 110 ∧ sp_no (sp_sv S w k0) ≤ sp_no (sp_sv S v k0)))) (41 * (32 * v + k0)) (41 * (32 * w + k0))))) (by rw [pI_t (Or.inr ⟨h11, Or.inr (Or.inl h13)⟩)]) ?_
                              refine zs_sub (lo' := [(0, .ref x), (1, .int (nI v)), (2, .int (nI w)), (4, .int (nI (sp_vp S v))), (5, .int (nI zb)), (6, .int (nI (sp_nv S))), (7, .int (nI k0)), (8, .int (nI (41 * (32 * v + k0)))), (9, .int (nI (41 * (32 * w + k0)))), (10, .int (nI (41 * (32 * sp_nv S + k0)))), (11, .int (nI (sp_ru S (sp_vp S v) (k0 % sp_pa S (sp_vp S v)))))]) [6, 7, 8, 9, 10, 11, 5, 4, 3, 2, 1] rfl ?_
                              exact jn
                          · refine zs_iload hE 0 dX7_merge_233 rfl ?_
                            refine zs_bipush (v := (nI 108)) hE dX7_merge_235 (by decide) ?_
                            refine zs_icmp_neN (tgt := 245) hE (by omega) (by decide) dX7_merge_237 (by decide) (fun h14 => ?_) (fun h14 => ?_)
                            · refine zs_iload hE 0 dX7_merge_245 rfl ?_
                              refine zs_bipush (v := (nI 110)) hE dX7_merge_247 (by decide) ?_
                              refine zs_icmp_neN (tgt := 271) hE (by omega) (by decide) dX7_merge_249 (by decide) (fun h15 => ?_) (fun h15 => ?_)
                              · refine zs_iconst (v := (nI 0)) hE dX7_merge_271 (by decide) ?_
                                refine zs_istore (lo' := [(12, .int (nI 0)), (11, .int (nI (sp_ru S (sp_vp S v) (k0 % sp_pa S (sp_vp S v))))), (10, .int (nI (41 * (32 * sp_nv S + k0)))), (9, .int (nI (41 * (32 * w + k0)))), (8, .int (nI (41 * (32 * v + k0)))), (7, .int (nI k0)), (0, .ref x), (1, .int (nI v)), (2, .int (nI w)), (4, .int (nI (sp_vp S v))), (5, .int (nI zb)), (6, .int (nI (sp_nv S)))]) hE dX7_merge_272 (by decide) rfl ?_
                                refine zs_aload_n hE 6 dX7_merge_274 rfl rfl ?_
                                refine zs_iload hE 0 dX7_merge_275 rfl ?_
                                refine zs_if_eqN (tgt := 285) hE (by decide) dX7_merge_277 (by decide) (fun h20 => ?_) (fun h20 => ?_)
                                · refine zs_iload hE 3 dX7_merge_285 rfl ?_
                                  refine zs_top (v' := .int (nI (pI (sp_al (sp_sv S v k0) (sp_sv S w k0) ∨ ¬ sp_al (sp_sv S v k0) (sp_sv S zb k0) ∧ (sp_al (sp_sv S w k0) (sp_sv S zb k0) ∨ (sp_ru S (sp_vp S v) (k0 % sp_pa S (sp_vp S v))) = 98 ∨ ((sp_ru S (sp_vp S v) (k0 % sp_pa S (sp_vp S v))) = 108 ∧ w < v) ∨ ((sp_ru S (sp_vp S v) (k0 % sp_pa S (sp_vp S v))) = 110 ∧ sp_no (sp_sv S w k0) ≤ sp_no (sp_sv S v k0)))) (41 * (32 * v + k0)) (41 * (32 * w + k0))))) (by rw [pI_f (fun q => by rcases q with q | ⟨-, q | q | q | q⟩; exact h10 q; exact h12 q; exact h13 q; exact h14 q.1; exact h15 q.1)]) ?_
                                  refine zs_sub (lo' := [(0, .ref x), (1, .int (nI v)), (2, .int (nI w)), (4, .int (nI (sp_vp S v))), (5, .int (nI zb)), (6, .int (nI (sp_nv S))), (7, .int (nI k0)), (8, .int (nI (41 * (32 * v + k0)))), (9, .int (nI (41 * (32 * w + k0)))), (10, .int (nI (41 * (32 * sp_nv S + k0)))), (11, .int (nI (sp_ru S (sp_vp S v) (k0 % sp_pa S (sp_vp S v)))))]) [6, 7, 8, 9, 10, 11, 5, 4, 3, 2, 1] rfl ?_
                                  exact jn
                                · exact absurd h20 (by decide)
                              · refine zs_aload_n hE 5 dX7_merge_252 rfl rfl ?_
                                refine zs_iload hE 3 dX7_merge_253 rfl ?_
                                refine zs_callVR (av := [.int (nI (41 * (32 * v + k0)))]) (st := []) (b := x) hE (m_X7_notesOf D E B l κ x ad (va_up sc 1 (sp_nv S + 1)) (va_up (va_up (va_up (va_up ar 9 (va_up (ar 9) (sp_nv S) (nI (sp_vp S v)))) 10 (va_up (ar 10) (sp_nv S) (nI v))) 11 (va_up (ar 11) (sp_nv S) (nI w))) 12 f) (41 * (32 * v + k0)) (sp_sv S v k0) (by omega) da ka) rfl rfl sV_X7_129 hx rfl rfl (kO) ⟨by decide, by decide⟩ ⟨by decide, by decide⟩ (Nat.le_of_ble_eq_true rfl) dX7_merge_255 ?_
                                refine zs_aload_n hE 5 dX7_merge_258 rfl rfl ?_
                                refine zs_iload hE 2 dX7_merge_259 rfl ?_
                                refine zs_callVR (av := [.int (nI (41 * (32 * w + k0)))]) (st := [.int (nI (sp_no (sp_sv S v k0)))]) (b := x) hE (m_X7_notesOf D E B l κ x ad (va_up sc 1 (sp_nv S + 1)) (va_up (va_up (va_up (va_up ar 9 (va_up (ar 9) (sp_nv S) (nI (sp_vp S v)))) 10 (va_up (ar 10) (sp_nv S) (nI v))) 11 (va_up (ar 11) (sp_nv S) (nI w))) 12 f) (41 * (32 * w + k0)) (sp_sv S w k0) (by omega) db kb) rfl rfl sV_X7_129 hx rfl rfl (kO) ⟨by decide, by decide⟩ ⟨by decide, by decide⟩ (Nat.le_of_ble_eq_true rfl) dX7_merge_261 ?_
                                refine zs_icmp_ltN (tgt := 271) hE (by omega) (by omega) dX7_merge_264 (by decide) (fun h16 => ?_) (fun h16 => ?_)
                                · refine zs_iconst (v := (nI 0)) hE dX7_merge_271 (by decide) ?_
                                  refine zs_istore (lo' := [(12, .int (nI 0)), (11, .int (nI (sp_ru S (sp_vp S v) (k0 % sp_pa S (sp_vp S v))))), (10, .int (nI (41 * (32 * sp_nv S + k0)))), (9, .int (nI (41 * (32 * w + k0)))), (8, .int (nI (41 * (32 * v + k0)))), (7, .int (nI k0)), (0, .ref x), (1, .int (nI v)), (2, .int (nI w)), (4, .int (nI (sp_vp S v))), (5, .int (nI zb)), (6, .int (nI (sp_nv S)))]) hE dX7_merge_272 (by decide) rfl ?_
                                  refine zs_aload_n hE 6 dX7_merge_274 rfl rfl ?_
                                  refine zs_iload hE 0 dX7_merge_275 rfl ?_
                                  refine zs_if_eqN (tgt := 285) hE (by decide) dX7_merge_277 (by decide) (fun h20 => ?_) (fun h20 => ?_)
                                  · refine zs_iload hE 3 dX7_merge_285 rfl ?_
                                    refine zs_top (v' := .int (nI (pI (sp_al (sp_sv S v k0) (sp_sv S w k0) ∨ ¬ sp_al (sp_sv S v k0) (sp_sv S zb k0) ∧ (sp_al (sp_sv S w k0) (sp_sv S zb k0) ∨ (sp_ru S (sp_vp S v) (k0 % sp_pa S (sp_vp S v))) = 98 ∨ ((sp_ru S (sp_vp S v) (k0 % sp_pa S (sp_vp S v))) = 108 ∧ w < v) ∨ ((sp_ru S (sp_vp S v) (k0 % sp_pa S (sp_vp S v))) = 110 ∧ sp_no (sp_sv S w k0) ≤ sp_no (sp_sv S v k0)))) (41 * (32 * v + k0)) (41 * (32 * w + k0))))) (by rw [pI_f (fun q => by rcases q with q | ⟨-, q | q | q | q⟩; exact h10 q; exact h12 q; exact h13 q; omega; omega)]) ?_
                                    refine zs_sub (lo' := [(0, .ref x), (1, .int (nI v)), (2, .int (nI w)), (4, .int (nI (sp_vp S v))), (5, .int (nI zb)), (6, .int (nI (sp_nv S))), (7, .int (nI k0)), (8, .int (nI (41 * (32 * v + k0)))), (9, .int (nI (41 * (32 * w + k0)))), (10, .int (nI (41 * (32 * sp_nv S + k0)))), (11, .int (nI (sp_ru S (sp_vp S v) (k0 % sp_pa S (sp_vp S v)))))]) [6, 7, 8, 9, 10, 11, 5, 4, 3, 2, 1] rfl ?_
                                    exact jn
                                  · exact absurd h20 (by decide)
                                · refine zs_iconst (v := (nI 1)) hE dX7_merge_267 (by decide) ?_
                                  refine zs_goto (tgt := 272) hE dX7_merge_268 (by decide) ?_
                                  refine zs_istore (lo' := [(12, .int (nI 1)), (11, .int (nI (sp_ru S (sp_vp S v) (k0 % sp_pa S (sp_vp S v))))), (10, .int (nI (41 * (32 * sp_nv S + k0)))), (9, .int (nI (41 * (32 * w + k0)))), (8, .int (nI (41 * (32 * v + k0)))), (7, .int (nI k0)), (0, .ref x), (1, .int (nI v)), (2, .int (nI w)), (4, .int (nI (sp_vp S v))), (5, .int (nI zb)), (6, .int (nI (sp_nv S)))]) hE dX7_merge_272 (by decide) rfl ?_
                                  refine zs_aload_n hE 6 dX7_merge_274 rfl rfl ?_
                                  refine zs_iload hE 0 dX7_merge_275 rfl ?_
                                  refine zs_if_eqN (tgt := 285) hE (by decide) dX7_merge_277 (by decide) (fun h20 => ?_) (fun h20 => ?_)
                                  · exact absurd h20 (by decide)
                                  · refine zs_iload hE 4 dX7_merge_280 rfl ?_
                                    refine zs_goto (tgt := 287) hE dX7_merge_282 (by decide) ?_
                                    refine zs_top (v' := .int (nI (pI (sp_al (sp_sv S v k0) (sp_sv S w k0) ∨ ¬ sp_al (sp_sv S v k0) (sp_sv S zb k0) ∧ (sp_al (sp_sv S w k0) (sp_sv S zb k0) ∨ (sp_ru S (sp_vp S v) (k0 % sp_pa S (sp_vp S v))) = 98 ∨ ((sp_ru S (sp_vp S v) (k0 % sp_pa S (sp_vp S v))) = 108 ∧ w < v) ∨ ((sp_ru S (sp_vp S v) (k0 % sp_pa S (sp_vp S v))) = 110 ∧ sp_no (sp_sv S w k0) ≤ sp_no (sp_sv S v k0)))) (41 * (32 * v + k0)) (41 * (32 * w + k0))))) (by rw [pI_t (Or.inr ⟨h11, Or.inr (Or.inr (Or.inr ⟨h15, by omega⟩))⟩)]) ?_
                                    refine zs_sub (lo' := [(0, .ref x), (1, .int (nI v)), (2, .int (nI w)), (4, .int (nI (sp_vp S v))), (5, .int (nI zb)), (6, .int (nI (sp_nv S))), (7, .int (nI k0)), (8, .int (nI (41 * (32 * v + k0)))), (9, .int (nI (41 * (32 * w + k0)))), (10, .int (nI (41 * (32 * sp_nv S + k0)))), (11, .int (nI (sp_ru S (sp_vp S v) (k0 % sp_pa S (sp_vp S v)))))]) [6, 7, 8, 9, 10, 11, 5, 4, 3, 2, 1] rfl ?_
                                    exact jn
                            · refine zs_iload_n hE 6 dX7_merge_240 rfl rfl ?_
                              refine zs_iload_n hE 7 dX7_merge_241 rfl rfl ?_
                              refine zs_icmp_gtN (tgt := 267) hE (by omega) (by omega) dX7_merge_242 (by decide) (fun h17 => ?_) (fun h17 => ?_)
                              · refine zs_iconst (v := (nI 1)) hE dX7_merge_267 (by decide) ?_
                                refine zs_goto (tgt := 272) hE dX7_merge_268 (by decide) ?_
                                refine zs_istore (lo' := [(12, .int (nI 1)), (11, .int (nI (sp_ru S (sp_vp S v) (k0 % sp_pa S (sp_vp S v))))), (10, .int (nI (41 * (32 * sp_nv S + k0)))), (9, .int (nI (41 * (32 * w + k0)))), (8, .int (nI (41 * (32 * v + k0)))), (7, .int (nI k0)), (0, .ref x), (1, .int (nI v)), (2, .int (nI w)), (4, .int (nI (sp_vp S v))), (5, .int (nI zb)), (6, .int (nI (sp_nv S)))]) hE dX7_merge_272 (by decide) rfl ?_
                                refine zs_aload_n hE 6 dX7_merge_274 rfl rfl ?_
                                refine zs_iload hE 0 dX7_merge_275 rfl ?_
                                refine zs_if_eqN (tgt := 285) hE (by decide) dX7_merge_277 (by decide) (fun h20 => ?_) (fun h20 => ?_)
                                · exact absurd h20 (by decide)
                                · refine zs_iload hE 4 dX7_merge_280 rfl ?_
                                  refine zs_goto (tgt := 287) hE dX7_merge_282 (by decide) ?_
                                  refine zs_top (v' := .int (nI (pI (sp_al (sp_sv S v k0) (sp_sv S w k0) ∨ ¬ sp_al (sp_sv S v k0) (sp_sv S zb k0) ∧ (sp_al (sp_sv S w k0) (sp_sv S zb k0) ∨ (sp_ru S (sp_vp S v) (k0 % sp_pa S (sp_vp S v))) = 98 ∨ ((sp_ru S (sp_vp S v) (k0 % sp_pa S (sp_vp S v))) = 108 ∧ w < v) ∨ ((sp_ru S (sp_vp S v) (k0 % sp_pa S (sp_vp S v))) = 110 ∧ sp_no (sp_sv S w k0) ≤ sp_no (sp_sv S v k0)))) (41 * (32 * v + k0)) (41 * (32 * w + k0))))) (by rw [pI_t (Or.inr ⟨h11, Or.inr (Or.inr (Or.inl ⟨h14, h17⟩))⟩)]) ?_
                                  refine zs_sub (lo' := [(0, .ref x), (1, .int (nI v)), (2, .int (nI w)), (4, .int (nI (sp_vp S v))), (5, .int (nI zb)), (6, .int (nI (sp_nv S))), (7, .int (nI k0)), (8, .int (nI (41 * (32 * v + k0)))), (9, .int (nI (41 * (32 * w + k0)))), (10, .int (nI (41 * (32 * sp_nv S + k0)))), (11, .int (nI (sp_ru S (sp_vp S v) (k0 % sp_pa S (sp_vp S v)))))]) [6, 7, 8, 9, 10, 11, 5, 4, 3, 2, 1] rfl ?_
                                  exact jn
                              · refine zs_iload hE 0 dX7_merge_245 rfl ?_
                                refine zs_bipush (v := (nI 110)) hE dX7_merge_247 (by decide) ?_
                                refine zs_icmp_neN (tgt := 271) hE (by omega) (by decide) dX7_merge_249 (by decide) (fun h15 => ?_) (fun h15 => ?_)
                                · refine zs_iconst (v := (nI 0)) hE dX7_merge_271 (by decide) ?_
                                  refine zs_istore (lo' := [(12, .int (nI 0)), (11, .int (nI (sp_ru S (sp_vp S v) (k0 % sp_pa S (sp_vp S v))))), (10, .int (nI (41 * (32 * sp_nv S + k0)))), (9, .int (nI (41 * (32 * w + k0)))), (8, .int (nI (41 * (32 * v + k0)))), (7, .int (nI k0)), (0, .ref x), (1, .int (nI v)), (2, .int (nI w)), (4, .int (nI (sp_vp S v))), (5, .int (nI zb)), (6, .int (nI (sp_nv S)))]) hE dX7_merge_272 (by decide) rfl ?_
                                  refine zs_aload_n hE 6 dX7_merge_274 rfl rfl ?_
                                  refine zs_iload hE 0 dX7_merge_275 rfl ?_
                                  refine zs_if_eqN (tgt := 285) hE (by decide) dX7_merge_277 (by decide) (fun h20 => ?_) (fun h20 => ?_)
                                  · refine zs_iload hE 3 dX7_merge_285 rfl ?_
                                    refine zs_top (v' := .int (nI (pI (sp_al (sp_sv S v k0) (sp_sv S w k0) ∨ ¬ sp_al (sp_sv S v k0) (sp_sv S zb k0) ∧ (sp_al (sp_sv S w k0) (sp_sv S zb k0) ∨ (sp_ru S (sp_vp S v) (k0 % sp_pa S (sp_vp S v))) = 98 ∨ ((sp_ru S (sp_vp S v) (k0 % sp_pa S (sp_vp S v))) = 108 ∧ w < v) ∨ ((sp_ru S (sp_vp S v) (k0 % sp_pa S (sp_vp S v))) = 110 ∧ sp_no (sp_sv S w k0) ≤ sp_no (sp_sv S v k0)))) (41 * (32 * v + k0)) (41 * (32 * w + k0))))) (by rw [pI_f (fun q => by rcases q with q | ⟨-, q | q | q | q⟩; exact h10 q; exact h12 q; exact h13 q; omega; exact h15 q.1)]) ?_
                                    refine zs_sub (lo' := [(0, .ref x), (1, .int (nI v)), (2, .int (nI w)), (4, .int (nI (sp_vp S v))), (5, .int (nI zb)), (6, .int (nI (sp_nv S))), (7, .int (nI k0)), (8, .int (nI (41 * (32 * v + k0)))), (9, .int (nI (41 * (32 * w + k0)))), (10, .int (nI (41 * (32 * sp_nv S + k0)))), (11, .int (nI (sp_ru S (sp_vp S v) (k0 % sp_pa S (sp_vp S v)))))]) [6, 7, 8, 9, 10, 11, 5, 4, 3, 2, 1] rfl ?_
                                    exact jn
                                  · exact absurd h20 (by decide)
                                · refine zs_aload_n hE 5 dX7_merge_252 rfl rfl ?_
                                  refine zs_iload hE 3 dX7_merge_253 rfl ?_
                                  refine zs_callVR (av := [.int (nI (41 * (32 * v + k0)))]) (st := []) (b := x) hE (m_X7_notesOf D E B l κ x ad (va_up sc 1 (sp_nv S + 1)) (va_up (va_up (va_up (va_up ar 9 (va_up (ar 9) (sp_nv S) (nI (sp_vp S v)))) 10 (va_up (ar 10) (sp_nv S) (nI v))) 11 (va_up (ar 11) (sp_nv S) (nI w))) 12 f) (41 * (32 * v + k0)) (sp_sv S v k0) (by omega) da ka) rfl rfl sV_X7_129 hx rfl rfl (kO) ⟨by decide, by decide⟩ ⟨by decide, by decide⟩ (Nat.le_of_ble_eq_true rfl) dX7_merge_255 ?_
                                  refine zs_aload_n hE 5 dX7_merge_258 rfl rfl ?_
                                  refine zs_iload hE 2 dX7_merge_259 rfl ?_
                                  refine zs_callVR (av := [.int (nI (41 * (32 * w + k0)))]) (st := [.int (nI (sp_no (sp_sv S v k0)))]) (b := x) hE (m_X7_notesOf D E B l κ x ad (va_up sc 1 (sp_nv S + 1)) (va_up (va_up (va_up (va_up ar 9 (va_up (ar 9) (sp_nv S) (nI (sp_vp S v)))) 10 (va_up (ar 10) (sp_nv S) (nI v))) 11 (va_up (ar 11) (sp_nv S) (nI w))) 12 f) (41 * (32 * w + k0)) (sp_sv S w k0) (by omega) db kb) rfl rfl sV_X7_129 hx rfl rfl (kO) ⟨by decide, by decide⟩ ⟨by decide, by decide⟩ (Nat.le_of_ble_eq_true rfl) dX7_merge_261 ?_
                                  refine zs_icmp_ltN (tgt := 271) hE (by omega) (by omega) dX7_merge_264 (by decide) (fun h16 => ?_) (fun h16 => ?_)
                                  · refine zs_iconst (v := (nI 0)) hE dX7_merge_271 (by decide) ?_
                                    refine zs_istore (lo' := [(12, .int (nI 0)), (11, .int (nI (sp_ru S (sp_vp S v) (k0 % sp_pa S (sp_vp S v))))), (10, .int (nI (41 * (32 * sp_nv S + k0)))), (9, .int (nI (41 * (32 * w + k0)))), (8, .int (nI (41 * (32 * v + k0)))), (7, .int (nI k0)), (0, .ref x), (1, .int (nI v)), (2, .int (nI w)), (4, .int (nI (sp_vp S v))), (5, .int (nI zb)), (6, .int (nI (sp_nv S)))]) hE dX7_merge_272 (by decide) rfl ?_
                                    refine zs_aload_n hE 6 dX7_merge_274 rfl rfl ?_
                                    refine zs_iload hE 0 dX7_merge_275 rfl ?_
                                    refine zs_if_eqN (tgt := 285) hE (by decide) dX7_merge_277 (by decide) (fun h20 => ?_) (fun h20 => ?_)
                                    · refine zs_iload hE 3 dX7_merge_285 rfl ?_
                                      refine zs_top (v' := .int (nI (pI (sp_al (sp_sv S v k0) (sp_sv S w k0) ∨ ¬ sp_al (sp_sv S v k0) (sp_sv S zb k0) ∧ (sp_al (sp_sv S w k0) (sp_sv S zb k0) ∨ (sp_ru S (sp_vp S v) (k0 % sp_pa S (sp_vp S v))) = 98 ∨ ((sp_ru S (sp_vp S v) (k0 % sp_pa S (sp_vp S v))) = 108 ∧ w < v) ∨ ((sp_ru S (sp_vp S v) (k0 % sp_pa S (sp_vp S v))) = 110 ∧ sp_no (sp_sv S w k0) ≤ sp_no (sp_sv S v k0)))) (41 * (32 * v + k0)) (41 * (32 * w + k0))))) (by rw [pI_f (fun q => by rcases q with q | ⟨-, q | q | q | q⟩; exact h10 q; exact h12 q; exact h13 q; omega; omega)]) ?_
                                      refine zs_sub (lo' := [(0, .ref x), (1, .int (nI v)), (2, .int (nI w)), (4, .int (nI (sp_vp S v))), (5, .int (nI zb)), (6, .int (nI (sp_nv S))), (7, .int (nI k0)), (8, .int (nI (41 * (32 * v + k0)))), (9, .int (nI (41 * (32 * w + k0)))), (10, .int (nI (41 * (32 * sp_nv S + k0)))), (11, .int (nI (sp_ru S (sp_vp S v) (k0 % sp_pa S (sp_vp S v)))))]) [6, 7, 8, 9, 10, 11, 5, 4, 3, 2, 1] rfl ?_
                                      exact jn
                                    · exact absurd h20 (by decide)
                                  · refine zs_iconst (v := (nI 1)) hE dX7_merge_267 (by decide) ?_
                                    refine zs_goto (tgt := 272) hE dX7_merge_268 (by decide) ?_
                                    refine zs_istore (lo' := [(12, .int (nI 1)), (11, .int (nI (sp_ru S (sp_vp S v) (k0 % sp_pa S (sp_vp S v))))), (10, .int (nI (41 * (32 * sp_nv S + k0)))), (9, .int (nI (41 * (32 * w + k0)))), (8, .int (nI (41 * (32 * v + k0)))), (7, .int (nI k0)), (0, .ref x), (1, .int (nI v)), (2, .int (nI w)), (4, .int (nI (sp_vp S v))), (5, .int (nI zb)), (6, .int (nI (sp_nv S)))]) hE dX7_merge_272 (by decide) rfl ?_
                                    refine zs_aload_n hE 6 dX7_merge_274 rfl rfl ?_
                                    refine zs_iload hE 0 dX7_merge_275 rfl ?_
                                    refine zs_if_eqN (tgt := 285) hE (by decide) dX7_merge_277 (by decide) (fun h20 => ?_) (fun h20 => ?_)
                                    · exact absurd h20 (by decide)
                                    · refine zs_iload hE 4 dX7_merge_280 rfl ?_
                                      refine zs_goto (tgt := 287) hE dX7_merge_282 (by decide) ?_
                                      refine zs_top (v' := .int (nI (pI (sp_al (sp_sv S v k0) (sp_sv S w k0) ∨ ¬ sp_al (sp_sv S v k0) (sp_sv S zb k0) ∧ (sp_al (sp_sv S w k0) (sp_sv S zb k0) ∨ (sp_ru S (sp_vp S v) (k0 % sp_pa S (sp_vp S v))) = 98 ∨ ((sp_ru S (sp_vp S v) (k0 % sp_pa S (sp_vp S v))) = 108 ∧ w < v) ∨ ((sp_ru S (sp_vp S v) (k0 % sp_pa S (sp_vp S v))) = 110 ∧ sp_no (sp_sv S w k0) ≤ sp_no (sp_sv S v k0)))) (41 * (32 * v + k0)) (41 * (32 * w + k0))))) (by rw [pI_t (Or.inr ⟨h11, Or.inr (Or.inr (Or.inr ⟨h15, by omega⟩))⟩)]) ?_
                                      refine zs_sub (lo' := [(0, .ref x), (1, .int (nI v)), (2, .int (nI w)), (4, .int (nI (sp_vp S v))), (5, .int (nI zb)), (6, .int (nI (sp_nv S))), (7, .int (nI k0)), (8, .int (nI (41 * (32 * v + k0)))), (9, .int (nI (41 * (32 * w + k0)))), (10, .int (nI (41 * (32 * sp_nv S + k0)))), (11, .int (nI (sp_ru S (sp_vp S v) (k0 % sp_pa S (sp_vp S v)))))]) [6, 7, 8, 9, 10, 11, 5, 4, 3, 2, 1] rfl ?_
                                      exact jn
              · refine zs_aload_n hE 0 dX7_merge_85 rfl rfl ?_
                refine zs_iconst (v := (nI 4)) hE dX7_merge_86 (by decide) ?_
                refine zs_callV (av := [.int (nI 4)]) (st := []) hE (m_X7_fails D E B l κ x ad sc ar 4) sV_X7_81 hx rfl rfl (hO) ⟨by decide, by decide⟩ ⟨by decide, by decide⟩ (fun q w9 => Or.inl w9) (Nat.le_of_ble_eq_true rfl) dX7_merge_87 (fun v13 H13 hv13 hz13 hk13 => ?_)
                obtain ⟨rfl, cz, cO⟩ := hv13
                refine zs_widen (k' := 0) (n' := 0) (by decide) (by decide) ?_
                exact zs_iret hE hr (mq_mk (S' := S) (v := .null) (k := 4) (by rw [o_merge, ev]; simp only []; rw [ew]; simp only []; rw [ee]; simp only []; rw [pI_f hno, pI_t (by omega)]; rfl) (by omega) (fun w9 => by cases w9) cO (mi_4 hM)) (by decide) (by decide) dX7_merge_90
            · refine zs_aload_n hE 0 dX7_merge_70 rfl rfl ?_
              refine zs_iconst (v := (nI 3)) hE dX7_merge_71 (by decide) ?_
              refine zs_callV (av := [.int (nI 3)]) (st := []) hE (m_X7_fails D E B l κ x ad sc ar 3) sV_X7_81 hx rfl rfl (hO) ⟨by decide, by decide⟩ ⟨by decide, by decide⟩ (fun q w9 => Or.inl w9) (Nat.le_of_ble_eq_true rfl) dX7_merge_72 (fun v14 H14 hv14 hz14 hk14 => ?_)
              obtain ⟨rfl, cz, cO⟩ := hv14
              refine zs_widen (k' := 0) (n' := 0) (by decide) (by decide) ?_
              exact zs_iret hE hr (mq_mk (S' := S) (v := .null) (k := 3) (by rw [o_merge, ev]; simp only []; rw [ew]; simp only []; rw [ee]; simp only []; rw [pI_t (Or.inr (Or.inl h6))]; rfl) (by omega) (fun w9 => by cases w9) cO (mi_4 hM)) (by decide) (by decide) dX7_merge_75
      · refine zs_aload_n hE 0 dX7_merge_31 rfl rfl ?_
        refine zs_iconst (v := (nI 2)) hE dX7_merge_32 (by decide) ?_
        refine zs_callV (av := [.int (nI 2)]) (st := []) hE (m_X7_fails D E B l κ x ad sc ar 2) sV_X7_81 hx rfl rfl (hO) ⟨by decide, by decide⟩ ⟨by decide, by decide⟩ (fun q w9 => Or.inl w9) (Nat.le_of_ble_eq_true rfl) dX7_merge_33 (fun v15 H15 hv15 hz15 hk15 => ?_)
        obtain ⟨rfl, cz, cO⟩ := hv15
        refine zs_widen (k' := 0) (n' := 0) (by decide) (by decide) ?_
        exact zs_iret hE hr (mq_mk (S' := S) (v := .null) (k := 2) (by rw [o_merge, ev]; simp only []; rw [ew]; simp only []; rw [Classical.not_not.mp h3]; rfl) cz (fun w9 => by cases w9) cO (mi_4 hM)) (by decide) (by decide) dX7_merge_36
    · refine zs_aload_n hE 0 dX7_merge_16 rfl rfl ?_
      refine zs_iconst (v := (nI 1)) hE dX7_merge_17 (by decide) ?_
      refine zs_callV (av := [.int (nI 1)]) (st := []) hE (m_X7_fails D E B l κ x ad sc ar 1) sV_X7_81 hx rfl rfl (hO) ⟨by decide, by decide⟩ ⟨by decide, by decide⟩ (fun q w9 => Or.inl w9) (Nat.le_of_ble_eq_true rfl) dX7_merge_18 (fun v16 H16 hv16 hz16 hk16 => ?_)
      obtain ⟨rfl, cz, cO⟩ := hv16
      refine zs_widen (k' := 0) (n' := 0) (by decide) (by decide) ?_
      exact zs_iret hE hr (mq_mk (S' := S) (v := .null) (k := 1) (by rw [o_merge, ev]; simp only []; rw [show sp_i z (sp_nv S) = none by rw [← mv0]; exact Classical.not_not.mp h2]; rfl) cz (fun w9 => by cases w9) cO (mi_4 hM)) (by decide) (by decide) dX7_merge_21


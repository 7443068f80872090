/-! the model's versions, read -/
theorem sl_fold {σ : Type} {S : sp_S} {v : Nat} (hb : sp_ba S (sp_vp S v) ≤ 8) (hq : sp_pa S (sp_vp S v) ≤ 4) (g : sp_Sh → σ → σ) (s : σ) : sp_f (sp_sl S v) g 32 s = itn (fun k t => g (sp_sv S v k) t) (sp_ba S (sp_vp S v) * sp_pa S (sp_vp S v)) s := by
  rw [← itn_slots (fun k t => g (sp_sv S v k) t) hb hq s]
  unfold sp_f
  refine itn_congr (fun j _ x => ?_)
  unfold sp_sl
  by_cases q : j / 4 < sp_ba S (sp_vp S v) ∧ j % 4 < sp_pa S (sp_vp S v)
  · rw [if_pos q, if_pos q]
  · rw [if_neg q, if_neg q]
theorem un_sm {S : sp_S} {v w : Nat} (hb : sp_ba S (sp_vp S v) ≤ 8) (hq : sp_pa S (sp_vp S v) ≤ 4) (hvw : sp_vp S v = sp_vp S w) : sp_un (sp_sl S v) (sp_sl S w) 32 = sm (fun k => pI (sp_al (sp_sv S v k) (sp_sv S w k)) 0 1) (sp_ba S (sp_vp S v) * sp_pa S (sp_vp S v)) := by
  unfold sp_un
  rw [sm_itn, sm_itn, ← itn_slots (fun k x => x + pI (sp_al (sp_sv S v k) (sp_sv S w k)) 0 1) hb hq 0]
  refine itn_congr (fun j _ x => ?_)
  unfold sp_sl
  rw [← hvw]
  by_cases q : j / 4 < sp_ba S (sp_vp S v) ∧ j % 4 < sp_pa S (sp_vp S v)
  · rw [if_pos q, if_pos q, if_pos q]
    congr 1
    by_cases z : sp_al (sp_sv S v (sp_pa S (sp_vp S v) * (j / 4) + j % 4)) (sp_sv S w (sp_pa S (sp_vp S v) * (j / 4) + j % 4))
    · rw [pI_t z, pI_t (sp_oal_s.mpr z)]
    · rw [pI_f z, pI_f (fun y => z (sp_oal_s.mp y))]
  · rw [if_neg q, if_neg q, if_neg q, pI_t sp_oal_n]; rfl
theorem sv_ok {S : sp_S} (hV : sw_V S) {v k : Nat} (hv : v < sp_nv S) (hk : k < sp_ba S (sp_vp S v) * sp_pa S (sp_vp S v)) : sp_ok (sp_sv S v k) := (hV v hv).2.2.2.2 k hk
theorem sz_le {S : sp_S} (hP : sw_P S) {i : Nat} (hi : i < sp_np S) : sp_ba S i * sp_pa S i ≤ 32 := by
  obtain ⟨-, h2, -, h4, -⟩ := hP.1 i hi
  exact Nat.mul_le_mul h2 h4

set_option maxHeartbeats 4000000 in
set_option maxRecDepth 100000 in
theorem m_X7_unlikeOf (D : va_G) (E : Nat → ClassId) (B : Nat) (l : Launch) (κ : Nat → Nat) (x : Nat) (ad sc : Nat → Nat) (ar : Nat → Nat → Int32) (S : sp_S) (v w : Nat) (hM : mi_ S sc ar) (hw : sp_wf S) (vl : v < sp_nv S) (wl : w < sp_nv S) (hvw : sp_vp S v = sp_vp S w) : zs_Ct D E B l yX7_unlikeOf cX7_unlikeOf 5 (some .int) ({ frames := 2, cells := 0, slots := 0, locals := 48 } : Room) [.ref x, .int (nI v), .int (nI w)] (fun H => md_O D E κ x ad sc ar H) (zs_N) (zs_ro (.int (nI (sp_un (sp_sl S v) (sp_sl S w) 32)))) := by
  refine zs_ct (by decide) (Nat.le_of_ble_eq_true rfl) (fun p e s m below meth c hE hr hin hp => ?_)
  refine zs_lo (lo' := [(0, .ref x), (1, .int (nI v)), (2, .int (nI w))]) rfl ?_
  have hO := hp
  obtain ⟨t0, hx, t5, t6, t7, t8, t9, t10, t11, t12, t13, t14, t15, t16, t17, t18, t19, t20, r5, r6, r7, r8, r9, r10, r11, r12, r13, r14, r15, r16, r17, r18, r19, r20⟩ := id hO
  obtain ⟨wN, wP, wV, wA, wH, wZ, wF⟩ := id hw
  obtain ⟨n6, n40, n12, n8, n99⟩ := id wN
  obtain ⟨⟨mp0, mP⟩, ⟨mv0, mV⟩, ⟨mt0, mT⟩, mH, ⟨mz0, mZ⟩, mE⟩ := id hM
  have szl := sz_le wP (wV v vl).1
  obtain ⟨-, b8, -, p4, -⟩ := wP.1 _ (wV v vl).1
  have vwl := (wV v vl).1
  rw [un_sm b8 p4 hvw]
  refine zs_iconst (v := (nI 0)) hE dX7_unlikeOf_0 (by decide) ?_
  refine zs_istore_n (lo' := [(3, .int (nI 0)), (0, .ref x), (1, .int (nI v)), (2, .int (nI w))]) hE dX7_unlikeOf_1 rfl (by decide) rfl ?_
  refine zs_iconst (v := (nI 0)) hE dX7_unlikeOf_2 (by decide) ?_
  refine zs_istore (lo' := [(4, .int (nI 0)), (3, .int (nI 0)), (0, .ref x), (1, .int (nI v)), (2, .int (nI w))]) hE dX7_unlikeOf_3 (by decide) rfl ?_
  refine zs_sub (lo' := [(4, .int (nI 0)), (3, .int (nI 0)), (0, .ref x), (1, .int (nI v)), (2, .int (nI w))]) [0, 1, 2, 3, 4] rfl ?_
  refine zs_ind1 (Hs := fun (k0 : Nat) => s.heap) (ks := fun (k0 : Nat) => 0) (ns := fun (k0 : Nat) => 0) (los := fun (k0 : Nat) => [(4, .int (nI k0)), (3, .int (nI (sm (fun k => pI (sp_al (sp_sv S v k) (sp_sv S w k)) 0 1) (k0)))), (0, .ref x), (1, .int (nI v)), (2, .int (nI w))]) (I := fun (k0 : Nat) => k0 ≤ sp_ba S (sp_vp S v) * sp_pa S (sp_vp S v)) (μ := fun (k0 : Nat) => sp_ba S (sp_vp S v) * sp_pa S (sp_vp S v) - k0) 0 (Nat.zero_le _) (fun k0 hi ih => ?_)
  try dsimp only at hi ih ⊢
  refine zs_iload hE 0 dX7_unlikeOf_5 rfl ?_
  refine zs_aload_n hE 2 dX7_unlikeOf_7 rfl rfl ?_
  refine zs_aload_n hE 2 dX7_unlikeOf_8 rfl rfl ?_
  refine zs_get hE fl_X7_39 hx rfl dX7_unlikeOf_9 ?_
  refine zs_iload_n hE 3 dX7_unlikeOf_12 rfl rfl ?_
  refine zs_iald hE r9 (by omega) (by decide) dX7_unlikeOf_13 ?_
  refine zs_top (v' := .int (nI (sp_vp S v))) (by rw [(mV v vl).1]) ?_
  refine zs_callVR (av := [.int (nI (sp_vp S v))]) (st := [.int (nI k0)]) (b := x) hE (m_X7_size D E B l κ x ad sc ar (sp_vp S v) (sp_ba S (sp_vp S v)) (sp_pa S (sp_vp S v)) (by have := (wV v vl).1; omega) (mP _ (wV v vl).1).1 (mP _ (wV v vl).1).2.1) rfl rfl sV_X7_106 hx rfl rfl (hO) ⟨by decide, by decide⟩ ⟨by decide, by decide⟩ (Nat.le_of_ble_eq_true rfl) dX7_unlikeOf_14 ?_
  refine zs_icmp_geN (tgt := 55) hE (by omega) (by omega) dX7_unlikeOf_17 (by decide) (fun h5 => ?_) (fun h => ?_)
  · obtain rfl : k0 = sp_ba S (sp_vp S v) * sp_pa S (sp_vp S v) := by omega
    refine zs_iload_n hE 1 dX7_unlikeOf_55 rfl rfl ?_
    exact zs_iret hE hr (⟨rfl, rfl⟩) (by decide) (by decide) dX7_unlikeOf_56
  · refine zs_iload_n hE 1 dX7_unlikeOf_20 rfl rfl ?_
    refine zs_aload_n hE 2 dX7_unlikeOf_21 rfl rfl ?_
    refine zs_aload_n hE 2 dX7_unlikeOf_22 rfl rfl ?_
    refine zs_iload_n hE 3 dX7_unlikeOf_23 rfl rfl ?_
    refine zs_iload hE 0 dX7_unlikeOf_24 rfl ?_
    refine zs_callVR (av := [.int (nI v), .int (nI k0)]) (st := [.ref x, .int (nI (sm (fun k => pI (sp_al (sp_sv S v k) (sp_sv S w k)) 0 1) (k0)))]) (b := x) hE (m_X7_sheafAt D E B l κ x ad sc ar v k0) rfl rfl sV_X7_89 hx rfl rfl (hO) ⟨by decide, by decide⟩ ⟨by decide, by decide⟩ (Nat.le_of_ble_eq_true rfl) dX7_unlikeOf_26 ?_
    refine zs_aload_n hE 2 dX7_unlikeOf_29 rfl rfl ?_
    refine zs_iload_n hE 4 dX7_unlikeOf_30 rfl rfl ?_
    refine zs_iload hE 0 dX7_unlikeOf_31 rfl ?_
    refine zs_callVR (av := [.int (nI w), .int (nI k0)]) (st := [.int (nI (41 * (32 * v + k0))), .ref x, .int (nI (sm (fun k => pI (sp_al (sp_sv S v k) (sp_sv S w k)) 0 1) (k0)))]) (b := x) hE (m_X7_sheafAt D E B l κ x ad sc ar w k0) rfl rfl sV_X7_89 hx rfl rfl (hO) ⟨by decide, by decide⟩ ⟨by decide, by decide⟩ (Nat.le_of_ble_eq_true rfl) dX7_unlikeOf_33 ?_
    refine zs_callVR (av := [.int (nI (41 * (32 * v + k0))), .int (nI (41 * (32 * w + k0)))]) (st := [.int (nI (sm (fun k => pI (sp_al (sp_sv S v k) (sp_sv S w k)) 0 1) (k0)))]) (b := x) hE (m_X7_areAlike D E B l κ x ad sc ar (41 * (32 * v + k0)) (41 * (32 * w + k0)) (sp_sv S v k0) (sp_sv S w k0) (by omega) (by omega) ((mV v vl).2.2.2 k0 h) ((mV w wl).2.2.2 k0 (by rw [← hvw]; exact h)) (sv_ok wV vl h) (sv_ok wV wl (by rw [← hvw]; exact h))) rfl rfl sV_X7_126 hx rfl rfl (hO) ⟨by decide, by decide⟩ ⟨by decide, by decide⟩ (Nat.le_of_ble_eq_true rfl) dX7_unlikeOf_36 ?_
    refine zs_if_eqB (tgt := 46) hE dX7_unlikeOf_39 (by decide) (fun h6 => ?_) (fun h6 => ?_)
    · refine zs_iconst (v := (nI 1)) hE dX7_unlikeOf_46 (by decide) ?_
      refine zs_iaddN hE dX7_unlikeOf_47 ?_
      refine zs_istore_n (lo' := [(3, .int (nI (sm (fun k => pI (sp_al (sp_sv S v k) (sp_sv S w k)) 0 1) (k0) + 1))), (4, .int (nI k0)), (0, .ref x), (1, .int (nI v)), (2, .int (nI w))]) hE dX7_unlikeOf_48 rfl (by decide) rfl ?_
      refine zs_iincN (lo' := [(4, .int (nI (k0 + 1))), (3, .int (nI (sm (fun k => pI (sp_al (sp_sv S v k) (sp_sv S w k)) 0 1) (k0) + 1))), (0, .ref x), (1, .int (nI v)), (2, .int (nI w))]) hE 1 dX7_unlikeOf_49 rfl (by decide) rfl ?_
      refine zs_goto (tgt := 5) hE dX7_unlikeOf_52 (by decide) ?_
      refine zs_sub (lo' := [(4, .int (nI (k0 + 1))), (3, .int (nI (sm (fun k => pI (sp_al (sp_sv S v k) (sp_sv S w k)) 0 1) (k0) + 1))), (0, .ref x), (1, .int (nI v)), (2, .int (nI w))]) [0, 1, 2, 3, 4] rfl ?_
      refine zs_lo (lo' := [(4, .int (nI (k0 + 1))), (3, .int (nI (sm (fun k => pI (sp_al (sp_sv S v k) (sp_sv S w k)) 0 1) (k0 + 1)))), (0, .ref x), (1, .int (nI v)), (2, .int (nI w))]) (by rw [show sm (fun k => pI (sp_al (sp_sv S v k) (sp_sv S w k)) 0 1) (k0 + 1) = sm (fun k => pI (sp_al (sp_sv S v k) (sp_sv S w k)) 0 1) k0 + pI (sp_al (sp_sv S v k0) (sp_sv S w k0)) 0 1 from rfl, pI_f h6]) ?_
      refine zs_sub (lo' := [(4, .int (nI (k0 + 1))), (3, .int (nI (sm (fun k => pI (sp_al (sp_sv S v k) (sp_sv S w k)) 0 1) (k0 + 1)))), (0, .ref x), (1, .int (nI v)), (2, .int (nI w))]) [0, 1, 2, 3, 4] rfl ?_
      exact ih (k0 + 1) (by omega) (by omega)
    · refine zs_iconst (v := (nI 0)) hE dX7_unlikeOf_42 (by decide) ?_
      refine zs_goto (tgt := 47) hE dX7_unlikeOf_43 (by decide) ?_
      refine zs_iaddN hE dX7_unlikeOf_47 ?_
      refine zs_istore_n (lo' := [(3, .int (nI (sm (fun k => pI (sp_al (sp_sv S v k) (sp_sv S w k)) 0 1) (k0) + 0))), (4, .int (nI k0)), (0, .ref x), (1, .int (nI v)), (2, .int (nI w))]) hE dX7_unlikeOf_48 rfl (by decide) rfl ?_
      refine zs_iincN (lo' := [(4, .int (nI (k0 + 1))), (3, .int (nI (sm (fun k => pI (sp_al (sp_sv S v k) (sp_sv S w k)) 0 1) (k0) + 0))), (0, .ref x), (1, .int (nI v)), (2, .int (nI w))]) hE 1 dX7_unlikeOf_49 rfl (by decide) rfl ?_
      refine zs_goto (tgt := 5) hE dX7_unlikeOf_52 (by decide) ?_
      refine zs_sub (lo' := [(4, .int (nI (k0 + 1))), (3, .int (nI (sm (fun k => pI (sp_al (sp_sv S v k) (sp_sv S w k)) 0 1) (k0) + 0))), (0, .ref x), (1, .int (nI v)), (2, .int (nI w))]) [0, 1, 2, 3, 4] rfl ?_
      refine zs_lo (lo' := [(4, .int (nI (k0 + 1))), (3, .int (nI (sm (fun k => pI (sp_al (sp_sv S v k) (sp_sv S w k)) 0 1) (k0 + 1)))), (0, .ref x), (1, .int (nI v)), (2, .int (nI w))]) (by rw [show sm (fun k => pI (sp_al (sp_sv S v k) (sp_sv S w k)) 0 1) (k0 + 1) = sm (fun k => pI (sp_al (sp_sv S v k) (sp_sv S w k)) 0 1) k0 + pI (sp_al (sp_sv S v k0) (sp_sv S w k0)) 0 1 from rfl, pI_t h6]) ?_
      refine zs_sub (lo' := [(4, .int (nI (k0 + 1))), (3, .int (nI (sm (fun k => pI (sp_al (sp_sv S v k) (sp_sv S w k)) 0 1) (k0 + 1)))), (0, .ref x), (1, .int (nI v)), (2, .int (nI w))]) [0, 1, 2, 3, 4] rfl ?_
      exact ih (k0 + 1) (by omega) (by omega)

set_option maxHeartbeats 4000000 in
set_option maxRecDepth 100000 in
theorem m_X7_isMark (D : va_G) (E : Nat → ClassId) (B : Nat) (l : Launch) (κ : Nat → Nat) (x : Nat) (ad sc : Nat → Nat) (ar : Nat → Nat → Int32) (j r i : Int32) (hn : sc 0 < 2 ^ 31) : zs_Ct D E B l yX7_isMark cX7_isMark 4 (some .boolean) ({ frames := 2, cells := 0, slots := 0, locals := 43 } : Room) [.ref x, .int j, .int r, .int i] (fun H => md_O D E κ x ad sc ar H) (zs_N) (zs_ro (.int (zs_b (sp_i j 5 ≠ none ∧ sp_i r 4 ≠ none ∧ sp_i i (sc 0) ≠ none)))) := by
  refine zs_ct (by decide) (Nat.le_of_ble_eq_true rfl) (fun p e s m below meth c hE hr hin hp => ?_)
  refine zs_lo (lo' := [(0, .ref x), (1, .int j), (2, .int r), (3, .int i)]) rfl ?_
  have hO := hp
  obtain ⟨t0, hx, t5, t6, t7, t8, t9, t10, t11, t12, t13, t14, t15, t16, t17, t18, t19, t20, r5, r6, r7, r8, r9, r10, r11, r12, r13, r14, r15, r16, r17, r18, r19, r20⟩ := id hO
  refine zs_iload_n hE 1 dX7_isMark_0 rfl rfl ?_
  refine zs_iconst (v := (nI 0)) hE dX7_isMark_1 (by decide) ?_
  refine zs_iconst (v := (nI 4)) hE dX7_isMark_2 (by decide) ?_
  refine zs_callSR (av := [.int j, .int (nI 0), .int (nI 4)]) (st := []) hE (m_X7_in D E B l j (nI 0) (nI 4)) rfl rfl sS_X7_77 (trivial) ⟨by decide, by decide⟩ ⟨by decide, by decide⟩ (Nat.le_of_ble_eq_true rfl) dX7_isMark_3 ?_
  refine zs_top (v' := .int (zs_b (sp_i j 5 ≠ none))) (by rw [← zs_bc (in_i (y := j) (n := 5) (by decide))]; rfl) ?_
  refine zs_if_eqB (tgt := 28) hE dX7_isMark_6 (by decide) (fun h1 => ?_) (fun h1 => ?_)
  · refine zs_iconst (v := (nI 0)) hE dX7_isMark_28 (by decide) ?_
    refine zs_top (v' := .int (zs_b (sp_i j 5 ≠ none ∧ sp_i r 4 ≠ none ∧ sp_i i (sc 0) ≠ none))) (vb0 (fun w => h1 w.1)) ?_
    exact zs_zret hE hr (zs_bnar _) (⟨rfl, rfl⟩) (by decide) (by decide) dX7_isMark_29
  · refine zs_iload_n hE 2 dX7_isMark_9 rfl rfl ?_
    refine zs_callSR (av := [.int r]) (st := []) hE (m_X7_isRound D E B l r) rfl rfl sS_X7_141 (trivial) ⟨by decide, by decide⟩ ⟨by decide, by decide⟩ (Nat.le_of_ble_eq_true rfl) dX7_isMark_10 ?_
    refine zs_if_eqB (tgt := 28) hE dX7_isMark_13 (by decide) (fun h2 => ?_) (fun h2 => ?_)
    · refine zs_iconst (v := (nI 0)) hE dX7_isMark_28 (by decide) ?_
      refine zs_top (v' := .int (zs_b (sp_i j 5 ≠ none ∧ sp_i r 4 ≠ none ∧ sp_i i (sc 0) ≠ none))) (vb0 (fun w => h2 w.2.1)) ?_
      exact zs_zret hE hr (zs_bnar _) (⟨rfl, rfl⟩) (by decide) (by decide) dX7_isMark_29
    · refine zs_aload_n hE 0 dX7_isMark_16 rfl rfl ?_
      refine zs_iload_n hE 3 dX7_isMark_17 rfl rfl ?_
      refine zs_callVR (av := [.int i]) (st := []) (b := x) hE (m_X7_isPiece D E B l κ x ad sc ar i hn) rfl rfl sV_X7_96 hx rfl rfl (hO) ⟨by decide, by decide⟩ ⟨by decide, by decide⟩ (Nat.le_of_ble_eq_true rfl) dX7_isMark_18 ?_
      refine zs_if_eqB (tgt := 28) hE dX7_isMark_21 (by decide) (fun h3 => ?_) (fun h3 => ?_)
      · refine zs_iconst (v := (nI 0)) hE dX7_isMark_28 (by decide) ?_
        refine zs_top (v' := .int (zs_b (sp_i j 5 ≠ none ∧ sp_i r 4 ≠ none ∧ sp_i i (sc 0) ≠ none))) (vb0 (fun w => h3 w.2.2)) ?_
        exact zs_zret hE hr (zs_bnar _) (⟨rfl, rfl⟩) (by decide) (by decide) dX7_isMark_29
      · refine zs_iconst (v := (nI 1)) hE dX7_isMark_24 (by decide) ?_
        refine zs_goto (tgt := 29) hE dX7_isMark_25 (by decide) ?_
        refine zs_top (v' := .int (zs_b (sp_i j 5 ≠ none ∧ sp_i r 4 ≠ none ∧ sp_i i (sc 0) ≠ none))) (vb1 ⟨h1, h2, h3⟩) ?_
        exact zs_zret hE hr (zs_bnar _) (⟨rfl, rfl⟩) (by decide) (by decide) dX7_isMark_29


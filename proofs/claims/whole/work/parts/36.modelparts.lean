theorem w_sm {S : sp_S} {v ed : Nat} (hb : sp_ba S (sp_vp S v) ≤ 8) (hq : sp_pa S (sp_vp S v) ≤ 4) : sp_w (sp_sl S v) ed = sm (fun k => sp_sp ed (sp_sv S v k)) (sp_ba S (sp_vp S v) * sp_pa S (sp_vp S v)) := by
  unfold sp_w
  rw [sl_fold hb hq, sm_itn]
set_option maxHeartbeats 4000000 in
set_option maxRecDepth 100000 in
theorem m_X7_partsOfAll (D : va_G) (E : Nat → ClassId) (B : Nat) (l : Launch) (κ : Nat → Nat) (x : Nat) (ad sc : Nat → Nat) (ar : Nat → Nat → Int32) (S : sp_S) (v ed : Nat) (hM : mi_ S sc ar) (hw : sp_wf S) (vl : v < sp_nv S) (hed : ed < 64) : zs_Ct D E B l yX7_partsOfAll cX7_partsOfAll 8 (some .int) ({ frames := 1, cells := 0, slots := 0, locals := 22 } : Room) [.ref x, .int (nI v), .int (nI ed)] (fun H => md_O D E κ x ad sc ar H) (zs_N) (zs_ro (.int (nI (sp_w (sp_sl S v) ed)))) := by
  refine zs_ct (by decide) (Nat.le_of_ble_eq_true rfl) (fun p e s m below meth c hE hr hin hp => ?_)
  refine zs_lo (lo' := [(0, .ref x), (1, .int (nI v)), (2, .int (nI ed))]) rfl ?_
  have hO := hp
  obtain ⟨t0, hx, t5, t6, t7, t8, t9, t10, t11, t12, t13, t14, t15, t16, t17, t18, t19, t20, r5, r6, r7, r8, r9, r10, r11, r12, r13, r14, r15, r16, r17, r18, r19, r20⟩ := id hO
  obtain ⟨wN, wP, wV, wA, wH, wZ, wF⟩ := id hw
  obtain ⟨n6, n40, n12, n8, n99⟩ := id wN
  obtain ⟨⟨mp0, mP⟩, ⟨mv0, mV⟩, ⟨mt0, mT⟩, mH, ⟨mz0, mZ⟩, mE⟩ := id hM
  have szl := sz_le wP (wV v vl).1
  obtain ⟨-, b8, -, p4, -⟩ := wP.1 _ (wV v vl).1
  have vwl := (wV v vl).1
  rw [w_sm b8 p4]
  refine zs_iconst (v := (nI 0)) hE dX7_partsOfAll_0 (by decide) ?_
  refine zs_istore_n (lo' := [(3, .int (nI 0)), (0, .ref x), (1, .int (nI v)), (2, .int (nI ed))]) hE dX7_partsOfAll_1 rfl (by decide) rfl ?_
  refine zs_iconst (v := (nI 0)) hE dX7_partsOfAll_2 (by decide) ?_
  refine zs_istore (lo' := [(4, .int (nI 0)), (3, .int (nI 0)), (0, .ref x), (1, .int (nI v)), (2, .int (nI ed))]) hE dX7_partsOfAll_3 (by decide) rfl ?_
  refine zs_sub (lo' := [(4, .int (nI 0)), (3, .int (nI 0)), (0, .ref x), (1, .int (nI v)), (2, .int (nI ed))]) [0, 1, 2, 3, 4] rfl ?_
  refine zs_ind1 (Hs := fun (k0 : Nat) => s.heap) (ks := fun (k0 : Nat) => 0) (ns := fun (k0 : Nat) => 0) (los := fun (k0 : Nat) => [(4, .int (nI k0)), (3, .int (nI (sm (fun k => sp_sp ed (sp_sv S v k)) (k0)))), (0, .ref x), (1, .int (nI v)), (2, .int (nI ed))]) (I := fun (k0 : Nat) => k0 ≤ sp_ba S (sp_vp S v) * sp_pa S (sp_vp S v)) (μ := fun (k0 : Nat) => sp_ba S (sp_vp S v) * sp_pa S (sp_vp S v) - k0) 0 (Nat.zero_le _) (fun k0 hi ih => ?_)
  try dsimp only at hi ih ⊢
  refine zs_iload hE 0 dX7_partsOfAll_5 rfl ?_
  refine zs_aload_n hE 2 dX7_partsOfAll_7 rfl rfl ?_
  refine zs_aload_n hE 2 dX7_partsOfAll_8 rfl rfl ?_
  refine zs_get hE fl_X7_39 hx rfl dX7_partsOfAll_9 ?_
  refine zs_iload_n hE 3 dX7_partsOfAll_12 rfl rfl ?_
  refine zs_iald hE r9 (by omega) (by decide) dX7_partsOfAll_13 ?_
  refine zs_top (v' := .int (nI (sp_vp S v))) (by rw [(mV v vl).1]) ?_
  refine zs_callVR (av := [.int (nI (sp_vp S v))]) (st := [.int (nI k0)]) (b := x) hE (m_X7_size D E B l κ x ad sc ar (sp_vp S v) (sp_ba S (sp_vp S v)) (sp_pa S (sp_vp S v)) (by have := (wV v vl).1; omega) (mP _ (wV v vl).1).1 (mP _ (wV v vl).1).2.1) rfl rfl sV_X7_106 hx rfl rfl (hO) ⟨by decide, by decide⟩ ⟨by decide, by decide⟩ (Nat.le_of_ble_eq_true rfl) dX7_partsOfAll_14 ?_
  refine zs_icmp_geN (tgt := 115) hE (by omega) (by omega) dX7_partsOfAll_17 (by decide) (fun h5 => ?_) (fun h => ?_)
  · obtain rfl : k0 = sp_ba S (sp_vp S v) * sp_pa S (sp_vp S v) := by omega
    refine zs_iload_n hE 1 dX7_partsOfAll_115 rfl rfl ?_
    exact zs_iret hE hr (⟨rfl, rfl⟩) (by decide) (by decide) dX7_partsOfAll_116
  · have ih0 := ih
    obtain ⟨d1, d2⟩ := (mV v vl).2.2.2 k0 h
    have okk := sv_ok wV vl h
    have ok4 := okk.2.1
    refine zs_aload_n hE 2 dX7_partsOfAll_20 rfl rfl ?_
    refine zs_iload_n hE 3 dX7_partsOfAll_21 rfl rfl ?_
    refine zs_iload hE 0 dX7_partsOfAll_22 rfl ?_
    refine zs_callVR (av := [.int (nI v), .int (nI k0)]) (st := []) (b := x) hE (m_X7_sheafAt D E B l κ x ad sc ar v k0) rfl rfl sV_X7_89 hx rfl rfl (hO) ⟨by decide, by decide⟩ ⟨by decide, by decide⟩ (Nat.le_of_ble_eq_true rfl) dX7_partsOfAll_24 ?_
    refine zs_istore (lo' := [(5, .int (nI (41 * (32 * v + k0)))), (4, .int (nI k0)), (3, .int (nI (sm (fun k => sp_sp ed (sp_sv S v k)) (k0)))), (0, .ref x), (1, .int (nI v)), (2, .int (nI ed))]) hE dX7_partsOfAll_27 (by decide) rfl ?_
    refine zs_iconst (v := (nI 0)) hE dX7_partsOfAll_29 (by decide) ?_
    refine zs_istore (lo' := [(6, .int (nI 0)), (5, .int (nI (41 * (32 * v + k0)))), (4, .int (nI k0)), (3, .int (nI (sm (fun k => sp_sp ed (sp_sv S v k)) (k0)))), (0, .ref x), (1, .int (nI v)), (2, .int (nI ed))]) hE dX7_partsOfAll_30 (by decide) rfl ?_
    refine zs_sub (lo' := [(6, .int (nI 0)), (3, .int (nI (sm (fun k => sp_sp ed (sp_sv S v k)) (k0)))), (0, .ref x), (1, .int (nI v)), (2, .int (nI ed)), (4, .int (nI k0)), (5, .int (nI (41 * (32 * v + k0))))]) [0, 3, 4, 5, 6, 2, 1] rfl ?_
    refine zs_ind1 (Hs := fun (n0 : Nat) => s.heap) (ks := fun (n0 : Nat) => 0) (ns := fun (n0 : Nat) => 0) (los := fun (n0 : Nat) => [(6, .int (nI n0)), (3, .int (nI (sm (fun k => sp_sp ed (sp_sv S v k)) k0 + sm (fun n => sp_rp ed ((sp_sv S v k0).getD n sp_d0)) (n0)))), (0, .ref x), (1, .int (nI v)), (2, .int (nI ed)), (4, .int (nI k0)), (5, .int (nI (41 * (32 * v + k0))))]) (I := fun (n0 : Nat) => n0 ≤ (sp_sv S v k0).length) (μ := fun (n0 : Nat) => (sp_sv S v k0).length - n0) 0 (Nat.zero_le _) (fun n0 hi ih => ?_)
    try dsimp only at hi ih ⊢
    refine zs_iload hE 0 dX7_partsOfAll_32 rfl ?_
    refine zs_aload_n hE 2 dX7_partsOfAll_34 rfl rfl ?_
    refine zs_get hE fl_X7_49 hx rfl dX7_partsOfAll_35 ?_
    refine zs_iload hE 6 dX7_partsOfAll_38 rfl ?_
    refine zs_iald hE r12 (by omega) (by decide) dX7_partsOfAll_40 ?_
    refine zs_top (v' := .int (nI ((sp_sv S v k0).length))) (by rw [d1]) ?_
    refine zs_icmp_geN (tgt := 109) hE (by omega) (by omega) dX7_partsOfAll_41 (by decide) (fun h1 => ?_) (fun h2 => ?_)
    · obtain rfl : n0 = (sp_sv S v k0).length := by omega
      refine zs_iincN (lo' := [(4, .int (nI (k0 + 1))), (6, .int (nI ((sp_sv S v k0).length))), (3, .int (nI (sm (fun k => sp_sp ed (sp_sv S v k)) k0 + sm (fun n => sp_rp ed ((sp_sv S v k0).getD n sp_d0)) ((sp_sv S v k0).length)))), (0, .ref x), (1, .int (nI v)), (2, .int (nI ed)), (5, .int (nI (41 * (32 * v + k0))))]) hE 5 dX7_partsOfAll_109 rfl (by decide) rfl ?_
      refine zs_goto (tgt := 5) hE dX7_partsOfAll_112 (by decide) ?_
      refine zs_sub (lo' := [(4, .int (nI (k0 + 1))), (3, .int (nI (sm (fun k => sp_sp ed (sp_sv S v k)) k0 + sm (fun n => sp_rp ed ((sp_sv S v k0).getD n sp_d0)) ((sp_sv S v k0).length)))), (0, .ref x), (1, .int (nI v)), (2, .int (nI ed))]) [0, 2, 3, 4, 5] rfl ?_
      refine zs_lo (lo' := [(4, .int (nI (k0 + 1))), (3, .int (nI (sm (fun k => sp_sp ed (sp_sv S v k)) (k0 + 1)))), (0, .ref x), (1, .int (nI v)), (2, .int (nI ed))]) (rfl) ?_
      exact ih0 (k0 + 1) (by omega) (by omega)
    · obtain ⟨g1, g2, g3⟩ := d2 n0 h2
      obtain ⟨g4, g5, -⟩ := ok_at okk h2
      refine zs_iload_n hE 4 dX7_partsOfAll_44 rfl rfl ?_
      refine zs_aload_n hE 2 dX7_partsOfAll_45 rfl rfl ?_
      refine zs_get hE fl_X7_49 hx rfl dX7_partsOfAll_46 ?_
      refine zs_iload hE 6 dX7_partsOfAll_49 rfl ?_
      refine zs_iconst (v := (nI 1)) hE dX7_partsOfAll_51 (by decide) ?_
      refine zs_iaddN hE dX7_partsOfAll_52 ?_
      refine zs_bipush (v := (nI 10)) hE dX7_partsOfAll_53 (by decide) ?_
      refine zs_iload hE 0 dX7_partsOfAll_55 rfl ?_
      refine zs_imulN hE dX7_partsOfAll_57 ?_
      refine zs_iaddN hE dX7_partsOfAll_58 ?_
      refine zs_iald hE r12 (by omega) (by decide) dX7_partsOfAll_59 ?_
      refine zs_top (v' := .int (nI (((sp_sv S v k0).getD n0 sp_d0).1))) (by rw [← g1]) ?_
      refine zs_ishr hE dX7_partsOfAll_60 ?_
      refine zs_iconst (v := (nI 1)) hE dX7_partsOfAll_61 (by decide) ?_
      refine zs_iand hE dX7_partsOfAll_62 ?_
      refine zs_top (v' := .int (nI (ed / 2 ^ ((sp_sv S v k0).getD n0 sp_d0).1 % 2))) (by rw [← sp_bit0 ed hed _ g4]) ?_
      refine zs_iconst (v := (nI 1)) hE dX7_partsOfAll_63 (by decide) ?_
      refine zs_icmp_neN (tgt := 71) hE (by omega) (by decide) dX7_partsOfAll_64 (by decide) (fun h3 => ?_) (fun h3 => ?_)
      · refine zs_iconst (v := (nI 0)) hE dX7_partsOfAll_71 (by decide) ?_
        refine zs_istore (lo' := [(7, .int (nI 0)), (6, .int (nI n0)), (3, .int (nI (sm (fun k => sp_sp ed (sp_sv S v k)) k0 + sm (fun n => sp_rp ed ((sp_sv S v k0).getD n sp_d0)) (n0)))), (0, .ref x), (1, .int (nI v)), (2, .int (nI ed)), (4, .int (nI k0)), (5, .int (nI (41 * (32 * v + k0))))]) hE dX7_partsOfAll_72 (by decide) rfl ?_
        refine zs_iload_n hE 2 dX7_partsOfAll_74 rfl rfl ?_
        refine zs_iload hE 0 dX7_partsOfAll_75 rfl ?_
        refine zs_if_eqN (tgt := 100) hE (by decide) dX7_partsOfAll_77 (by decide) (fun _ => ?_) (fun w => absurd w (by decide))
        refine zs_iconst (v := (nI 0)) hE dX7_partsOfAll_100 (by decide) ?_
        refine zs_iaddN hE dX7_partsOfAll_101 ?_
        refine zs_istore_n (lo' := [(3, .int (nI (sm (fun k => sp_sp ed (sp_sv S v k)) k0 + sm (fun n => sp_rp ed ((sp_sv S v k0).getD n sp_d0)) (n0) + 0))), (7, .int (nI 0)), (6, .int (nI n0)), (0, .ref x), (1, .int (nI v)), (2, .int (nI ed)), (4, .int (nI k0)), (5, .int (nI (41 * (32 * v + k0))))]) hE dX7_partsOfAll_102 rfl (by decide) rfl ?_
        refine zs_iincN (lo' := [(6, .int (nI (n0 + 1))), (3, .int (nI (sm (fun k => sp_sp ed (sp_sv S v k)) k0 + sm (fun n => sp_rp ed ((sp_sv S v k0).getD n sp_d0)) (n0) + 0))), (7, .int (nI 0)), (0, .ref x), (1, .int (nI v)), (2, .int (nI ed)), (4, .int (nI k0)), (5, .int (nI (41 * (32 * v + k0))))]) hE 2 dX7_partsOfAll_103 rfl (by decide) rfl ?_
        refine zs_goto (tgt := 32) hE dX7_partsOfAll_106 (by decide) ?_
        refine zs_sub (lo' := [(6, .int (nI (n0 + 1))), (3, .int (nI (sm (fun k => sp_sp ed (sp_sv S v k)) k0 + sm (fun n => sp_rp ed ((sp_sv S v k0).getD n sp_d0)) (n0) + 0))), (0, .ref x), (1, .int (nI v)), (2, .int (nI ed)), (4, .int (nI k0)), (5, .int (nI (41 * (32 * v + k0))))]) [0, 1, 3, 4, 5, 6, 7] rfl ?_
        refine zs_lo (lo' := [(6, .int (nI (n0 + 1))), (3, .int (nI (sm (fun k => sp_sp ed (sp_sv S v k)) k0 + sm (fun n => sp_rp ed ((sp_sv S v k0).getD n sp_d0)) (n0 + 1)))), (0, .ref x), (1, .int (nI v)), (2, .int (nI ed)), (4, .int (nI k0)), (5, .int (nI (41 * (32 * v + k0))))]) (by rw [show sm (fun n => sp_rp ed ((sp_sv S v k0).getD n sp_d0)) (n0 + 1) = sm (fun n => sp_rp ed ((sp_sv S v k0).getD n sp_d0)) n0 + sp_rp ed ((sp_sv S v k0).getD n0 sp_d0) from rfl, sp_rp, if_neg h3]; rfl) ?_
        refine zs_sub (lo' := [(6, .int (nI (n0 + 1))), (3, .int (nI (sm (fun k => sp_sp ed (sp_sv S v k)) k0 + sm (fun n => sp_rp ed ((sp_sv S v k0).getD n sp_d0)) (n0 + 1)))), (0, .ref x), (1, .int (nI v)), (2, .int (nI ed)), (4, .int (nI k0)), (5, .int (nI (41 * (32 * v + k0))))]) [0, 1, 2, 3, 4, 5, 6] rfl ?_
        exact ih (n0 + 1) (by omega) (by omega)
      · refine zs_iconst (v := (nI 1)) hE dX7_partsOfAll_67 (by decide) ?_
        refine zs_goto (tgt := 72) hE dX7_partsOfAll_68 (by decide) ?_
        refine zs_istore (lo' := [(7, .int (nI 1)), (6, .int (nI n0)), (3, .int (nI (sm (fun k => sp_sp ed (sp_sv S v k)) k0 + sm (fun n => sp_rp ed ((sp_sv S v k0).getD n sp_d0)) (n0)))), (0, .ref x), (1, .int (nI v)), (2, .int (nI ed)), (4, .int (nI k0)), (5, .int (nI (41 * (32 * v + k0))))]) hE dX7_partsOfAll_72 (by decide) rfl ?_
        refine zs_iload_n hE 2 dX7_partsOfAll_74 rfl rfl ?_
        refine zs_iload hE 0 dX7_partsOfAll_75 rfl ?_
        refine zs_if_eqN (tgt := 100) hE (by decide) dX7_partsOfAll_77 (by decide) (fun w => absurd w (by decide)) (fun _ => ?_)
        refine zs_aload_n hE 3 dX7_partsOfAll_80 rfl rfl ?_
        refine zs_get hE fl_X7_49 hx rfl dX7_partsOfAll_81 ?_
        refine zs_iload hE 7 dX7_partsOfAll_84 rfl ?_
        refine zs_iconst (v := (nI 2)) hE dX7_partsOfAll_86 (by decide) ?_
        refine zs_iaddN hE dX7_partsOfAll_87 ?_
        refine zs_bipush (v := (nI 10)) hE dX7_partsOfAll_88 (by decide) ?_
        refine zs_iload hE 1 dX7_partsOfAll_90 rfl ?_
        refine zs_imulN hE dX7_partsOfAll_92 ?_
        refine zs_iaddN hE dX7_partsOfAll_93 ?_
        refine zs_iald hE r12 (by omega) (by decide) dX7_partsOfAll_94 ?_
        refine zs_top (v' := .int (nI (((sp_sv S v k0).getD n0 sp_d0).2.length))) (by rw [show 41 * (32 * v + k0) + 2 + 10 * n0 = 41 * (32 * v + k0) + 1 + 10 * n0 + 1 by omega, g2]) ?_
        refine zs_iconst (v := (nI 1)) hE dX7_partsOfAll_95 (by decide) ?_
        refine zs_iaddN hE dX7_partsOfAll_96 ?_
        refine zs_goto (tgt := 101) hE dX7_partsOfAll_97 (by decide) ?_
        refine zs_iaddN hE dX7_partsOfAll_101 ?_
        refine zs_istore_n (lo' := [(3, .int (nI (sm (fun k => sp_sp ed (sp_sv S v k)) k0 + sm (fun n => sp_rp ed ((sp_sv S v k0).getD n sp_d0)) (n0) + (((sp_sv S v k0).getD n0 sp_d0).2.length + 1)))), (7, .int (nI 1)), (6, .int (nI n0)), (0, .ref x), (1, .int (nI v)), (2, .int (nI ed)), (4, .int (nI k0)), (5, .int (nI (41 * (32 * v + k0))))]) hE dX7_partsOfAll_102 rfl (by decide) rfl ?_
        refine zs_iincN (lo' := [(6, .int (nI (n0 + 1))), (3, .int (nI (sm (fun k => sp_sp ed (sp_sv S v k)) k0 + sm (fun n => sp_rp ed ((sp_sv S v k0).getD n sp_d0)) (n0) + (((sp_sv S v k0).getD n0 sp_d0).2.length + 1)))), (7, .int (nI 1)), (0, .ref x), (1, .int (nI v)), (2, .int (nI ed)), (4, .int (nI k0)), (5, .int (nI (41 * (32 * v + k0))))]) hE 2 dX7_partsOfAll_103 rfl (by decide) rfl ?_
        refine zs_goto (tgt := 32) hE dX7_partsOfAll_106 (by decide) ?_
        refine zs_sub (lo' := [(6, .int (nI (n0 + 1))), (3, .int (nI (sm (fun k => sp_sp ed (sp_sv S v k)) k0 + sm (fun n => sp_rp ed ((sp_sv S v k0).getD n sp_d0)) (n0) + (((sp_sv S v k0).getD n0 sp_d0).2.length + 1)))), (0, .ref x), (1, .int (nI v)), (2, .int (nI ed)), (4, .int (nI k0)), (5, .int (nI (41 * (32 * v + k0))))]) [0, 1, 3, 4, 5, 6, 7] rfl ?_
        refine zs_lo (lo' := [(6, .int (nI (n0 + 1))), (3, .int (nI (sm (fun k => sp_sp ed (sp_sv S v k)) k0 + sm (fun n => sp_rp ed ((sp_sv S v k0).getD n sp_d0)) (n0 + 1)))), (0, .ref x), (1, .int (nI v)), (2, .int (nI ed)), (4, .int (nI k0)), (5, .int (nI (41 * (32 * v + k0))))]) (by rw [show sm (fun n => sp_rp ed ((sp_sv S v k0).getD n sp_d0)) (n0 + 1) = sm (fun n => sp_rp ed ((sp_sv S v k0).getD n sp_d0)) n0 + sp_rp ed ((sp_sv S v k0).getD n0 sp_d0) from rfl, sp_rp, if_pos h3, Nat.add_assoc (sm (fun k => sp_sp ed (sp_sv S v k)) k0)]) ?_
        refine zs_sub (lo' := [(6, .int (nI (n0 + 1))), (3, .int (nI (sm (fun k => sp_sp ed (sp_sv S v k)) k0 + sm (fun n => sp_rp ed ((sp_sv S v k0).getD n sp_d0)) (n0 + 1)))), (0, .ref x), (1, .int (nI v)), (2, .int (nI ed)), (4, .int (nI k0)), (5, .int (nI (41 * (32 * v + k0))))]) [0, 1, 2, 3, 4, 5, 6] rfl ?_
        exact ih (n0 + 1) (by omega) (by omega)


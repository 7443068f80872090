/-! the model: answers that are no ints; checksum -/
def mg_ {α : Type} (c : α → Value) (D : va_G) (E : Nat → ClassId) (κ : Nat → Nat) (x : Nat) (ad : Nat → Nat) (o : sp_R3) : Option Value → Heap → Heap → Prop := fun u H H1 => H1.size = H.size ∧ (∃ w : α, u = some (c w) ∧ (o.1 = 0 → c w = o.2.1)) ∧ ∃ (sc : Nat → Nat) (ar : Nat → Nat → Int32), md_O D E κ x ad sc ar H1 ∧ mi_ o.2.2 sc ar ∧ sc 4 = o.1
theorem mg_mk {α : Type} (c : α → Value) {D : va_G} {E : Nat → ClassId} {κ : Nat → Nat} {x : Nat} {ad : Nat → Nat} {o : sp_R3} {w : α} {H H1 : Heap} {sc : Nat → Nat} {ar : Nat → Nat → Int32} {S' : sp_S} {k : Nat} {v : Value} (ho : o = (k, v, S')) (hz : H1.size = H.size) (hv : k = 0 → c w = v) (hO : md_O D E κ x ad (va_up sc 4 k) ar H1) (hM : mi_ S' (va_up sc 4 k) ar) : mg_ c D E κ x ad o (some (c w)) H H1 := by
  subst ho
  exact ⟨hz, ⟨w, rfl, hv⟩, _, _, hO, hM, va_up_self _ _ _⟩

set_option maxHeartbeats 4000000 in
set_option maxRecDepth 100000 in
theorem m_X7_checksum (D : va_G) (E : Nat → ClassId) (B : Nat) (l : Launch) (κ : Nat → Nat) (x : Nat) (ad sc : Nat → Nat) (ar : Nat → Nat → Int32) (S : sp_S) (y : Int32) (hM : mi_ S sc ar) (hw : sp_wf S) : zs_Ct D E B l yX7_checksum cX7_checksum 9 (some .long) ({ frames := 2, cells := 0, slots := 0, locals := 43 } : Room) [.ref x, .int y] (fun H => md_O D E κ x ad sc ar H) (md_F κ) (mg_ Value.long D E κ x ad (o_checksum S y)) := by
  refine zs_ct (by decide) (Nat.le_of_ble_eq_true rfl) (fun p e s m below meth c hE hr hin hp => ?_)
  refine zs_lo (lo' := [(0, .ref x), (1, .int y)]) rfl ?_
  have hO := hp
  obtain ⟨t0, hx, t5, t6, t7, t8, t9, t10, t11, t12, t13, t14, t15, t16, t17, t18, t19, t20, r5, r6, r7, r8, r9, r10, r11, r12, r13, r14, r15, r16, r17, r18, r19, r20⟩ := id hO
  obtain ⟨wN, wP, wV, wA, wH, wZ, wF⟩ := id hw
  obtain ⟨n6, n40, n12, n8, n99⟩ := id wN
  obtain ⟨⟨mp0, mP⟩, ⟨mv0, mV⟩, ⟨mt0, mT⟩, mH, ⟨mz0, mZ⟩, mE⟩ := id hM
  refine zs_aload_n hE 0 dX7_checksum_0 rfl rfl ?_
  refine zs_aload_n hE 0 dX7_checksum_1 rfl rfl ?_
  refine zs_iload_n hE 1 dX7_checksum_2 rfl rfl ?_
  refine zs_callVR (av := [.int y]) (st := [.ref x]) (b := x) hE (m_X7_isVersion D E B l κ x ad sc ar y (by omega)) rfl rfl sV_X7_100 hx rfl rfl (hO) ⟨by decide, by decide⟩ ⟨by decide, by decide⟩ (Nat.le_of_ble_eq_true rfl) dX7_checksum_3 ?_
  refine zs_if_eqB (tgt := 13) hE dX7_checksum_6 (by decide) (fun h1 => ?_) (fun h1 => ?_)
  · refine zs_iconst (v := (nI 1)) hE dX7_checksum_13 (by decide) ?_
    refine zs_put (v := .int (nI 1)) hE fl_X7_22 hx (Or.inl (show 500 ≤ κ x by omega)) (rfl) (rfl) (Nat.le_of_ble_eq_true rfl) dX7_checksum_14 (fun H1 hp1 hz1 ho1 => ?_)
    have r5 := zs_pt.kept r5 (ho1 _ (cs_ne t5 t0 (by decide)))
    have r6 := zs_pt.kept r6 (ho1 _ (cs_ne t6 t0 (by decide)))
    have r7 := zs_pt.kept r7 (ho1 _ (cs_ne t7 t0 (by decide)))
    have r8 := zs_pt.kept r8 (ho1 _ (cs_ne t8 t0 (by decide)))
    have r9 := zs_pt.kept r9 (ho1 _ (cs_ne t9 t0 (by decide)))
    have r10 := zs_pt.kept r10 (ho1 _ (cs_ne t10 t0 (by decide)))
    have r11 := zs_pt.kept r11 (ho1 _ (cs_ne t11 t0 (by decide)))
    have r12 := zs_pt.kept r12 (ho1 _ (cs_ne t12 t0 (by decide)))
    have r13 := zs_pt.kept r13 (ho1 _ (cs_ne t13 t0 (by decide)))
    have r14 := zs_pt.kept r14 (ho1 _ (cs_ne t14 t0 (by decide)))
    have r15 := zs_pt.kept r15 (ho1 _ (cs_ne t15 t0 (by decide)))
    have r16 := zs_pt.kept r16 (ho1 _ (cs_ne t16 t0 (by decide)))
    have r17 := zs_pt.kept r17 (ho1 _ (cs_ne t17 t0 (by decide)))
    have r18 := zs_pt.kept r18 (ho1 _ (cs_ne t18 t0 (by decide)))
    have r19 := zs_pt.kept r19 (ho1 _ (cs_ne t19 t0 (by decide)))
    have r20 := zs_pt.kept r20 (ho1 _ (cs_ne t20 t0 (by decide)))
    have hp1 : zs_pt D x (.inr (7, [.int (nI (sc 0)), .int (nI (sc 1)), .int (nI (sc 2)), .int (nI (sc 3)), .int (nI 1), .ref (ad 5), .ref (ad 6), .ref (ad 7), .ref (ad 8), .ref (ad 9), .ref (ad 10), .ref (ad 11), .ref (ad 12), .ref (ad 13), .ref (ad 14), .ref (ad 15), .ref (ad 16), .ref (ad 17), .ref (ad 18), .ref (ad 19), .ref (ad 20)])) H1 := hp1
    have hO4 : md_O D E κ x ad (va_up sc 4 1) ar H1 := ⟨t0, hp1, t5, t6, t7, t8, t9, t10, t11, t12, t13, t14, t15, t16, t17, t18, t19, t20, r5, r6, r7, r8, r9, r10, r11, r12, r13, r14, r15, r16, r17, r18, r19, r20⟩
    refine zs_aload_n hE 0 dX7_checksum_17 rfl rfl ?_
    refine zs_get hE fl_X7_22 hp1 rfl dX7_checksum_18 ?_
    refine zs_if_leN (tgt := 26) hE (by decide) dX7_checksum_21 (by decide) (fun h9 => ?_) (fun h9 => ?_)
    · exact absurd h9 (by decide)
    · refine zs_lconst (v := (0 : Int64)) hE dX7_checksum_24 (by decide) ?_
      exact zs_lret hE hr (mg_mk Value.long (S' := S) (v := .null) (k := 1) (by rw [o_checksum, show sp_i y (sp_nv S) = none by rw [← mv0]; exact Classical.not_not.mp h1]; rfl) (by omega) (fun w9 => by cases w9) hO4 (mi_4 hM)) (by decide) (by decide) dX7_checksum_25
  · obtain ⟨v, ev⟩ : ∃ e, sp_i y (sp_nv S) = some e := by cases z9 : sp_i y (sp_nv S) with | none => (rw [mv0] at h1; exact absurd z9 h1) | some j => exact ⟨j, rfl⟩
    have lv := (sp_i_lt ev).1
    refine zs_lo (lo' := [(0, .ref x), (1, .int (nI v))]) (by rw [(sp_i_lt ev).2]) ?_
    have vwl := (wV v lv).1
    have szl := sz_le wP vwl
    obtain ⟨-, b8, -, p4, -⟩ := wP.1 _ vwl
    refine zs_iconst (v := (nI 0)) hE dX7_checksum_9 (by decide) ?_
    refine zs_goto (tgt := 14) hE dX7_checksum_10 (by decide) ?_
    refine zs_put (v := .int (nI 0)) hE fl_X7_22 hx (Or.inl (show 500 ≤ κ x by omega)) (rfl) (rfl) (Nat.le_of_ble_eq_true rfl) dX7_checksum_14 (fun H2 hp2 hz2 ho2 => ?_)
    have r5 := zs_pt.kept r5 (ho2 _ (cs_ne t5 t0 (by decide)))
    have r6 := zs_pt.kept r6 (ho2 _ (cs_ne t6 t0 (by decide)))
    have r7 := zs_pt.kept r7 (ho2 _ (cs_ne t7 t0 (by decide)))
    have r8 := zs_pt.kept r8 (ho2 _ (cs_ne t8 t0 (by decide)))
    have r9 := zs_pt.kept r9 (ho2 _ (cs_ne t9 t0 (by decide)))
    have r10 := zs_pt.kept r10 (ho2 _ (cs_ne t10 t0 (by decide)))
    have r11 := zs_pt.kept r11 (ho2 _ (cs_ne t11 t0 (by decide)))
    have r12 := zs_pt.kept r12 (ho2 _ (cs_ne t12 t0 (by decide)))
    have r13 := zs_pt.kept r13 (ho2 _ (cs_ne t13 t0 (by decide)))
    have r14 := zs_pt.kept r14 (ho2 _ (cs_ne t14 t0 (by decide)))
    have r15 := zs_pt.kept r15 (ho2 _ (cs_ne t15 t0 (by decide)))
    have r16 := zs_pt.kept r16 (ho2 _ (cs_ne t16 t0 (by decide)))
    have r17 := zs_pt.kept r17 (ho2 _ (cs_ne t17 t0 (by decide)))
    have r18 := zs_pt.kept r18 (ho2 _ (cs_ne t18 t0 (by decide)))
    have r19 := zs_pt.kept r19 (ho2 _ (cs_ne t19 t0 (by decide)))
    have r20 := zs_pt.kept r20 (ho2 _ (cs_ne t20 t0 (by decide)))
    have hp2 : zs_pt D x (.inr (7, [.int (nI (sc 0)), .int (nI (sc 1)), .int (nI (sc 2)), .int (nI (sc 3)), .int (nI 0), .ref (ad 5), .ref (ad 6), .ref (ad 7), .ref (ad 8), .ref (ad 9), .ref (ad 10), .ref (ad 11), .ref (ad 12), .ref (ad 13), .ref (ad 14), .ref (ad 15), .ref (ad 16), .ref (ad 17), .ref (ad 18), .ref (ad 19), .ref (ad 20)])) H2 := hp2
    have hO4 : md_O D E κ x ad (va_up sc 4 0) ar H2 := ⟨t0, hp2, t5, t6, t7, t8, t9, t10, t11, t12, t13, t14, t15, t16, t17, t18, t19, t20, r5, r6, r7, r8, r9, r10, r11, r12, r13, r14, r15, r16, r17, r18, r19, r20⟩
    refine zs_aload_n hE 0 dX7_checksum_17 rfl rfl ?_
    refine zs_get hE fl_X7_22 hp2 rfl dX7_checksum_18 ?_
    refine zs_if_leN (tgt := 26) hE (by decide) dX7_checksum_21 (by decide) (fun h9 => ?_) (fun h9 => ?_)
    · refine zs_ldc2 hE k_X7_172 dX7_checksum_26 ?_
      refine zs_lstore_n (lo' := [(2, .long (7 : Int64)), (0, .ref x), (1, .int (nI v))]) hE dX7_checksum_29 rfl (by decide) rfl ?_
      refine zs_iconst (v := (nI 0)) hE dX7_checksum_30 (by decide) ?_
      refine zs_istore (lo' := [(4, .int (nI 0)), (2, .long (7 : Int64)), (0, .ref x), (1, .int (nI v))]) hE dX7_checksum_31 (by decide) rfl ?_
      refine zs_sub (lo' := [(4, .int (nI 0)), (2, .long (7 : Int64)), (0, .ref x), (1, .int (nI v))]) [0, 1, 2, 3] rfl ?_
      refine zs_ind1 (Hs := fun (k0 : Nat) => H2) (ks := fun (k0 : Nat) => 0) (ns := fun (k0 : Nat) => 0) (los := fun (k0 : Nat) => [(4, .int (nI k0)), (2, .long (itn (fun k t => sp_ss (sp_sv S v k) t (sp_sv S v k).length) (k0) (7 : Int64))), (0, .ref x), (1, .int (nI v))]) (I := fun (k0 : Nat) => k0 ≤ sp_ba S (sp_vp S v) * sp_pa S (sp_vp S v)) (μ := fun (k0 : Nat) => sp_ba S (sp_vp S v) * sp_pa S (sp_vp S v) - k0) 0 (Nat.zero_le _) (fun k0 hi ih => ?_)
      try dsimp only at hi ih ⊢
      have ih0 := ih
      refine zs_iload hE 0 dX7_checksum_33 rfl ?_
      refine zs_aload_n hE 2 dX7_checksum_35 rfl rfl ?_
      refine zs_aload_n hE 2 dX7_checksum_36 rfl rfl ?_
      refine zs_get hE fl_X7_39 hp2 rfl dX7_checksum_37 ?_
      refine zs_iload_n hE 3 dX7_checksum_40 rfl rfl ?_
      refine zs_iald hE r9 (by omega) (by decide) dX7_checksum_41 ?_
      refine zs_top (v' := .int (nI (sp_vp S v))) (by rw [(mV v lv).1]) ?_
      refine zs_callVR (av := [.int (nI (sp_vp S v))]) (st := [.int (nI k0)]) (b := x) hE (m_X7_size D E B l κ x ad (va_up sc 4 0) ar (sp_vp S v) (sp_ba S (sp_vp S v)) (sp_pa S (sp_vp S v)) (by omega) (mP _ vwl).1 (mP _ vwl).2.1) rfl rfl sV_X7_106 hp2 rfl rfl (hO4) ⟨by decide, by decide⟩ ⟨by decide, by decide⟩ (Nat.le_of_ble_eq_true rfl) dX7_checksum_42 ?_
      refine zs_icmp_geN (tgt := 164) hE (by omega) (by omega) dX7_checksum_45 (by decide) (fun h5 => ?_) (fun h => ?_)
      · obtain rfl : k0 = sp_ba S (sp_vp S v) * sp_pa S (sp_vp S v) := by omega
        refine zs_lload_n hE 1 dX7_checksum_164 rfl rfl ?_
        exact zs_lret hE hr (mg_mk Value.long (S' := S) (k := 0) (by rw [o_checksum, ev]; simp only []; rw [sl_fold b8 p4]) (by omega) (fun _ => rfl) hO4 (mi_4 hM)) (by decide) (by decide) dX7_checksum_165
      · obtain ⟨d1, d2⟩ := (mV v lv).2.2.2 k0 h
        have okk := sv_ok wV lv h
        have ok4 := okk.2.1
        refine zs_aload_n hE 2 dX7_checksum_48 rfl rfl ?_
        refine zs_iload_n hE 3 dX7_checksum_49 rfl rfl ?_
        refine zs_iload hE 0 dX7_checksum_50 rfl ?_
        refine zs_callVR (av := [.int (nI v), .int (nI k0)]) (st := []) (b := x) hE (m_X7_sheafAt D E B l κ x ad (va_up sc 4 0) ar v k0) rfl rfl sV_X7_89 hp2 rfl rfl (hO4) ⟨by decide, by decide⟩ ⟨by decide, by decide⟩ (Nat.le_of_ble_eq_true rfl) dX7_checksum_52 ?_
        refine zs_istore (lo' := [(5, .int (nI (41 * (32 * v + k0)))), (4, .int (nI k0)), (2, .long (itn (fun k t => sp_ss (sp_sv S v k) t (sp_sv S v k).length) (k0) (7 : Int64))), (0, .ref x), (1, .int (nI v))]) hE dX7_checksum_55 (by decide) rfl ?_
        refine zs_iconst (v := (nI 0)) hE dX7_checksum_57 (by decide) ?_
        refine zs_istore (lo' := [(6, .int (nI 0)), (5, .int (nI (41 * (32 * v + k0)))), (4, .int (nI k0)), (2, .long (itn (fun k t => sp_ss (sp_sv S v k) t (sp_sv S v k).length) (k0) (7 : Int64))), (0, .ref x), (1, .int (nI v))]) hE dX7_checksum_58 (by decide) rfl ?_
        refine zs_sub (lo' := [(6, .int (nI 0)), (2, .long (itn (fun k t => sp_ss (sp_sv S v k) t (sp_sv S v k).length) (k0) (7 : Int64))), (0, .ref x), (1, .int (nI v)), (4, .int (nI k0)), (5, .int (nI (41 * (32 * v + k0))))]) [0, 3, 4, 5, 2, 1] rfl ?_
        refine zs_ind1 (Hs := fun (n0 : Nat) => H2) (ks := fun (n0 : Nat) => 0) (ns := fun (n0 : Nat) => 0) (los := fun (n0 : Nat) => [(6, .int (nI n0)), (2, .long (sp_ss (sp_sv S v k0) (itn (fun k t => sp_ss (sp_sv S v k) t (sp_sv S v k).length) (k0) (7 : Int64)) (n0))), (0, .ref x), (1, .int (nI v)), (4, .int (nI k0)), (5, .int (nI (41 * (32 * v + k0))))]) (I := fun (n0 : Nat) => n0 ≤ (sp_sv S v k0).length) (μ := fun (n0 : Nat) => (sp_sv S v k0).length - n0) 0 (Nat.zero_le _) (fun n0 hi ih => ?_)
        try dsimp only at hi ih ⊢
        have ih1 := ih
        refine zs_iload hE 0 dX7_checksum_60 rfl ?_
        refine zs_aload_n hE 2 dX7_checksum_62 rfl rfl ?_
        refine zs_get hE fl_X7_49 hp2 rfl dX7_checksum_63 ?_
        refine zs_iload hE 5 dX7_checksum_66 rfl ?_
        refine zs_iald hE r12 (by omega) (by decide) dX7_checksum_68 ?_
        refine zs_top (v' := .int (nI ((sp_sv S v k0).length))) (by rw [d1]) ?_
        refine zs_icmp_geN (tgt := 158) hE (by omega) (by omega) dX7_checksum_69 (by decide) (fun h1 => ?_) (fun h2 => ?_)
        · obtain rfl : n0 = (sp_sv S v k0).length := by omega
          refine zs_iincN (lo' := [(4, .int (nI (k0 + 1))), (6, .int (nI ((sp_sv S v k0).length))), (2, .long (sp_ss (sp_sv S v k0) (itn (fun k t => sp_ss (sp_sv S v k) t (sp_sv S v k).length) (k0) (7 : Int64)) ((sp_sv S v k0).length))), (0, .ref x), (1, .int (nI v)), (5, .int (nI (41 * (32 * v + k0))))]) hE 4 dX7_checksum_158 rfl (by decide) rfl ?_
          refine zs_goto (tgt := 33) hE dX7_checksum_161 (by decide) ?_
          refine zs_sub (lo' := [(4, .int (nI (k0 + 1))), (2, .long (sp_ss (sp_sv S v k0) (itn (fun k t => sp_ss (sp_sv S v k) t (sp_sv S v k).length) (k0) (7 : Int64)) ((sp_sv S v k0).length))), (0, .ref x), (1, .int (nI v))]) [0, 2, 3, 4] rfl ?_
          refine zs_lo (lo' := [(4, .int (nI (k0 + 1))), (2, .long (itn (fun k t => sp_ss (sp_sv S v k) t (sp_sv S v k).length) (k0 + 1) (7 : Int64))), (0, .ref x), (1, .int (nI v))]) (rfl) ?_
          exact ih0 (k0 + 1) (by omega) (by omega)
        · obtain ⟨g1, g2, g3⟩ := d2 n0 h2
          have okr := ok_at okk h2
          have okl := okr.2.1
          have oke := okr.1
          refine zs_iload hE 5 dX7_checksum_72 rfl ?_
          refine zs_iconst (v := (nI 1)) hE dX7_checksum_74 (by decide) ?_
          refine zs_iaddN hE dX7_checksum_75 ?_
          refine zs_bipush (v := (nI 10)) hE dX7_checksum_76 (by decide) ?_
          refine zs_iload hE 0 dX7_checksum_78 rfl ?_
          refine zs_imulN hE dX7_checksum_80 ?_
          refine zs_iaddN hE dX7_checksum_81 ?_
          refine zs_istore (lo' := [(7, .int (nI (41 * (32 * v + k0) + 1 + (10 * n0)))), (6, .int (nI n0)), (2, .long (sp_ss (sp_sv S v k0) (itn (fun k t => sp_ss (sp_sv S v k) t (sp_sv S v k).length) (k0) (7 : Int64)) (n0))), (0, .ref x), (1, .int (nI v)), (4, .int (nI k0)), (5, .int (nI (41 * (32 * v + k0))))]) hE dX7_checksum_82 (by decide) rfl ?_
          refine zs_ldc2 hE k_X7_174 dX7_checksum_84 ?_
          refine zs_lload_n hE 2 dX7_checksum_87 rfl rfl ?_
          refine zs_lmul hE dX7_checksum_88 ?_
          refine zs_aload_n hE 3 dX7_checksum_89 rfl rfl ?_
          refine zs_get hE fl_X7_49 hp2 rfl dX7_checksum_90 ?_
          refine zs_iload hE 0 dX7_checksum_93 rfl ?_
          refine zs_iald hE r12 (by omega) (by decide) dX7_checksum_95 ?_
          refine zs_top (v' := .int (nI (((sp_sv S v k0).getD n0 sp_d0).1))) (by rw [g1]) ?_
          refine zs_i2l hE dX7_checksum_96 ?_
          refine zs_top (v' := .long (lN ((sp_sv S v k0).getD n0 sp_d0).1)) (by rw [nI_l (by omega)]) ?_
          refine zs_ladd hE dX7_checksum_97 ?_
          refine zs_lstore_n (lo' := [(2, .long (((31 : Int64) * (sp_ss (sp_sv S v k0) (itn (fun k t => sp_ss (sp_sv S v k) t (sp_sv S v k).length) (k0) (7 : Int64)) (n0))) + (lN ((sp_sv S v k0).getD n0 sp_d0).1))), (7, .int (nI (41 * (32 * v + k0) + 1 + (10 * n0)))), (6, .int (nI n0)), (0, .ref x), (1, .int (nI v)), (4, .int (nI k0)), (5, .int (nI (41 * (32 * v + k0))))]) hE dX7_checksum_98 rfl (by decide) rfl ?_
          refine zs_iconst (v := (nI 0)) hE dX7_checksum_99 (by decide) ?_
          refine zs_istore (lo' := [(8, .int (nI 0)), (2, .long (((31 : Int64) * (sp_ss (sp_sv S v k0) (itn (fun k t => sp_ss (sp_sv S v k) t (sp_sv S v k).length) (k0) (7 : Int64)) (n0))) + (lN ((sp_sv S v k0).getD n0 sp_d0).1))), (7, .int (nI (41 * (32 * v + k0) + 1 + (10 * n0)))), (6, .int (nI n0)), (0, .ref x), (1, .int (nI v)), (4, .int (nI k0)), (5, .int (nI (41 * (32 * v + k0))))]) hE dX7_checksum_100 (by decide) rfl ?_
          refine zs_sub (lo' := [(8, .int (nI 0)), (2, .long (((31 : Int64) * (sp_ss (sp_sv S v k0) (itn (fun k t => sp_ss (sp_sv S v k) t (sp_sv S v k).length) (k0) (7 : Int64)) (n0))) + (lN ((sp_sv S v k0).getD n0 sp_d0).1))), (0, .ref x), (1, .int (nI v)), (4, .int (nI k0)), (5, .int (nI (41 * (32 * v + k0)))), (6, .int (nI n0)), (7, .int (nI (41 * (32 * v + k0) + 1 + (10 * n0))))]) [0, 1, 4, 5, 6, 7, 3, 2] rfl ?_
          refine zs_ind1 (Hs := fun (j0 : Nat) => H2) (ks := fun (j0 : Nat) => 0) (ns := fun (j0 : Nat) => 0) (los := fun (j0 : Nat) => [(8, .int (nI j0)), (2, .long (sp_ns ((sp_sv S v k0).getD n0 sp_d0).2 (31 * (sp_ss (sp_sv S v k0) (itn (fun k t => sp_ss (sp_sv S v k) t (sp_sv S v k).length) (k0) (7 : Int64)) (n0)) + lN ((sp_sv S v k0).getD n0 sp_d0).1) (j0))), (0, .ref x), (1, .int (nI v)), (4, .int (nI k0)), (5, .int (nI (41 * (32 * v + k0)))), (6, .int (nI n0)), (7, .int (nI (41 * (32 * v + k0) + 1 + 10 * n0)))]) (I := fun (j0 : Nat) => j0 ≤ ((sp_sv S v k0).getD n0 sp_d0).2.length) (μ := fun (j0 : Nat) => ((sp_sv S v k0).getD n0 sp_d0).2.length - j0) 0 (Nat.zero_le _) (fun j0 hi ih => ?_)
          try dsimp only at hi ih ⊢
          refine zs_iload hE 0 dX7_checksum_102 rfl ?_
          refine zs_aload_n hE 2 dX7_checksum_104 rfl rfl ?_
          refine zs_get hE fl_X7_49 hp2 rfl dX7_checksum_105 ?_
          refine zs_iload hE 7 dX7_checksum_108 rfl ?_
          refine zs_iconst (v := (nI 1)) hE dX7_checksum_110 (by decide) ?_
          refine zs_iaddN hE dX7_checksum_111 ?_
          refine zs_iald hE r12 (by omega) (by decide) dX7_checksum_112 ?_
          refine zs_top (v' := .int (nI (((sp_sv S v k0).getD n0 sp_d0).2.length))) (by rw [g2]) ?_
          refine zs_icmp_geN (tgt := 142) hE (by omega) (by omega) dX7_checksum_113 (by decide) (fun h4 => ?_) (fun h3 => ?_)
          · obtain rfl : j0 = ((sp_sv S v k0).getD n0 sp_d0).2.length := by omega
            refine zs_ldc2 hE k_X7_174 dX7_checksum_142 ?_
            refine zs_lload_n hE 1 dX7_checksum_145 rfl rfl ?_
            refine zs_lmul hE dX7_checksum_146 ?_
            refine zs_ldc2 hE k_X7_176 dX7_checksum_147 ?_
            refine zs_ladd hE dX7_checksum_150 ?_
            refine zs_lstore_n (lo' := [(2, .long (((31 : Int64) * (sp_ns ((sp_sv S v k0).getD n0 sp_d0).2 (31 * (sp_ss (sp_sv S v k0) (itn (fun k t => sp_ss (sp_sv S v k) t (sp_sv S v k).length) (k0) (7 : Int64)) (n0)) + lN ((sp_sv S v k0).getD n0 sp_d0).1) (((sp_sv S v k0).getD n0 sp_d0).2.length))) + (100 : Int64))), (8, .int (nI (((sp_sv S v k0).getD n0 sp_d0).2.length))), (0, .ref x), (1, .int (nI v)), (4, .int (nI k0)), (5, .int (nI (41 * (32 * v + k0)))), (6, .int (nI n0)), (7, .int (nI (41 * (32 * v + k0) + 1 + 10 * n0)))]) hE dX7_checksum_151 rfl (by decide) rfl ?_
            refine zs_iincN (lo' := [(6, .int (nI (n0 + 1))), (2, .long (((31 : Int64) * (sp_ns ((sp_sv S v k0).getD n0 sp_d0).2 (31 * (sp_ss (sp_sv S v k0) (itn (fun k t => sp_ss (sp_sv S v k) t (sp_sv S v k).length) (k0) (7 : Int64)) (n0)) + lN ((sp_sv S v k0).getD n0 sp_d0).1) (((sp_sv S v k0).getD n0 sp_d0).2.length))) + (100 : Int64))), (8, .int (nI (((sp_sv S v k0).getD n0 sp_d0).2.length))), (0, .ref x), (1, .int (nI v)), (4, .int (nI k0)), (5, .int (nI (41 * (32 * v + k0)))), (7, .int (nI (41 * (32 * v + k0) + 1 + 10 * n0)))]) hE 6 dX7_checksum_152 rfl (by decide) rfl ?_
            refine zs_goto (tgt := 60) hE dX7_checksum_155 (by decide) ?_
            refine zs_sub (lo' := [(6, .int (nI (n0 + 1))), (2, .long (((31 : Int64) * (sp_ns ((sp_sv S v k0).getD n0 sp_d0).2 (31 * (sp_ss (sp_sv S v k0) (itn (fun k t => sp_ss (sp_sv S v k) t (sp_sv S v k).length) (k0) (7 : Int64)) (n0)) + lN ((sp_sv S v k0).getD n0 sp_d0).1) (((sp_sv S v k0).getD n0 sp_d0).2.length))) + (100 : Int64))), (0, .ref x), (1, .int (nI v)), (4, .int (nI k0)), (5, .int (nI (41 * (32 * v + k0))))]) [0, 1, 3, 4, 5, 6] rfl ?_
            refine zs_lo (lo' := [(6, .int (nI (n0 + 1))), (2, .long (sp_ss (sp_sv S v k0) (itn (fun k t => sp_ss (sp_sv S v k) t (sp_sv S v k).length) (k0) (7 : Int64)) (n0 + 1))), (0, .ref x), (1, .int (nI v)), (4, .int (nI k0)), (5, .int (nI (41 * (32 * v + k0))))]) (rfl) ?_
            exact ih1 (n0 + 1) (by omega) (by omega)
          · refine zs_ldc2 hE k_X7_174 dX7_checksum_116 ?_
            refine zs_lload_n hE 1 dX7_checksum_119 rfl rfl ?_
            refine zs_lmul hE dX7_checksum_120 ?_
            refine zs_aload_n hE 2 dX7_checksum_121 rfl rfl ?_
            refine zs_get hE fl_X7_49 hp2 rfl dX7_checksum_122 ?_
            refine zs_iload hE 7 dX7_checksum_125 rfl ?_
            refine zs_iconst (v := (nI 2)) hE dX7_checksum_127 (by decide) ?_
            refine zs_iaddN hE dX7_checksum_128 ?_
            refine zs_iload hE 0 dX7_checksum_129 rfl ?_
            refine zs_iaddN hE dX7_checksum_131 ?_
            refine zs_iald hE r12 (by omega) (by decide) dX7_checksum_132 ?_
            refine zs_top (v' := .int (nI (((sp_sv S v k0).getD n0 sp_d0).2.getD j0 0))) (by rw [g3 j0 h3]) ?_
            refine zs_i2l hE dX7_checksum_133 ?_
            refine zs_top (v' := .long (lN (((sp_sv S v k0).getD n0 sp_d0).2.getD j0 0))) (by rw [nI_l (Nat.lt_of_le_of_lt (ok_b okr j0) (by decide))]) ?_
            refine zs_ladd hE dX7_checksum_134 ?_
            refine zs_top (v' := .long (sp_ns ((sp_sv S v k0).getD n0 sp_d0).2 (31 * (sp_ss (sp_sv S v k0) (itn (fun k t => sp_ss (sp_sv S v k) t (sp_sv S v k).length) (k0) (7 : Int64)) (n0)) + lN ((sp_sv S v k0).getD n0 sp_d0).1) (j0 + 1))) (rfl) ?_
            refine zs_lstore_n (lo' := [(2, .long (sp_ns ((sp_sv S v k0).getD n0 sp_d0).2 (31 * (sp_ss (sp_sv S v k0) (itn (fun k t => sp_ss (sp_sv S v k) t (sp_sv S v k).length) (k0) (7 : Int64)) (n0)) + lN ((sp_sv S v k0).getD n0 sp_d0).1) (j0 + 1))), (8, .int (nI j0)), (0, .ref x), (1, .int (nI v)), (4, .int (nI k0)), (5, .int (nI (41 * (32 * v + k0)))), (6, .int (nI n0)), (7, .int (nI (41 * (32 * v + k0) + 1 + 10 * n0)))]) hE dX7_checksum_135 rfl (by decide) rfl ?_
            refine zs_iincN (lo' := [(8, .int (nI (j0 + 1))), (2, .long (sp_ns ((sp_sv S v k0).getD n0 sp_d0).2 (31 * (sp_ss (sp_sv S v k0) (itn (fun k t => sp_ss (sp_sv S v k) t (sp_sv S v k).length) (k0) (7 : Int64)) (n0)) + lN ((sp_sv S v k0).getD n0 sp_d0).1) (j0 + 1))), (0, .ref x), (1, .int (nI v)), (4, .int (nI k0)), (5, .int (nI (41 * (32 * v + k0)))), (6, .int (nI n0)), (7, .int (nI (41 * (32 * v + k0) + 1 + 10 * n0)))]) hE 1 dX7_checksum_136 rfl (by decide) rfl ?_
            refine zs_goto (tgt := 102) hE dX7_checksum_139 (by decide) ?_
            refine zs_sub (lo' := [(8, .int (nI (j0 + 1))), (2, .long (sp_ns ((sp_sv S v k0).getD n0 sp_d0).2 (31 * (sp_ss (sp_sv S v k0) (itn (fun k t => sp_ss (sp_sv S v k) t (sp_sv S v k).length) (k0) (7 : Int64)) (n0)) + lN ((sp_sv S v k0).getD n0 sp_d0).1) (j0 + 1))), (0, .ref x), (1, .int (nI v)), (4, .int (nI k0)), (5, .int (nI (41 * (32 * v + k0)))), (6, .int (nI n0)), (7, .int (nI (41 * (32 * v + k0) + 1 + 10 * n0)))]) [0, 1, 2, 3, 4, 5, 6, 7] rfl ?_
            exact ih (j0 + 1) (by omega) (by omega)
    · exact absurd h9 (by decide)


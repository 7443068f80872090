/-! the model: ranks -/
theorem nI_ss {a b : Nat} (ha : a < 2 ^ 30) (hb : b < 2 ^ 30) : nI a - 1 - (nI b - 1) = nI a - nI b := by
  apply Int32.toInt_inj.mp
  rw [Int32.toInt_sub, nI_mi (by omega), nI_mi (by omega), Int32.toInt_sub, nI_toInt (by omega), nI_toInt (by omega)]
  congr 1
  omega
theorem ah_key {S : sp_S} {i j r0 : Nat} (e1 : sp_op S i = sp_op S j) (e2 : sp_pt (sp_ct S i 3) = sp_pt (sp_ct S j 3)) (e3 : ∀ r, r < r0 → sp_ky S i r = sp_ky S j r) (hr : r0 < 3) (hl : sp_ky S j r0 < sp_ky S i r0) : sp_ah S i j ∧ ¬ sp_ah S j i := by
  unfold sp_ah
  rcases (show r0 = 0 ∨ r0 = 1 ∨ r0 = 2 by omega) with rfl | rfl | rfl
  · omega
  · have := e3 0 (by decide); omega
  · have := e3 0 (by decide); have := e3 1 (by decide); omega
theorem ah_all {S : sp_S} {i j : Nat} (e1 : sp_op S i = sp_op S j) (e2 : sp_pt (sp_ct S i 3) = sp_pt (sp_ct S j 3)) (e3 : ∀ r, r < 3 → sp_ky S i r = sp_ky S j r) : sp_ah S i j ↔ i < j := by
  have a := e3 0 (by decide)
  have b := e3 1 (by decide)
  have c := e3 2 (by decide)
  unfold sp_ah
  omega

set_option maxHeartbeats 4000000 in
set_option maxRecDepth 100000 in
theorem m_X7_isAhead (D : va_G) (E : Nat → ClassId) (B : Nat) (l : Launch) (κ : Nat → Nat) (x : Nat) (ad sc : Nat → Nat) (ar : Nat → Nat → Int32) (S : sp_S) (i j : Nat) (hM : mi_ S sc ar) (hw : sp_wf S) (hi6 : i < 6) (hj6 : j < 6) : zs_Ct D E B l yX7_isAhead cX7_isAhead 6 (some .boolean) ({ frames := 4, cells := 0, slots := 0, locals := 97 } : Room) [.ref x, .int (nI i), .int (nI j)] (fun H => md_O D E κ x ad sc ar H) (zs_N) (zs_ro (.int (zs_b (sp_ah S i j)))) := by
  refine zs_ct (by decide) (Nat.le_of_ble_eq_true rfl) (fun p e s m below meth c hE hr hin hp => ?_)
  refine zs_lo (lo' := [(0, .ref x), (1, .int (nI i)), (2, .int (nI j))]) rfl ?_
  have hO := hp
  obtain ⟨t0, hx, t5, t6, t7, t8, t9, t10, t11, t12, t13, t14, t15, t16, t17, t18, t19, t20, r5, r6, r7, r8, r9, r10, r11, r12, r13, r14, r15, r16, r17, r18, r19, r20⟩ := id hO
  obtain ⟨wN, wP, wV, wA, wH, wZ, wF⟩ := id hw
  obtain ⟨n6, n40, n12, n8, n99⟩ := id wN
  obtain ⟨⟨mp0, mP⟩, ⟨mv0, mV⟩, ⟨mt0, mT⟩, mH, ⟨mz0, mZ⟩, mE⟩ := id hM
  have o1 := op_b wH i
  have o2 := op_b wH j
  have p1 := pt_b wH i 3
  have p2 := pt_b wH j 3
  refine zs_aload_n hE 0 dX7_isAhead_0 rfl rfl ?_
  refine zs_iload_n hE 1 dX7_isAhead_1 rfl rfl ?_
  refine zs_callVR (av := [.int (nI i)]) (st := []) (b := x) hE (m_X7_openOf D E B l κ x ad sc ar S i hM hw hi6) rfl rfl sV_X7_156 hx rfl rfl (hO) ⟨by decide, by decide⟩ ⟨by decide, by decide⟩ (Nat.le_of_ble_eq_true rfl) dX7_isAhead_2 ?_
  refine zs_aload_n hE 0 dX7_isAhead_5 rfl rfl ?_
  refine zs_iload_n hE 2 dX7_isAhead_6 rfl rfl ?_
  refine zs_callVR (av := [.int (nI j)]) (st := [.int (nI (sp_op S i))]) (b := x) hE (m_X7_openOf D E B l κ x ad sc ar S j hM hw hj6) rfl rfl sV_X7_156 hx rfl rfl (hO) ⟨by decide, by decide⟩ ⟨by decide, by decide⟩ (Nat.le_of_ble_eq_true rfl) dX7_isAhead_7 ?_
  refine zs_icmp_eqN (tgt := 32) hE (by omega) (by omega) dX7_isAhead_10 (by decide) (fun h1 => ?_) (fun h1 => ?_)
  · refine zs_aload_n hE 0 dX7_isAhead_32 rfl rfl ?_
    refine zs_iconst (v := (nI 3)) hE dX7_isAhead_33 (by decide) ?_
    refine zs_iload_n hE 1 dX7_isAhead_34 rfl rfl ?_
    refine zs_callVR (av := [.int (nI 3), .int (nI i)]) (st := []) (b := x) hE (m_X7_pointsOf D E B l κ x ad sc ar S 3 i hM hw (by decide) hi6) rfl rfl sV_X7_153 hx rfl rfl (hO) ⟨by decide, by decide⟩ ⟨by decide, by decide⟩ (Nat.le_of_ble_eq_true rfl) dX7_isAhead_35 ?_
    refine zs_aload_n hE 0 dX7_isAhead_38 rfl rfl ?_
    refine zs_iconst (v := (nI 3)) hE dX7_isAhead_39 (by decide) ?_
    refine zs_iload_n hE 2 dX7_isAhead_40 rfl rfl ?_
    refine zs_callVR (av := [.int (nI 3), .int (nI j)]) (st := [.int (nI (sp_pt (sp_ct S i 3)))]) (b := x) hE (m_X7_pointsOf D E B l κ x ad sc ar S 3 j hM hw (by decide) hj6) rfl rfl sV_X7_153 hx rfl rfl (hO) ⟨by decide, by decide⟩ ⟨by decide, by decide⟩ (Nat.le_of_ble_eq_true rfl) dX7_isAhead_41 ?_
    refine zs_icmp_eqN (tgt := 68) hE (by omega) (by omega) dX7_isAhead_44 (by decide) (fun h2 => ?_) (fun h2 => ?_)
    · refine zs_iconst (v := (nI 0)) hE dX7_isAhead_68 (by decide) ?_
      refine zs_istore_n (lo' := [(3, .int (nI 0)), (0, .ref x), (1, .int (nI i)), (2, .int (nI j))]) hE dX7_isAhead_69 rfl (by decide) rfl ?_
      refine zs_sub (lo' := [(3, .int (nI 0)), (0, .ref x), (1, .int (nI i)), (2, .int (nI j))]) [0, 1, 2, 3] rfl ?_
      refine zs_ind1 (Hs := fun (r0 : Nat) => s.heap) (ks := fun (r0 : Nat) => 0) (ns := fun (r0 : Nat) => 0) (los := fun (r0 : Nat) => [(3, .int (nI r0)), (0, .ref x), (1, .int (nI i)), (2, .int (nI j))]) (I := fun (r0 : Nat) => r0 ≤ 3 ∧ ∀ r, r < r0 → sp_ky S i r = sp_ky S j r) (μ := fun (r0 : Nat) => 3 - r0) 0 (⟨Nat.zero_le _, fun q hq => absurd hq (Nat.not_lt_zero _)⟩) (fun r0 hi ih => ?_)
      try dsimp only at hi ih ⊢
      have ih0 := ih
      obtain ⟨r3, e3⟩ := hi
      refine zs_iload_n hE 0 dX7_isAhead_70 rfl rfl ?_
      refine zs_iconst (v := (nI 3)) hE dX7_isAhead_71 (by decide) ?_
      refine zs_icmp_geN (tgt := 131) hE (by omega) (by decide) dX7_isAhead_72 (by decide) (fun h4 => ?_) (fun h => ?_)
      · obtain rfl : r0 = 3 := by omega
        refine zs_iload_n hE 2 dX7_isAhead_131 rfl rfl ?_
        refine zs_iload_n hE 3 dX7_isAhead_132 rfl rfl ?_
        refine zs_icmp_geN (tgt := 140) hE (by omega) (by omega) dX7_isAhead_133 (by decide) (fun h5 => ?_) (fun h5 => ?_)
        · refine zs_iconst (v := (nI 0)) hE dX7_isAhead_140 (by decide) ?_
          refine zs_top (v' := .int (zs_b (sp_ah S i j))) (vb0 (fun w => by have := (ah_all h1 h2 e3).mp w; omega)) ?_
          exact zs_zret hE hr (zs_bnar _) (⟨rfl, rfl⟩) (by decide) (by decide) dX7_isAhead_141
        · refine zs_iconst (v := (nI 1)) hE dX7_isAhead_136 (by decide) ?_
          refine zs_goto (tgt := 141) hE dX7_isAhead_137 (by decide) ?_
          refine zs_top (v' := .int (zs_b (sp_ah S i j))) (vb1 ((ah_all h1 h2 e3).mpr (by omega))) ?_
          exact zs_zret hE hr (zs_bnar _) (⟨rfl, rfl⟩) (by decide) (by decide) dX7_isAhead_141
      · have g1 := sp_ctb wH i r0
        have g2 := sp_ctb wH j r0
        refine zs_iconst (v := (nI 0)) hE dX7_isAhead_75 (by decide) ?_
        refine zs_istore (lo' := [(4, .int (nI 0)), (3, .int (nI r0)), (0, .ref x), (1, .int (nI i)), (2, .int (nI j))]) hE dX7_isAhead_76 (by decide) rfl ?_
        refine zs_sub (lo' := [(4, .int (nI 0)), (0, .ref x), (1, .int (nI i)), (2, .int (nI j)), (3, .int (nI r0))]) [0, 2, 3, 4, 1] rfl ?_
        refine zs_ind1 (Hs := fun (p0 : Nat) => s.heap) (ks := fun (p0 : Nat) => 0) (ns := fun (p0 : Nat) => 0) (los := fun (p0 : Nat) => [(4, .int (nI p0)), (0, .ref x), (1, .int (nI i)), (2, .int (nI j)), (3, .int (nI r0))]) (I := fun (p0 : Nat) => p0 ≤ 5 ∧ ∀ q, q < p0 → fa (sp_ct S i r0) q = fa (sp_ct S j r0) q) (μ := fun (p0 : Nat) => 5 - p0) 0 (⟨Nat.zero_le _, fun q hq => absurd hq (Nat.not_lt_zero _)⟩) (fun p0 hi ih => ?_)
        try dsimp only at hi ih ⊢
        obtain ⟨p5, ep⟩ := hi
        refine zs_iload hE 0 dX7_isAhead_78 rfl ?_
        refine zs_iconst (v := (nI 5)) hE dX7_isAhead_80 (by decide) ?_
        refine zs_icmp_geN (tgt := 125) hE (by omega) (by decide) dX7_isAhead_81 (by decide) (fun h5 => ?_) (fun h6 => ?_)
        · obtain rfl : p0 = 5 := by omega
          refine zs_iincN (lo' := [(3, .int (nI (r0 + 1))), (4, .int (nI 5)), (0, .ref x), (1, .int (nI i)), (2, .int (nI j))]) hE 4 dX7_isAhead_125 rfl (by decide) rfl ?_
          refine zs_goto (tgt := 70) hE dX7_isAhead_128 (by decide) ?_
          refine zs_sub (lo' := [(3, .int (nI (r0 + 1))), (0, .ref x), (1, .int (nI i)), (2, .int (nI j))]) [0, 2, 3, 4] rfl ?_
          refine ih0 (r0 + 1) ⟨by omega, fun r hr2 => ?_⟩ (by omega)
          by_cases e : r = r0
          · rw [e]; exact fa_same g1 g2 ep
          · exact e3 r (by omega)
        · have f1 := fa_le (sp_ct S i r0) p0
          have f2 := fa_le (sp_ct S j r0) p0
          refine zs_aload_n hE 1 dX7_isAhead_84 rfl rfl ?_
          refine zs_iload_n hE 4 dX7_isAhead_85 rfl rfl ?_
          refine zs_iload_n hE 2 dX7_isAhead_86 rfl rfl ?_
          refine zs_iload hE 0 dX7_isAhead_87 rfl ?_
          refine zs_callVR (av := [.int (nI r0), .int (nI i), .int (nI p0)]) (st := []) (b := x) hE (m_X7_fallen D E B l κ x ad sc ar S r0 i p0 hM hw (by omega) hi6 h6) rfl rfl sV_X7_150 hx rfl rfl (hO) ⟨by decide, by decide⟩ ⟨by decide, by decide⟩ (Nat.le_of_ble_eq_true rfl) dX7_isAhead_89 ?_
          refine zs_aload_n hE 1 dX7_isAhead_92 rfl rfl ?_
          refine zs_iload_n hE 4 dX7_isAhead_93 rfl rfl ?_
          refine zs_iload_n hE 3 dX7_isAhead_94 rfl rfl ?_
          refine zs_iload hE 0 dX7_isAhead_95 rfl ?_
          refine zs_callVR (av := [.int (nI r0), .int (nI j), .int (nI p0)]) (st := [.int (nI (fa (sp_ct S i r0) p0) - 1)]) (b := x) hE (m_X7_fallen D E B l κ x ad sc ar S r0 j p0 hM hw (by omega) hj6 h6) rfl rfl sV_X7_150 hx rfl rfl (hO) ⟨by decide, by decide⟩ ⟨by decide, by decide⟩ (Nat.le_of_ble_eq_true rfl) dX7_isAhead_97 ?_
          refine zs_isub hE dX7_isAhead_100 ?_
          refine zs_top (v' := .int (nI (fa (sp_ct S i r0) p0) - nI (fa (sp_ct S j r0) p0))) (by rw [nI_ss (by omega) (by omega)]) ?_
          refine zs_istore (lo' := [(5, .int (nI (fa (sp_ct S i r0) p0) - nI (fa (sp_ct S j r0) p0))), (4, .int (nI p0)), (0, .ref x), (1, .int (nI i)), (2, .int (nI j)), (3, .int (nI r0))]) hE dX7_isAhead_101 (by decide) rfl ?_
          refine zs_iload hE 0 dX7_isAhead_103 rfl ?_
          refine zs_if_eq (tgt := 119) hE dX7_isAhead_105 (by decide) (fun h7 => ?_) (fun h7 => ?_)
          · have fe := (nI_s0 (by omega) (by omega)).mp h7
            refine zs_iincN (lo' := [(4, .int (nI (p0 + 1))), (5, .int (nI (fa (sp_ct S i r0) p0) - nI (fa (sp_ct S j r0) p0))), (0, .ref x), (1, .int (nI i)), (2, .int (nI j)), (3, .int (nI r0))]) hE 1 dX7_isAhead_119 rfl (by decide) rfl ?_
            refine zs_goto (tgt := 78) hE dX7_isAhead_122 (by decide) ?_
            refine zs_sub (lo' := [(4, .int (nI (p0 + 1))), (0, .ref x), (1, .int (nI i)), (2, .int (nI j)), (3, .int (nI r0))]) [0, 2, 3, 4, 5] rfl ?_
            refine ih (p0 + 1) (⟨by omega, fun q hq => ?_⟩) (by omega)
            by_cases e : q = p0
            · rw [e]; exact fe
            · exact ep q (by omega)
          · have fe : fa (sp_ct S i r0) p0 ≠ fa (sp_ct S j r0) p0 := fun z => h7 ((nI_s0 (by omega) (by omega)).mpr z)
            refine zs_iload hE 0 dX7_isAhead_108 rfl ?_
            refine zs_if_le (tgt := 117) hE dX7_isAhead_110 (by decide) (fun h8 => ?_) (fun h8 => ?_)
            · have fl := (nI_sle (by omega) (by omega)).mp h8
              have kl : sp_ky S i r0 < sp_ky S j r0 := fa_key g2 g1 h6 (fun q hq => (ep q hq).symm) (by omega)
              refine zs_iconst (v := (nI 0)) hE dX7_isAhead_117 (by decide) ?_
              refine zs_top (v' := .int (zs_b (sp_ah S i j))) (vb0 (ah_key h1.symm h2.symm (fun r hr2 => (e3 r hr2).symm) (by omega) kl).2) ?_
              exact zs_zret hE hr (zs_bnar _) (⟨rfl, rfl⟩) (by decide) (by decide) dX7_isAhead_118
            · have fl : ¬ fa (sp_ct S i r0) p0 ≤ fa (sp_ct S j r0) p0 := fun z => h8 ((nI_sle (by omega) (by omega)).mpr z)
              have kl : sp_ky S j r0 < sp_ky S i r0 := fa_key g1 g2 h6 ep (by omega)
              refine zs_iconst (v := (nI 1)) hE dX7_isAhead_113 (by decide) ?_
              refine zs_goto (tgt := 118) hE dX7_isAhead_114 (by decide) ?_
              refine zs_top (v' := .int (zs_b (sp_ah S i j))) (vb1 (ah_key h1 h2 e3 (by omega) kl).1) ?_
              exact zs_zret hE hr (zs_bnar _) (⟨rfl, rfl⟩) (by decide) (by decide) dX7_isAhead_118
    · refine zs_aload_n hE 0 dX7_isAhead_47 rfl rfl ?_
      refine zs_iconst (v := (nI 3)) hE dX7_isAhead_48 (by decide) ?_
      refine zs_iload_n hE 1 dX7_isAhead_49 rfl rfl ?_
      refine zs_callVR (av := [.int (nI 3), .int (nI i)]) (st := []) (b := x) hE (m_X7_pointsOf D E B l κ x ad sc ar S 3 i hM hw (by decide) hi6) rfl rfl sV_X7_153 hx rfl rfl (hO) ⟨by decide, by decide⟩ ⟨by decide, by decide⟩ (Nat.le_of_ble_eq_true rfl) dX7_isAhead_50 ?_
      refine zs_aload_n hE 0 dX7_isAhead_53 rfl rfl ?_
      refine zs_iconst (v := (nI 3)) hE dX7_isAhead_54 (by decide) ?_
      refine zs_iload_n hE 2 dX7_isAhead_55 rfl rfl ?_
      refine zs_callVR (av := [.int (nI 3), .int (nI j)]) (st := [.int (nI (sp_pt (sp_ct S i 3)))]) (b := x) hE (m_X7_pointsOf D E B l κ x ad sc ar S 3 j hM hw (by decide) hj6) rfl rfl sV_X7_153 hx rfl rfl (hO) ⟨by decide, by decide⟩ ⟨by decide, by decide⟩ (Nat.le_of_ble_eq_true rfl) dX7_isAhead_56 ?_
      refine zs_icmp_leN (tgt := 66) hE (by omega) (by omega) dX7_isAhead_59 (by decide) (fun h3 => ?_) (fun h3 => ?_)
      · refine zs_iconst (v := (nI 0)) hE dX7_isAhead_66 (by decide) ?_
        refine zs_top (v' := .int (zs_b (sp_ah S i j))) (vb0 (fun w => by unfold sp_ah at w; omega)) ?_
        exact zs_zret hE hr (zs_bnar _) (⟨rfl, rfl⟩) (by decide) (by decide) dX7_isAhead_67
      · refine zs_iconst (v := (nI 1)) hE dX7_isAhead_62 (by decide) ?_
        refine zs_goto (tgt := 67) hE dX7_isAhead_63 (by decide) ?_
        refine zs_top (v' := .int (zs_b (sp_ah S i j))) (vb1 (Or.inr ⟨by omega, Or.inl (by omega)⟩)) ?_
        exact zs_zret hE hr (zs_bnar _) (⟨rfl, rfl⟩) (by decide) (by decide) dX7_isAhead_67
  · refine zs_aload_n hE 0 dX7_isAhead_13 rfl rfl ?_
    refine zs_iload_n hE 1 dX7_isAhead_14 rfl rfl ?_
    refine zs_callVR (av := [.int (nI i)]) (st := []) (b := x) hE (m_X7_openOf D E B l κ x ad sc ar S i hM hw hi6) rfl rfl sV_X7_156 hx rfl rfl (hO) ⟨by decide, by decide⟩ ⟨by decide, by decide⟩ (Nat.le_of_ble_eq_true rfl) dX7_isAhead_15 ?_
    refine zs_aload_n hE 0 dX7_isAhead_18 rfl rfl ?_
    refine zs_iload_n hE 2 dX7_isAhead_19 rfl rfl ?_
    refine zs_callVR (av := [.int (nI j)]) (st := [.int (nI (sp_op S i))]) (b := x) hE (m_X7_openOf D E B l κ x ad sc ar S j hM hw hj6) rfl rfl sV_X7_156 hx rfl rfl (hO) ⟨by decide, by decide⟩ ⟨by decide, by decide⟩ (Nat.le_of_ble_eq_true rfl) dX7_isAhead_20 ?_
    refine zs_icmp_leN (tgt := 30) hE (by omega) (by omega) dX7_isAhead_23 (by decide) (fun h2 => ?_) (fun h2 => ?_)
    · refine zs_iconst (v := (nI 0)) hE dX7_isAhead_30 (by decide) ?_
      refine zs_top (v' := .int (zs_b (sp_ah S i j))) (vb0 (fun w => by unfold sp_ah at w; omega)) ?_
      exact zs_zret hE hr (zs_bnar _) (⟨rfl, rfl⟩) (by decide) (by decide) dX7_isAhead_31
    · refine zs_iconst (v := (nI 1)) hE dX7_isAhead_26 (by decide) ?_
      refine zs_goto (tgt := 31) hE dX7_isAhead_27 (by decide) ?_
      refine zs_top (v' := .int (zs_b (sp_ah S i j))) (vb1 (Or.inl (by omega))) ?_
      exact zs_zret hE hr (zs_bnar _) (⟨rfl, rfl⟩) (by decide) (by decide) dX7_isAhead_31

set_option maxHeartbeats 4000000 in
set_option maxRecDepth 100000 in
theorem m_X7_rankedOf (D : va_G) (E : Nat → ClassId) (B : Nat) (l : Launch) (κ : Nat → Nat) (x : Nat) (ad sc : Nat → Nat) (ar : Nat → Nat → Int32) (S : sp_S) (k j : Nat) (hM : mi_ S sc ar) (hw : sp_wf S) (hj : j < sp_np S) (hk0 : sp_rk S j = k) : zs_Ct D E B l yX7_rankedOf cX7_rankedOf 5 (some .int) ({ frames := 5, cells := 0, slots := 0, locals := 122 } : Room) [.ref x, .int (nI k)] (fun H => md_O D E κ x ad sc ar H) (zs_N) (zs_ro (.int (nI j))) := by
  refine zs_ct (by decide) (Nat.le_of_ble_eq_true rfl) (fun p e s m below meth c hE hr hin hp => ?_)
  refine zs_lo (lo' := [(0, .ref x), (1, .int (nI k))]) rfl ?_
  have hO := hp
  obtain ⟨t0, hx, t5, t6, t7, t8, t9, t10, t11, t12, t13, t14, t15, t16, t17, t18, t19, t20, r5, r6, r7, r8, r9, r10, r11, r12, r13, r14, r15, r16, r17, r18, r19, r20⟩ := id hO
  obtain ⟨wN, wP, wV, wA, wH, wZ, wF⟩ := id hw
  obtain ⟨n6, n40, n12, n8, n99⟩ := id wN
  obtain ⟨⟨mp0, mP⟩, ⟨mv0, mV⟩, ⟨mt0, mT⟩, mH, ⟨mz0, mZ⟩, mE⟩ := id hM
  have kb := sp_rk_bd hj
  refine zs_iconst (v := (nI 0)) hE dX7_rankedOf_0 (by decide) ?_
  refine zs_istore_n (lo' := [(2, .int (nI 0)), (0, .ref x), (1, .int (nI k))]) hE dX7_rankedOf_1 rfl (by decide) rfl ?_
  refine zs_sub (lo' := [(2, .int (nI 0)), (0, .ref x), (1, .int (nI k))]) [0, 1, 2] rfl ?_
  refine zs_ind1 (Hs := fun (i0 : Nat) => s.heap) (ks := fun (i0 : Nat) => 0) (ns := fun (i0 : Nat) => 0) (los := fun (i0 : Nat) => [(2, .int (nI i0)), (0, .ref x), (1, .int (nI k))]) (I := fun (i0 : Nat) => i0 ≤ j) (μ := fun (i0 : Nat) => sp_np S - i0) 0 (Nat.zero_le _) (fun i0 hi ih => ?_)
  try dsimp only at hi ih ⊢
  have ih0 := ih
  refine zs_iload_n hE 0 dX7_rankedOf_2 rfl rfl ?_
  refine zs_aload_n hE 1 dX7_rankedOf_3 rfl rfl ?_
  refine zs_get hE fl_X7_7 hx rfl dX7_rankedOf_4 ?_
  refine zs_top (v' := .int (nI (sp_np S))) (by rw [mp0]) ?_
  refine zs_icmp_geN (tgt := 67) hE (by omega) (by omega) dX7_rankedOf_7 (by decide) (fun h5 => ?_) (fun h => ?_)
  · exact absurd h5 (by omega)
  · refine zs_iconst (v := (nI 0)) hE dX7_rankedOf_10 (by decide) ?_
    refine zs_istore_n (lo' := [(3, .int (nI 0)), (2, .int (nI i0)), (0, .ref x), (1, .int (nI k))]) hE dX7_rankedOf_11 rfl (by decide) rfl ?_
    refine zs_iconst (v := (nI 0)) hE dX7_rankedOf_12 (by decide) ?_
    refine zs_istore (lo' := [(4, .int (nI 0)), (3, .int (nI 0)), (2, .int (nI i0)), (0, .ref x), (1, .int (nI k))]) hE dX7_rankedOf_13 (by decide) rfl ?_
    refine zs_sub (lo' := [(4, .int (nI 0)), (3, .int (nI 0)), (0, .ref x), (1, .int (nI k)), (2, .int (nI i0))]) [0, 1, 3, 4, 2] rfl ?_
    refine zs_ind1 (Hs := fun (o0 : Nat) => s.heap) (ks := fun (o0 : Nat) => 0) (ns := fun (o0 : Nat) => 0) (los := fun (o0 : Nat) => [(4, .int (nI o0)), (3, .int (nI (sm (fun t => pI (sp_ah S t i0) 1 0) (o0)))), (0, .ref x), (1, .int (nI k)), (2, .int (nI i0))]) (I := fun (o0 : Nat) => o0 ≤ sp_np S) (μ := fun (o0 : Nat) => sp_np S - o0) 0 (Nat.zero_le _) (fun o0 hi ih => ?_)
    try dsimp only at hi ih ⊢
    have sb9 : sm (fun t => pI (sp_ah S t i0) 1 0) o0 ≤ 1 * o0 := sm_le (fun t _ => pI_le1 _)
    refine zs_iload hE 0 dX7_rankedOf_15 rfl ?_
    refine zs_aload_n hE 2 dX7_rankedOf_17 rfl rfl ?_
    refine zs_get hE fl_X7_7 hx rfl dX7_rankedOf_18 ?_
    refine zs_top (v' := .int (nI (sp_np S))) (by rw [mp0]) ?_
    refine zs_icmp_geN (tgt := 54) hE (by omega) (by omega) dX7_rankedOf_21 (by decide) (fun h6 => ?_) (fun h2 => ?_)
    · obtain rfl : o0 = sp_np S := by omega
      refine zs_lo (lo' := [(4, .int (nI (sp_np S))), (3, .int (nI (sp_rk S i0))), (0, .ref x), (1, .int (nI k)), (2, .int (nI i0))]) (rfl) ?_
      have rb := sp_rk_bd h
      refine zs_iload_n hE 1 dX7_rankedOf_54 rfl rfl ?_
      refine zs_iload_n hE 3 dX7_rankedOf_55 rfl rfl ?_
      refine zs_icmp_neN (tgt := 61) hE (by omega) (by omega) dX7_rankedOf_56 (by decide) (fun h7 => ?_) (fun h7 => ?_)
      · refine zs_iincN (lo' := [(2, .int (nI (i0 + 1))), (4, .int (nI (sp_np S))), (3, .int (nI (sp_rk S i0))), (0, .ref x), (1, .int (nI k))]) hE 4 dX7_rankedOf_61 rfl (by decide) rfl ?_
        refine zs_goto (tgt := 2) hE dX7_rankedOf_64 (by decide) ?_
        refine zs_sub (lo' := [(2, .int (nI (i0 + 1))), (0, .ref x), (1, .int (nI k))]) [0, 3, 4] rfl ?_
        exact ih0 (i0 + 1) (by have : i0 ≠ j := fun e => h7 (by rw [e]; exact hk0); omega) (by omega)
      · refine zs_iload_n hE 4 dX7_rankedOf_59 rfl rfl ?_
        refine zs_top (v' := .int (nI j)) (by rw [sp_rk_inj h hj (h7.trans hk0.symm)]) ?_
        exact zs_iret hE hr (⟨rfl, rfl⟩) (by decide) (by decide) dX7_rankedOf_60
    · refine zs_iload_n hE 1 dX7_rankedOf_24 rfl rfl ?_
      refine zs_iload hE 0 dX7_rankedOf_25 rfl ?_
      refine zs_iload_n hE 4 dX7_rankedOf_27 rfl rfl ?_
      refine zs_icmp_eqN (tgt := 45) hE (by omega) (by omega) dX7_rankedOf_28 (by decide) (fun h7 => ?_) (fun h7 => ?_)
      · refine zs_iconst (v := (nI 0)) hE dX7_rankedOf_45 (by decide) ?_
        refine zs_iaddN hE dX7_rankedOf_46 ?_
        refine zs_istore_n (lo' := [(3, .int (nI (sm (fun t => pI (sp_ah S t i0) 1 0) (o0) + 0))), (4, .int (nI o0)), (0, .ref x), (1, .int (nI k)), (2, .int (nI i0))]) hE dX7_rankedOf_47 rfl (by decide) rfl ?_
        refine zs_iincN (lo' := [(4, .int (nI (o0 + 1))), (3, .int (nI (sm (fun t => pI (sp_ah S t i0) 1 0) (o0) + 0))), (0, .ref x), (1, .int (nI k)), (2, .int (nI i0))]) hE 1 dX7_rankedOf_48 rfl (by decide) rfl ?_
        refine zs_goto (tgt := 15) hE dX7_rankedOf_51 (by decide) ?_
        refine zs_sub (lo' := [(4, .int (nI (o0 + 1))), (3, .int (nI (sm (fun t => pI (sp_ah S t i0) 1 0) (o0) + 0))), (0, .ref x), (1, .int (nI k)), (2, .int (nI i0))]) [0, 1, 2, 3, 4] rfl ?_
        refine zs_lo (lo' := [(4, .int (nI (o0 + 1))), (3, .int (nI (sm (fun t => pI (sp_ah S t i0) 1 0) (o0 + 1)))), (0, .ref x), (1, .int (nI k)), (2, .int (nI i0))]) (by rw [show sm (fun t => pI (sp_ah S t i0) 1 0) (o0 + 1) = sm (fun t => pI (sp_ah S t i0) 1 0) o0 + pI (sp_ah S o0 i0) 1 0 from rfl, pI_f (by rw [h7]; exact sp_ah_ir S i0)]) ?_
        refine zs_sub (lo' := [(4, .int (nI (o0 + 1))), (3, .int (nI (sm (fun t => pI (sp_ah S t i0) 1 0) (o0 + 1)))), (0, .ref x), (1, .int (nI k)), (2, .int (nI i0))]) [0, 1, 2, 3, 4] rfl ?_
        exact ih (o0 + 1) (by omega) (by omega)
      · refine zs_aload_n hE 2 dX7_rankedOf_31 rfl rfl ?_
        refine zs_iload hE 0 dX7_rankedOf_32 rfl ?_
        refine zs_iload_n hE 4 dX7_rankedOf_34 rfl rfl ?_
        refine zs_callVR (av := [.int (nI o0), .int (nI i0)]) (st := [.int (nI (sm (fun t => pI (sp_ah S t i0) 1 0) (o0)))]) (b := x) hE (m_X7_isAhead D E B l κ x ad sc ar S o0 i0 hM hw (by omega) (by omega)) rfl rfl sV_X7_159 hx rfl rfl (hO) ⟨by decide, by decide⟩ ⟨by decide, by decide⟩ (Nat.le_of_ble_eq_true rfl) dX7_rankedOf_35 ?_
        refine zs_if_eqB (tgt := 45) hE dX7_rankedOf_38 (by decide) (fun h8 => ?_) (fun h8 => ?_)
        · refine zs_iconst (v := (nI 0)) hE dX7_rankedOf_45 (by decide) ?_
          refine zs_iaddN hE dX7_rankedOf_46 ?_
          refine zs_istore_n (lo' := [(3, .int (nI (sm (fun t => pI (sp_ah S t i0) 1 0) (o0) + 0))), (4, .int (nI o0)), (0, .ref x), (1, .int (nI k)), (2, .int (nI i0))]) hE dX7_rankedOf_47 rfl (by decide) rfl ?_
          refine zs_iincN (lo' := [(4, .int (nI (o0 + 1))), (3, .int (nI (sm (fun t => pI (sp_ah S t i0) 1 0) (o0) + 0))), (0, .ref x), (1, .int (nI k)), (2, .int (nI i0))]) hE 1 dX7_rankedOf_48 rfl (by decide) rfl ?_
          refine zs_goto (tgt := 15) hE dX7_rankedOf_51 (by decide) ?_
          refine zs_sub (lo' := [(4, .int (nI (o0 + 1))), (3, .int (nI (sm (fun t => pI (sp_ah S t i0) 1 0) (o0) + 0))), (0, .ref x), (1, .int (nI k)), (2, .int (nI i0))]) [0, 1, 2, 3, 4] rfl ?_
          refine zs_lo (lo' := [(4, .int (nI (o0 + 1))), (3, .int (nI (sm (fun t => pI (sp_ah S t i0) 1 0) (o0 + 1)))), (0, .ref x), (1, .int (nI k)), (2, .int (nI i0))]) (by rw [show sm (fun t => pI (sp_ah S t i0) 1 0) (o0 + 1) = sm (fun t => pI (sp_ah S t i0) 1 0) o0 + pI (sp_ah S o0 i0) 1 0 from rfl, pI_f (h8)]) ?_
          refine zs_sub (lo' := [(4, .int (nI (o0 + 1))), (3, .int (nI (sm (fun t => pI (sp_ah S t i0) 1 0) (o0 + 1)))), (0, .ref x), (1, .int (nI k)), (2, .int (nI i0))]) [0, 1, 2, 3, 4] rfl ?_
          exact ih (o0 + 1) (by omega) (by omega)
        · refine zs_iconst (v := (nI 1)) hE dX7_rankedOf_41 (by decide) ?_
          refine zs_goto (tgt := 46) hE dX7_rankedOf_42 (by decide) ?_
          refine zs_iaddN hE dX7_rankedOf_46 ?_
          refine zs_istore_n (lo' := [(3, .int (nI (sm (fun t => pI (sp_ah S t i0) 1 0) (o0) + 1))), (4, .int (nI o0)), (0, .ref x), (1, .int (nI k)), (2, .int (nI i0))]) hE dX7_rankedOf_47 rfl (by decide) rfl ?_
          refine zs_iincN (lo' := [(4, .int (nI (o0 + 1))), (3, .int (nI (sm (fun t => pI (sp_ah S t i0) 1 0) (o0) + 1))), (0, .ref x), (1, .int (nI k)), (2, .int (nI i0))]) hE 1 dX7_rankedOf_48 rfl (by decide) rfl ?_
          refine zs_goto (tgt := 15) hE dX7_rankedOf_51 (by decide) ?_
          refine zs_sub (lo' := [(4, .int (nI (o0 + 1))), (3, .int (nI (sm (fun t => pI (sp_ah S t i0) 1 0) (o0) + 1))), (0, .ref x), (1, .int (nI k)), (2, .int (nI i0))]) [0, 1, 2, 3, 4] rfl ?_
          refine zs_lo (lo' := [(4, .int (nI (o0 + 1))), (3, .int (nI (sm (fun t => pI (sp_ah S t i0) 1 0) (o0 + 1)))), (0, .ref x), (1, .int (nI k)), (2, .int (nI i0))]) (by rw [show sm (fun t => pI (sp_ah S t i0) 1 0) (o0 + 1) = sm (fun t => pI (sp_ah S t i0) 1 0) o0 + pI (sp_ah S o0 i0) 1 0 from rfl, pI_t h8]) ?_
          refine zs_sub (lo' := [(4, .int (nI (o0 + 1))), (3, .int (nI (sm (fun t => pI (sp_ah S t i0) 1 0) (o0 + 1)))), (0, .ref x), (1, .int (nI k)), (2, .int (nI i0))]) [0, 1, 2, 3, 4] rfl ?_
          exact ih (o0 + 1) (by omega) (by omega)

set_option maxHeartbeats 4000000 in
set_option maxRecDepth 100000 in
theorem m_X7_ranked (D : va_G) (E : Nat → ClassId) (B : Nat) (l : Launch) (κ : Nat → Nat) (x : Nat) (ad sc : Nat → Nat) (ar : Nat → Nat → Int32) (S : sp_S) (y : Int32) (hM : mi_ S sc ar) (hw : sp_wf S) : zs_Ct D E B l yX7_ranked cX7_ranked 2 (some .int) ({ frames := 6, cells := 0, slots := 0, locals := 146 } : Room) [.ref x, .int y] (fun H => md_O D E κ x ad sc ar H) (md_F κ) (mq_ D E κ x ad (o_ranked S y)) := by
  refine zs_ct (by decide) (Nat.le_of_ble_eq_true rfl) (fun p e s m below meth c hE hr hin hp => ?_)
  refine zs_lo (lo' := [(0, .ref x), (1, .int y)]) rfl ?_
  have hO := hp
  obtain ⟨t0, hx, t5, t6, t7, t8, t9, t10, t11, t12, t13, t14, t15, t16, t17, t18, t19, t20, r5, r6, r7, r8, r9, r10, r11, r12, r13, r14, r15, r16, r17, r18, r19, r20⟩ := id hO
  obtain ⟨wN, wP, wV, wA, wH, wZ, wF⟩ := id hw
  obtain ⟨n6, n40, n12, n8, n99⟩ := id wN
  obtain ⟨⟨mp0, mP⟩, ⟨mv0, mV⟩, ⟨mt0, mT⟩, mH, ⟨mz0, mZ⟩, mE⟩ := id hM
  refine zs_iload_n hE 1 dX7_ranked_0 rfl rfl ?_
  refine zs_iconst (v := (nI 0)) hE dX7_ranked_1 (by decide) ?_
  refine zs_aload_n hE 0 dX7_ranked_2 rfl rfl ?_
  refine zs_get hE fl_X7_7 hx rfl dX7_ranked_3 ?_
  refine zs_iconst (v := (nI 1)) hE dX7_ranked_6 (by decide) ?_
  refine zs_isub hE dX7_ranked_7 ?_
  refine zs_callSR (av := [.int y, .int (nI 0), .int ((nI (sc 0)) - (nI 1))]) (st := []) hE (m_X7_in D E B l y (nI 0) (nI (sc 0) - 1)) rfl rfl sS_X7_77 (trivial) ⟨by decide, by decide⟩ ⟨by decide, by decide⟩ (Nat.le_of_ble_eq_true rfl) dX7_ranked_8 ?_
  refine zs_top (v' := .int (zs_b (sp_i y (sc 0) ≠ none))) (by rw [zs_bc (in_i (by omega))]) ?_
  refine zs_if_eqB (tgt := 26) hE dX7_ranked_11 (by decide) (fun h1 => ?_) (fun h1 => ?_)
  · refine zs_aload_n hE 0 dX7_ranked_26 rfl rfl ?_
    refine zs_iconst (v := (nI 1)) hE dX7_ranked_27 (by decide) ?_
    refine zs_callV (av := [.int (nI 1)]) (st := []) hE (m_X7_fails D E B l κ x ad sc ar 1) sV_X7_81 hx rfl rfl (hO) ⟨by decide, by decide⟩ ⟨by decide, by decide⟩ (fun q w9 => Or.inl w9) (Nat.le_of_ble_eq_true rfl) dX7_ranked_28 (fun v1 H1 hv1 hz1 hk1 => ?_)
    obtain ⟨rfl, cz, cO⟩ := hv1
    refine zs_widen (k' := 0) (n' := 0) (by decide) (by decide) ?_
    exact zs_iret hE hr (mq_mk (S' := S) (v := .null) (k := 1) (by rw [o_ranked, show sp_pr S y = none by rw [sp_pr, show sp_i y (sp_np S) = none by rw [← mp0]; exact Classical.not_not.mp h1]; rfl]; rfl) cz (fun w9 => by cases w9) cO (mi_4 hM)) (by decide) (by decide) dX7_ranked_31
  · obtain ⟨k, ek⟩ : ∃ e, sp_i y (sp_np S) = some e := by cases z9 : sp_i y (sp_np S) with | none => (rw [mp0] at h1; exact absurd z9 h1) | some q9 => exact ⟨q9, rfl⟩
    obtain ⟨j, hj, ej⟩ := sp_rk_on k (sp_i_lt ek).1
    have epr : sp_pr S y = some j := by rw [(sp_i_lt ek).2, ← ej]; exact sp_pr_in n6 hj
    refine zs_lo (lo' := [(0, .ref x), (1, .int (nI k))]) (by rw [(sp_i_lt ek).2]) ?_
    refine zs_aload_n hE 0 dX7_ranked_14 rfl rfl ?_
    refine zs_aload_n hE 0 dX7_ranked_15 rfl rfl ?_
    refine zs_iload_n hE 1 dX7_ranked_16 rfl rfl ?_
    refine zs_callVR (av := [.int (nI k)]) (st := [.ref x]) (b := x) hE (m_X7_rankedOf D E B l κ x ad sc ar S k j hM hw hj ej) rfl rfl sV_X7_162 hx rfl rfl (hO) ⟨by decide, by decide⟩ ⟨by decide, by decide⟩ (Nat.le_of_ble_eq_true rfl) dX7_ranked_17 ?_
    refine zs_callV (av := [.int (nI j)]) (st := []) hE (m_X7_tells D E B l κ x ad sc ar (nI j)) sV_X7_93 hx rfl rfl (hO) ⟨by decide, by decide⟩ ⟨by decide, by decide⟩ (fun q w9 => Or.inl w9) (Nat.le_of_ble_eq_true rfl) dX7_ranked_20 (fun v2 H2 hv2 hz2 hk2 => ?_)
    obtain ⟨rfl, cz, cO⟩ := hv2
    refine zs_widen (k' := 0) (n' := 0) (by decide) (by decide) ?_
    refine zs_goto (tgt := 31) hE dX7_ranked_23 (by decide) ?_
    exact zs_iret hE hr (mq_mk (S' := S) (k := 0) (by rw [o_ranked, epr]) cz (fun _ => rfl) cO (mi_4 hM)) (by decide) (by decide) dX7_ranked_31

set_option maxHeartbeats 4000000 in
set_option maxRecDepth 100000 in
theorem m_X7_isTied (D : va_G) (E : Nat → ClassId) (B : Nat) (l : Launch) (κ : Nat → Nat) (x : Nat) (ad sc : Nat → Nat) (ar : Nat → Nat → Int32) (S : sp_S) (y : Int32) (hM : mi_ S sc ar) (hw : sp_wf S) : zs_Ct D E B l yX7_isTied cX7_isTied 4 (some .boolean) ({ frames := 4, cells := 0, slots := 0, locals := 97 } : Room) [.ref x, .int y] (fun H => md_O D E κ x ad sc ar H) (md_F κ) (mq_ D E κ x ad (o_isTied S y)) := by
  refine zs_ct (by decide) (Nat.le_of_ble_eq_true rfl) (fun p e s m below meth c hE hr hin hp => ?_)
  refine zs_lo (lo' := [(0, .ref x), (1, .int y)]) rfl ?_
  have hO := hp
  obtain ⟨t0, hx, t5, t6, t7, t8, t9, t10, t11, t12, t13, t14, t15, t16, t17, t18, t19, t20, r5, r6, r7, r8, r9, r10, r11, r12, r13, r14, r15, r16, r17, r18, r19, r20⟩ := id hO
  obtain ⟨wN, wP, wV, wA, wH, wZ, wF⟩ := id hw
  obtain ⟨n6, n40, n12, n8, n99⟩ := id wN
  obtain ⟨⟨mp0, mP⟩, ⟨mv0, mV⟩, ⟨mt0, mT⟩, mH, ⟨mz0, mZ⟩, mE⟩ := id hM
  refine zs_aload_n hE 0 dX7_isTied_0 rfl rfl ?_
  refine zs_aload_n hE 0 dX7_isTied_1 rfl rfl ?_
  refine zs_iload_n hE 1 dX7_isTied_2 rfl rfl ?_
  refine zs_callVR (av := [.int y]) (st := [.ref x]) (b := x) hE (m_X7_isPiece D E B l κ x ad sc ar y (by omega)) rfl rfl sV_X7_96 hx rfl rfl (hO) ⟨by decide, by decide⟩ ⟨by decide, by decide⟩ (Nat.le_of_ble_eq_true rfl) dX7_isTied_3 ?_
  refine zs_if_eqB (tgt := 13) hE dX7_isTied_6 (by decide) (fun h1 => ?_) (fun h1 => ?_)
  · refine zs_iconst (v := (nI 1)) hE dX7_isTied_13 (by decide) ?_
    refine zs_put (v := .int (nI 1)) hE fl_X7_22 hx (Or.inl (show 500 ≤ κ x by omega)) (rfl) (rfl) (Nat.le_of_ble_eq_true rfl) dX7_isTied_14 (fun H1 hp1 hz1 ho1 => ?_)
    have r5 := zs_pt.kept r5 (ho1 _ (cs_ne t5 t0 (by decide)))
    have r6 := zs_pt.kept r6 (ho1 _ (cs_ne t6 t0 (by decide)))
    have r7 := zs_pt.kept r7 (ho1 _ (cs_ne t7 t0 (by decide)))
    have r8 := zs_pt.kept r8 (ho1 _ (cs_ne t8 t0 (by decide)))
    have r9 := zs_pt.kept r9 (ho1 _ (cs_ne t9 t0 (by decide)))
    have r10 := zs_pt.kept r10 (ho1 _ (cs_ne t10 t0 (by decide)))
    have r11 := zs_pt.kept r11 (ho1 _ (cs_ne t11 t0 (by decide)))
    have r12 := zs_pt.kept r12 (ho1 _ (cs_ne t12 t0 (by decide)))
    have r13 := zs_pt.kept r13 (ho1 _ (cs_ne t13 t0 (by decide)))
    have r14 := zs_pt.kept r14 (ho1 _ (cs_ne t14 t0 (by decide)))
    have r15 := zs_pt.kept r15 (ho1 _ (cs_ne t15 t0 (by decide)))
    have r16 := zs_pt.kept r16 (ho1 _ (cs_ne t16 t0 (by decide)))
    have r17 := zs_pt.kept r17 (ho1 _ (cs_ne t17 t0 (by decide)))
    have r18 := zs_pt.kept r18 (ho1 _ (cs_ne t18 t0 (by decide)))
    have r19 := zs_pt.kept r19 (ho1 _ (cs_ne t19 t0 (by decide)))
    have r20 := zs_pt.kept r20 (ho1 _ (cs_ne t20 t0 (by decide)))
    have hp1 : zs_pt D x (.inr (7, [.int (nI (sc 0)), .int (nI (sc 1)), .int (nI (sc 2)), .int (nI (sc 3)), .int (nI 1), .ref (ad 5), .ref (ad 6), .ref (ad 7), .ref (ad 8), .ref (ad 9), .ref (ad 10), .ref (ad 11), .ref (ad 12), .ref (ad 13), .ref (ad 14), .ref (ad 15), .ref (ad 16), .ref (ad 17), .ref (ad 18), .ref (ad 19), .ref (ad 20)])) H1 := hp1
    have hO4 : md_O D E κ x ad (va_up sc 4 1) ar H1 := ⟨t0, hp1, t5, t6, t7, t8, t9, t10, t11, t12, t13, t14, t15, t16, t17, t18, t19, t20, r5, r6, r7, r8, r9, r10, r11, r12, r13, r14, r15, r16, r17, r18, r19, r20⟩
    refine zs_iconst (v := (nI 0)) hE dX7_isTied_17 (by decide) ?_
    refine zs_istore_n (lo' := [(2, .int (nI 0)), (0, .ref x), (1, .int y)]) hE dX7_isTied_18 rfl (by decide) rfl ?_
    refine zs_iconst (v := (nI 0)) hE dX7_isTied_19 (by decide) ?_
    refine zs_istore_n (lo' := [(3, .int (nI 0)), (2, .int (nI 0)), (0, .ref x), (1, .int y)]) hE dX7_isTied_20 rfl (by decide) rfl ?_
    refine zs_aload_n hE 2 dX7_isTied_21 rfl rfl ?_
    refine zs_get hE fl_X7_22 hp1 rfl dX7_isTied_22 ?_
    refine zs_if_neN (tgt := 70) hE (by decide) dX7_isTied_25 (by decide) (fun h9 => ?_) (fun h9 => ?_)
    · refine zs_iload_n hE 1 dX7_isTied_70 rfl rfl ?_
      exact zs_zret hE hr (rfl) (mq_mk (S' := S) (v := .null) (k := 1) (by rw [o_isTied, show sp_i y (sp_np S) = none by rw [← mp0]; exact Classical.not_not.mp h1]; rfl) (by omega) (fun w9 => by cases w9) hO4 (mi_4 hM)) (by decide) (by decide) dX7_isTied_71
    · exact absurd h9 (by decide)
  · obtain ⟨i, ei⟩ : ∃ e, sp_i y (sp_np S) = some e := by cases z9 : sp_i y (sp_np S) with | none => (rw [mp0] at h1; exact absurd z9 h1) | some q9 => exact ⟨q9, rfl⟩
    have li := (sp_i_lt ei).1
    refine zs_lo (lo' := [(0, .ref x), (1, .int (nI i))]) (by rw [(sp_i_lt ei).2]) ?_
    refine zs_iconst (v := (nI 0)) hE dX7_isTied_9 (by decide) ?_
    refine zs_goto (tgt := 14) hE dX7_isTied_10 (by decide) ?_
    refine zs_put (v := .int (nI 0)) hE fl_X7_22 hx (Or.inl (show 500 ≤ κ x by omega)) (rfl) (rfl) (Nat.le_of_ble_eq_true rfl) dX7_isTied_14 (fun H2 hp2 hz2 ho2 => ?_)
    have r5 := zs_pt.kept r5 (ho2 _ (cs_ne t5 t0 (by decide)))
    have r6 := zs_pt.kept r6 (ho2 _ (cs_ne t6 t0 (by decide)))
    have r7 := zs_pt.kept r7 (ho2 _ (cs_ne t7 t0 (by decide)))
    have r8 := zs_pt.kept r8 (ho2 _ (cs_ne t8 t0 (by decide)))
    have r9 := zs_pt.kept r9 (ho2 _ (cs_ne t9 t0 (by decide)))
    have r10 := zs_pt.kept r10 (ho2 _ (cs_ne t10 t0 (by decide)))
    have r11 := zs_pt.kept r11 (ho2 _ (cs_ne t11 t0 (by decide)))
    have r12 := zs_pt.kept r12 (ho2 _ (cs_ne t12 t0 (by decide)))
    have r13 := zs_pt.kept r13 (ho2 _ (cs_ne t13 t0 (by decide)))
    have r14 := zs_pt.kept r14 (ho2 _ (cs_ne t14 t0 (by decide)))
    have r15 := zs_pt.kept r15 (ho2 _ (cs_ne t15 t0 (by decide)))
    have r16 := zs_pt.kept r16 (ho2 _ (cs_ne t16 t0 (by decide)))
    have r17 := zs_pt.kept r17 (ho2 _ (cs_ne t17 t0 (by decide)))
    have r18 := zs_pt.kept r18 (ho2 _ (cs_ne t18 t0 (by decide)))
    have r19 := zs_pt.kept r19 (ho2 _ (cs_ne t19 t0 (by decide)))
    have r20 := zs_pt.kept r20 (ho2 _ (cs_ne t20 t0 (by decide)))
    have hp2 : zs_pt D x (.inr (7, [.int (nI (sc 0)), .int (nI (sc 1)), .int (nI (sc 2)), .int (nI (sc 3)), .int (nI 0), .ref (ad 5), .ref (ad 6), .ref (ad 7), .ref (ad 8), .ref (ad 9), .ref (ad 10), .ref (ad 11), .ref (ad 12), .ref (ad 13), .ref (ad 14), .ref (ad 15), .ref (ad 16), .ref (ad 17), .ref (ad 18), .ref (ad 19), .ref (ad 20)])) H2 := hp2
    have hO4 : md_O D E κ x ad (va_up sc 4 0) ar H2 := ⟨t0, hp2, t5, t6, t7, t8, t9, t10, t11, t12, t13, t14, t15, t16, t17, t18, t19, t20, r5, r6, r7, r8, r9, r10, r11, r12, r13, r14, r15, r16, r17, r18, r19, r20⟩
    refine zs_iconst (v := (nI 0)) hE dX7_isTied_17 (by decide) ?_
    refine zs_istore_n (lo' := [(2, .int (nI 0)), (0, .ref x), (1, .int (nI i))]) hE dX7_isTied_18 rfl (by decide) rfl ?_
    refine zs_iconst (v := (nI 0)) hE dX7_isTied_19 (by decide) ?_
    refine zs_istore_n (lo' := [(3, .int (nI 0)), (2, .int (nI 0)), (0, .ref x), (1, .int (nI i))]) hE dX7_isTied_20 rfl (by decide) rfl ?_
    refine zs_sub (lo' := [(3, .int (nI 0)), (2, .int (nI 0)), (0, .ref x), (1, .int (nI i))]) [0, 1, 2, 3] rfl ?_
    refine zs_lo (lo' := [(3, .int (nI 0)), (2, .int (zs_b (∃ j, j < 0 ∧ j ≠ i ∧ sp_op S j = sp_op S i))), (0, .ref x), (1, .int (nI i))]) (by rw [vb0 (show ¬ (∃ j, j < 0 ∧ j ≠ i ∧ sp_op S j = sp_op S i) from fun ⟨_, h, _⟩ => absurd h (Nat.not_lt_zero _))]) ?_
    refine zs_sub (lo' := [(3, .int (nI 0)), (2, .int (zs_b (∃ j, j < 0 ∧ j ≠ i ∧ sp_op S j = sp_op S i))), (0, .ref x), (1, .int (nI i))]) [0, 1, 2, 3] rfl ?_
    refine zs_ind1 (Hs := fun (k0 : Nat) => H2) (ks := fun (k0 : Nat) => 0) (ns := fun (k0 : Nat) => 0) (los := fun (k0 : Nat) => [(3, .int (nI k0)), (2, .int (zs_b (∃ j, j < k0 ∧ j ≠ i ∧ sp_op S j = sp_op S i))), (0, .ref x), (1, .int (nI i))]) (I := fun (k0 : Nat) => k0 ≤ sp_np S) (μ := fun (k0 : Nat) => sp_np S - k0) 0 (Nat.zero_le _) (fun k0 hi ih => ?_)
    try dsimp only at hi ih ⊢
    refine zs_aload_n hE 2 dX7_isTied_21 rfl rfl ?_
    refine zs_get hE fl_X7_22 hp2 rfl dX7_isTied_22 ?_
    refine zs_if_neN (tgt := 70) hE (by decide) dX7_isTied_25 (by decide) (fun h9 => ?_) (fun h9 => ?_)
    · exact absurd h9 (by decide)
    · refine zs_iload_n hE 0 dX7_isTied_28 rfl rfl ?_
      refine zs_aload_n hE 2 dX7_isTied_29 rfl rfl ?_
      refine zs_get hE fl_X7_7 hp2 rfl dX7_isTied_30 ?_
      refine zs_top (v' := .int (nI (sp_np S))) (by rw [mp0]) ?_
      refine zs_icmp_geN (tgt := 70) hE (by omega) (by omega) dX7_isTied_33 (by decide) (fun h5 => ?_) (fun h => ?_)
      · obtain rfl : k0 = sp_np S := by omega
        refine zs_iload_n hE 1 dX7_isTied_70 rfl rfl ?_
        exact zs_zret hE hr (zs_bnar _) (mq_mk (S' := S) (k := 0) (by rw [o_isTied, ei]) (by omega) (fun _ => rfl) hO4 (mi_4 hM)) (by decide) (by decide) dX7_isTied_71
      · refine zs_iload_n hE 1 dX7_isTied_36 rfl rfl ?_
        refine zs_if_neB (tgt := 58) hE dX7_isTied_37 (by decide) (fun h6 => ?_) (fun h6 => ?_)
        · refine zs_iconst (v := (nI 1)) hE dX7_isTied_58 (by decide) ?_
          refine zs_goto (tgt := 63) hE dX7_isTied_59 (by decide) ?_
          refine zs_top (v' := .int (zs_b (∃ j, j < (k0 + 1) ∧ j ≠ i ∧ sp_op S j = sp_op S i))) (vb1 (h6.imp fun j z => ⟨by have := z.1; omega, z.2⟩)) ?_
          refine zs_istore_n (lo' := [(2, .int (zs_b (∃ j, j < (k0 + 1) ∧ j ≠ i ∧ sp_op S j = sp_op S i))), (3, .int (nI k0)), (0, .ref x), (1, .int (nI i))]) hE dX7_isTied_63 rfl (by decide) rfl ?_
          refine zs_iincN (lo' := [(3, .int (nI (k0 + 1))), (2, .int (zs_b (∃ j, j < (k0 + 1) ∧ j ≠ i ∧ sp_op S j = sp_op S i))), (0, .ref x), (1, .int (nI i))]) hE 1 dX7_isTied_64 rfl (by decide) rfl ?_
          refine zs_goto (tgt := 21) hE dX7_isTied_67 (by decide) ?_
          refine zs_sub (lo' := [(3, .int (nI (k0 + 1))), (2, .int (zs_b (∃ j, j < (k0 + 1) ∧ j ≠ i ∧ sp_op S j = sp_op S i))), (0, .ref x), (1, .int (nI i))]) [0, 1, 2, 3] rfl ?_
          exact ih (k0 + 1) (by omega) (by omega)
        · refine zs_iload_n hE 0 dX7_isTied_40 rfl rfl ?_
          refine zs_iload_n hE 3 dX7_isTied_41 rfl rfl ?_
          refine zs_icmp_eqN (tgt := 62) hE (by omega) (by omega) dX7_isTied_42 (by decide) (fun h7 => ?_) (fun h7 => ?_)
          · refine zs_iconst (v := (nI 0)) hE dX7_isTied_62 (by decide) ?_
            refine zs_top (v' := .int (zs_b (∃ j, j < (k0 + 1) ∧ j ≠ i ∧ sp_op S j = sp_op S i))) (vb0 (fun ⟨j, hj1, hj2, hj3⟩ => by rcases Nat.lt_or_ge j k0 with w | w; exact h6 ⟨j, w, hj2, hj3⟩; (obtain rfl : j = k0 := by omega); exact hj2 h7)) ?_
            refine zs_istore_n (lo' := [(2, .int (zs_b (∃ j, j < (k0 + 1) ∧ j ≠ i ∧ sp_op S j = sp_op S i))), (3, .int (nI k0)), (0, .ref x), (1, .int (nI i))]) hE dX7_isTied_63 rfl (by decide) rfl ?_
            refine zs_iincN (lo' := [(3, .int (nI (k0 + 1))), (2, .int (zs_b (∃ j, j < (k0 + 1) ∧ j ≠ i ∧ sp_op S j = sp_op S i))), (0, .ref x), (1, .int (nI i))]) hE 1 dX7_isTied_64 rfl (by decide) rfl ?_
            refine zs_goto (tgt := 21) hE dX7_isTied_67 (by decide) ?_
            refine zs_sub (lo' := [(3, .int (nI (k0 + 1))), (2, .int (zs_b (∃ j, j < (k0 + 1) ∧ j ≠ i ∧ sp_op S j = sp_op S i))), (0, .ref x), (1, .int (nI i))]) [0, 1, 2, 3] rfl ?_
            exact ih (k0 + 1) (by omega) (by omega)
          · have b1 := op_b wH k0
            have b2 := op_b wH i
            refine zs_aload_n hE 2 dX7_isTied_45 rfl rfl ?_
            refine zs_iload_n hE 0 dX7_isTied_46 rfl rfl ?_
            refine zs_callVR (av := [.int (nI k0)]) (st := []) (b := x) hE (m_X7_openOf D E B l κ x ad (va_up sc 4 0) ar S k0 (mi_4 hM) hw (by omega)) rfl rfl sV_X7_156 hp2 rfl rfl (hO4) ⟨by decide, by decide⟩ ⟨by decide, by decide⟩ (Nat.le_of_ble_eq_true rfl) dX7_isTied_47 ?_
            refine zs_aload_n hE 2 dX7_isTied_50 rfl rfl ?_
            refine zs_iload_n hE 3 dX7_isTied_51 rfl rfl ?_
            refine zs_callVR (av := [.int (nI i)]) (st := [.int (nI (sp_op S k0))]) (b := x) hE (m_X7_openOf D E B l κ x ad (va_up sc 4 0) ar S i (mi_4 hM) hw (by omega)) rfl rfl sV_X7_156 hp2 rfl rfl (hO4) ⟨by decide, by decide⟩ ⟨by decide, by decide⟩ (Nat.le_of_ble_eq_true rfl) dX7_isTied_52 ?_
            refine zs_icmp_neN (tgt := 62) hE (by omega) (by omega) dX7_isTied_55 (by decide) (fun h8 => ?_) (fun h8 => ?_)
            · refine zs_iconst (v := (nI 0)) hE dX7_isTied_62 (by decide) ?_
              refine zs_top (v' := .int (zs_b (∃ j, j < (k0 + 1) ∧ j ≠ i ∧ sp_op S j = sp_op S i))) (vb0 (fun ⟨j, hj1, hj2, hj3⟩ => by rcases Nat.lt_or_ge j k0 with w | w; exact h6 ⟨j, w, hj2, hj3⟩; (obtain rfl : j = k0 := by omega); exact h8 hj3)) ?_
              refine zs_istore_n (lo' := [(2, .int (zs_b (∃ j, j < (k0 + 1) ∧ j ≠ i ∧ sp_op S j = sp_op S i))), (3, .int (nI k0)), (0, .ref x), (1, .int (nI i))]) hE dX7_isTied_63 rfl (by decide) rfl ?_
              refine zs_iincN (lo' := [(3, .int (nI (k0 + 1))), (2, .int (zs_b (∃ j, j < (k0 + 1) ∧ j ≠ i ∧ sp_op S j = sp_op S i))), (0, .ref x), (1, .int (nI i))]) hE 1 dX7_isTied_64 rfl (by decide) rfl ?_
              refine zs_goto (tgt := 21) hE dX7_isTied_67 (by decide) ?_
              refine zs_sub (lo' := [(3, .int (nI (k0 + 1))), (2, .int (zs_b (∃ j, j < (k0 + 1) ∧ j ≠ i ∧ sp_op S j = sp_op S i))), (0, .ref x), (1, .int (nI i))]) [0, 1, 2, 3] rfl ?_
              exact ih (k0 + 1) (by omega) (by omega)
            · refine zs_iconst (v := (nI 1)) hE dX7_isTied_58 (by decide) ?_
              refine zs_goto (tgt := 63) hE dX7_isTied_59 (by decide) ?_
              refine zs_top (v' := .int (zs_b (∃ j, j < (k0 + 1) ∧ j ≠ i ∧ sp_op S j = sp_op S i))) (vb1 (⟨k0, by omega, h7, h8⟩)) ?_
              refine zs_istore_n (lo' := [(2, .int (zs_b (∃ j, j < (k0 + 1) ∧ j ≠ i ∧ sp_op S j = sp_op S i))), (3, .int (nI k0)), (0, .ref x), (1, .int (nI i))]) hE dX7_isTied_63 rfl (by decide) rfl ?_
              refine zs_iincN (lo' := [(3, .int (nI (k0 + 1))), (2, .int (zs_b (∃ j, j < (k0 + 1) ∧ j ≠ i ∧ sp_op S j = sp_op S i))), (0, .ref x), (1, .int (nI i))]) hE 1 dX7_isTied_64 rfl (by decide) rfl ?_
              refine zs_goto (tgt := 21) hE dX7_isTied_67 (by decide) ?_
              refine zs_sub (lo' := [(3, .int (nI (k0 + 1))), (2, .int (zs_b (∃ j, j < (k0 + 1) ∧ j ≠ i ∧ sp_op S j = sp_op S i))), (0, .ref x), (1, .int (nI i))]) [0, 1, 2, 3] rfl ?_
              exact ih (k0 + 1) (by omega) (by omega)


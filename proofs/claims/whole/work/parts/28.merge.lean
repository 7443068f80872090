/-! merge -/
theorem bs_some {S : sp_S} (hA : sw_A S) {v w k : Nat} (hv : v < sp_nv S) (hw : w < sp_nv S) (h : sp_bs S v w = some k) : k < sp_nv S ∧ sp_vp S k = sp_vp S v ∧ sp_vp S k = sp_vp S w := by
  obtain ⟨h1, ⟨h2, h3⟩, -⟩ := gr_spec.mp h
  exact ⟨h1, (hA v hv).2.1 k h2, (hA w hw).2.1 k h3⟩
theorem bs_none {S : sp_S} (hP : sw_P S) (hV : sw_V S) (hA : sw_A S) {v w : Nat} (hv : v < sp_nv S) (hw : w < sp_nv S) (h : sp_bs S v w = none) : sp_vp S v ≠ sp_vp S w := fun e => by
  have h1 := (hA v hv).2.2
  have h2 := (hA w hw).2.2
  rw [← e] at h2
  exact gr_none.mp h (sp_fi S (sp_vp S v)) (hP.1 _ (hV v hv).1).2.2.2.2.1 ⟨h1, h2⟩
theorem ask_c (S : sp_S) (m v : Nat) : ∃ ct, s_ask S m v = (S.1, S.2.1, (sp_hv S, sp_mk S, ct), S.2.2.2) := by
  unfold s_ask
  by_cases h : sp_un (sp_sl S m) (sp_sl S v) 32 = 0
  · rw [pI_t h]; exact ⟨sp_ct S, rfl⟩
  · rw [pI_f h]; exact ⟨_, rfl⟩
theorem sl_mg {S : sp_S} {v w b : Nat} (hw : sp_vp S v = sp_vp S w) (hb : sp_bn S v w = b) (hbv : sp_vp S b = sp_vp S v) (j : Nat) : sp_sl (s_merge0 S v w) (sp_nv S) j = sp_mo (sp_ru S (sp_vp S v) (j % 4)) (w < v) (sp_sl S v j) (sp_sl S w j) (sp_sl S b j) := by
  have e1 : sp_vp (s_merge0 S v w) (sp_nv S) = sp_vp S v := va_up_self _ _ _
  have e2 : sp_sv (s_merge0 S v w) (sp_nv S) = _ := va_up_self _ _ _
  unfold sp_sl
  rw [e1, e2, ← hw, hbv, hb]
  show (if j / 4 < sp_ba S (sp_vp S v) ∧ j % 4 < sp_pa S (sp_vp S v) then some (sp_m1 (sp_ru S (sp_vp S v) ((sp_pa S (sp_vp S v) * (j / 4) + j % 4) % sp_pa S (sp_vp S v))) (w < v) (sp_sv S v (sp_pa S (sp_vp S v) * (j / 4) + j % 4)) (sp_sv S w (sp_pa S (sp_vp S v) * (j / 4) + j % 4)) (sp_sv S b (sp_pa S (sp_vp S v) * (j / 4) + j % 4))) else none) = _
  by_cases q : j / 4 < sp_ba S (sp_vp S v) ∧ j % 4 < sp_pa S (sp_vp S v)
  · rw [if_pos q, if_pos q, if_pos q, if_pos q, Nat.mul_add_mod, Nat.mod_eq_of_lt q.2]; rfl
  · rw [if_neg q, if_neg q, if_neg q, if_neg q]; rfl

set_option maxHeartbeats 4000000 in
set_option maxRecDepth 100000 in
theorem m_X6_merge (D : va_G) (E : Nat → ClassId) (B : Nat) (l : Launch) (hl : l.stackTraces = false) (κ : Nat → Nat) (S : sp_S) (x : Nat) (y z ed : Int32) : zs_Cx D E B l yX6_merge cX6_merge 9 (some .int) ({ frames := 6, cells := 70, slots := 240, locals := 119 } : Room) [.ref x, .int y, .int z, .int ed] (fun H => cs_W D E κ S x H) (cs_F κ) (op_Q D E κ x (o_merge S y z ed)) (op_X D E κ x S (o_merge S y z ed) ["java/lang/IndexOutOfBoundsException", "java/lang/IllegalArgumentException", "java/lang/UnsupportedOperationException", "java/lang/IllegalStateException"]) := by
  refine zs_cx (by decide) (Nat.le_of_ble_eq_true rfl) (fun p e s m below meth c hE hr htab hp => ?_)
  refine zs_lo (lo' := [(0, .ref x), (1, .int y), (2, .int z), (3, .int ed)]) rfl ?_
  obtain ⟨hX0, hw⟩ := id hp
  obtain ⟨a1, a2, a3, a4, a5, lp, lv, lh, lz, tg, ⟨t0, t1, t2, t3, t4, t5, hx, r1, r2, r3, r4, r5⟩, htg, hP, hV, hG, hZ, hκ⟩ := hX0
  obtain ⟨wN, wP, wV, wA, wH, wZ, wF⟩ := id hw
  obtain ⟨n6, n40, n12, n8, n99⟩ := id wN
  refine zs_aload_n hE 0 dX6_merge_0 rfl rfl ?_
  refine zs_iload_n hE 1 dX6_merge_1 rfl rfl ?_
  refine zs_callVR (av := [.int y]) (st := []) (b := x) hE (m_X6_versionAt D E B l x a2 (sp_nv S) lv y (.ref a1) (.int (nI (sp_np S))) .null .null (.ref a3) (.ref a4) (.int (nI (sp_nz S))) (.ref a5) (.int (nI (sp_ty S).length)) n40) rfl rfl sV_X6_82 hx rfl rfl (⟨hx, r2⟩) ⟨by decide, by decide⟩ ⟨by decide, by decide⟩ (Nat.le_of_ble_eq_true rfl) dX6_merge_2 ?_
  refine zs_astoreq (lo' := [(4, va_rf (sp_at y (sp_nv S) lv)), (0, .ref x), (1, .int y), (2, .int z), (3, .int ed)]) hE dX6_merge_5 (by decide) rfl ?_
  refine zs_aload_n hE 1 dX6_merge_7 rfl rfl ?_
  refine zs_iload_n hE 3 dX6_merge_8 rfl rfl ?_
  refine zs_callVR (av := [.int z]) (st := []) (b := x) hE (m_X6_versionAt D E B l x a2 (sp_nv S) lv z (.ref a1) (.int (nI (sp_np S))) .null .null (.ref a3) (.ref a4) (.int (nI (sp_nz S))) (.ref a5) (.int (nI (sp_ty S).length)) n40) rfl rfl sV_X6_82 hx rfl rfl (⟨hx, r2⟩) ⟨by decide, by decide⟩ ⟨by decide, by decide⟩ (Nat.le_of_ble_eq_true rfl) dX6_merge_9 ?_
  refine zs_astoreq (lo' := [(5, va_rf (sp_at z (sp_nv S) lv)), (4, va_rf (sp_at y (sp_nv S) lv)), (0, .ref x), (1, .int y), (2, .int z), (3, .int ed)]) hE dX6_merge_12 (by decide) (by generalize sp_at y (sp_nv S) lv = o9; cases o9 <;> rfl) ?_
  refine zs_aloadq hE 1 dX6_merge_14 rfl ?_
  refine zs_ifnull (tgt := 24) hE dX6_merge_16 (by decide) (fun h1 => ?_) (fun o1 h1 => ?_)
  · exact zs_throw hE hl htab th_X6_74_86_78 dX6_merge_24 dX6_merge_27 dX6_merge_28 dX6_merge_30 dX6_merge_33 (by decide) (Nat.le_of_ble_eq_true rfl) (by decide) (by decide) (op_th hp 0 rfl (by rw [o_merge]; cases e : sp_i y (sp_nv S) with | none => rfl | some i => (obtain ⟨a, e1, -⟩ := hV.yes e; rw [e1] at h1; cases h1))) (by decide) (by decide)
  · obtain ⟨v, ev⟩ : ∃ i0, sp_i y (sp_nv S) = some i0 := by cases w : sp_i y (sp_nv S) with | none => (rw [sp_at_no w] at h1; cases h1) | some j0 => exact ⟨j0, rfl⟩
    obtain ⟨va, vae, vav⟩ := hV.yes ev
    obtain ⟨y0, y1, y2, y3, yh, yf, y4, ⟨y5, y6⟩, y7⟩ := id vav
    refine zs_lo (lo' := [(5, va_rf (sp_at z (sp_nv S) lv)), (4, .ref va), (0, .ref x), (1, .int y), (2, .int z), (3, .int ed)]) (by rw [vae]; rfl) ?_
    refine zs_aloadq hE 0 dX6_merge_19 rfl ?_
    refine zs_ifnonnull (tgt := 34) hE dX6_merge_21 (by decide) (fun o2 h2 => ?_) (fun h2 => ?_)
    · obtain ⟨w, ew⟩ : ∃ i0, sp_i z (sp_nv S) = some i0 := by cases w : sp_i z (sp_nv S) with | none => (rw [sp_at_no w] at h2; cases h2) | some j0 => exact ⟨j0, rfl⟩
      obtain ⟨wa, wae, wav⟩ := hV.yes ew
      obtain ⟨z0, z1, z2, z3, zh, zf, z4, ⟨z5, z6⟩, z7⟩ := id wav
      refine zs_lo (lo' := [(5, .ref wa), (4, .ref va), (0, .ref x), (1, .int y), (2, .int z), (3, .int ed)]) (by rw [wae]; rfl) ?_
      have vl := (sp_i_lt ev).1
      have wl := (sp_i_lt ew).1
      obtain ⟨vpl, vq1, vq2, vam, vsv⟩ := wV v vl
      obtain ⟨wpl, wq1, wq2, wam, wsv⟩ := wV w wl
      refine zs_iload_n hE 5 dX6_merge_34 rfl rfl ?_
      refine zs_callSR (av := [.int ed]) (st := []) hE (m_X6_isEditor D E B l ed) rfl rfl sS_X6_104 (trivial) ⟨by decide, by decide⟩ ⟨by decide, by decide⟩ (Nat.le_of_ble_eq_true rfl) dX6_merge_35 ?_
      refine zs_if_neB (tgt := 51) hE dX6_merge_38 (by decide) (fun h3 => ?_) (fun h3 => ?_)
      · obtain ⟨e0, ee⟩ : ∃ e, sp_i ed 6 = some e := by cases z : sp_i ed 6 with | none => exact absurd z h3 | some j => exact ⟨j, rfl⟩
        obtain ⟨pa, pr, pe, t6, t7, ph, pq⟩ := hP (sp_vp S v) vpl
        obtain ⟨-, -, -, -, pfi, -⟩ := wP.1 _ vpl
        refine zs_aload_n hE 2 dX6_merge_51 rfl rfl ?_
        refine zs_aload hE 1 dX6_merge_52 rfl ?_
        refine zs_get hE fl_X6_88 y5 rfl dX6_merge_54 ?_
        refine zs_callVR (av := [.int (nI (sp_vp S v))]) (st := []) (b := x) hE (m_X6_pieceAt D E B l x a1 (sp_np S) lp (nI (sp_vp S v)) .null .null (.ref a2) (.int (nI (sp_nv S))) (.ref a3) (.ref a4) (.int (nI (sp_nz S))) (.ref a5) (.int (nI (sp_ty S).length)) n6) rfl rfl sV_X6_70 hx rfl rfl (⟨hx, r1⟩) ⟨by decide, by decide⟩ ⟨by decide, by decide⟩ (Nat.le_of_ble_eq_true rfl) dX6_merge_57 ?_
        refine zs_top (v' := .ref pa) (by rw [sp_at_yes (sp_i_in vpl (by omega)), pe]; rfl) ?_
        refine zs_astore (lo' := [(6, .ref pa), (5, .ref wa), (4, .ref va), (0, .ref x), (1, .int y), (2, .int z), (3, .int ed)]) hE dX6_merge_60 (by decide) rfl ?_
        refine zs_aload_n hE 3 dX6_merge_62 rfl rfl ?_
        refine zs_aload_n hE 3 dX6_merge_63 rfl rfl ?_
        refine zs_aload hE 2 dX6_merge_64 rfl ?_
        refine zs_aload hE 1 dX6_merge_66 rfl ?_
        refine zs_callVR (av := [.ref va, .ref wa]) (st := [.ref x]) (b := x) hE (m_X6_baseOf D E B l κ S x va wa v (sp_vp S v) (sp_am S v) yh w (sp_vp S w) (sp_am S w) zh (sp_wfr S v) (sp_wfr S w) y3) rfl rfl sV_X6_152 hx rfl rfl (⟨hp, y5, z5⟩) ⟨by decide, by decide⟩ ⟨by decide, by decide⟩ (Nat.le_of_ble_eq_true rfl) dX6_merge_68 ?_
        refine zs_callVR (av := [.int (sp_oi (sp_bs S v w))]) (st := []) (b := x) hE (m_X6_versionAt D E B l x a2 (sp_nv S) lv (sp_oi (sp_bs S v w)) (.ref a1) (.int (nI (sp_np S))) .null .null (.ref a3) (.ref a4) (.int (nI (sp_nz S))) (.ref a5) (.int (nI (sp_ty S).length)) n40) rfl rfl sV_X6_82 hx rfl rfl (⟨hx, r2⟩) ⟨by decide, by decide⟩ ⟨by decide, by decide⟩ (Nat.le_of_ble_eq_true rfl) dX6_merge_71 ?_
        refine zs_astoreq (lo' := [(7, va_rf (sp_at (sp_oi (sp_bs S v w)) (sp_nv S) lv)), (6, .ref pa), (5, .ref wa), (4, .ref va), (0, .ref x), (1, .int y), (2, .int z), (3, .int ed)]) hE dX6_merge_74 (by decide) rfl ?_
        refine zs_aload hE 1 dX6_merge_76 rfl ?_
        refine zs_ifnullR hE dX6_merge_78 ?_
        refine zs_aloadq hE 0 dX6_merge_81 rfl ?_
        refine zs_ifnull (tgt := 106) hE dX6_merge_83 (by decide) (fun h4 => ?_) (fun o4 h4 => ?_)
        · exact zs_throw hE hl htab th_X6_160_162_164 dX6_merge_106 dX6_merge_109 dX6_merge_110 dX6_merge_112 dX6_merge_115 (by decide) (Nat.le_of_ble_eq_true rfl) (by decide) (by decide) (op_th hp 2 rfl (by rw [o_merge, ev]; simp only []; rw [ew]; simp only []; rw [ee]; simp only []; rw [pI_t (Or.inl (bs_none wP wV wA vl wl (by cases e : sp_bs S v w with | none => rfl | some k => (obtain ⟨a9, e9, -⟩ := hV k (bs_some wA vl wl e).1; rw [e, sp_oi, sp_at_yes (sp_i_in (bs_some wA vl wl e).1 (by omega)), e9] at h4; cases h4))))])) (by decide) (by decide)
        · obtain ⟨b, eb⟩ : ∃ b, sp_bs S v w = some b := by cases e : sp_bs S v w with | none => (rw [e, sp_oi, sp_at_no (sp_i_lo (by decide))] at h4; cases h4) | some k => exact ⟨k, rfl⟩
          obtain ⟨bl, bv, bw⟩ := bs_some wA vl wl eb
          have hvw : sp_vp S v = sp_vp S w := bv.symm.trans bw
          obtain ⟨ba, bae, bav⟩ := hV b bl
          obtain ⟨u0, u1, u2, u3, uh, uf, u4, ⟨u5, u6⟩, u7⟩ := id bav
          refine zs_lo (lo' := [(7, .ref ba), (6, .ref pa), (5, .ref wa), (4, .ref va), (0, .ref x), (1, .int y), (2, .int z), (3, .int ed)]) (by rw [eb, sp_oi, sp_at_yes (sp_i_in bl (by omega)), bae]; rfl) ?_
          refine zs_aload hE 3 dX6_merge_86 rfl ?_
          refine zs_aload hE 2 dX6_merge_88 rfl ?_
          refine zs_callVR (av := [.ref wa]) (st := []) (b := va) hE (m_X5_isUnder D E B l va wa yh zh v (sp_vp S v) (sp_am S v) w (sp_vp S w) (sp_am S w) (sp_wfr S v) (sp_wfr S w) y3 z1) rfl rfl sV_X6_156 y5 rfl rfl (⟨y5, z5⟩) ⟨by decide, by decide⟩ ⟨by decide, by decide⟩ (Nat.le_of_ble_eq_true rfl) dX6_merge_90 ?_
          refine zs_if_neB (tgt := 106) hE dX6_merge_93 (by decide) (fun h5 => ?_) (fun h5 => ?_)
          · exact zs_throw hE hl htab th_X6_160_162_164 dX6_merge_106 dX6_merge_109 dX6_merge_110 dX6_merge_112 dX6_merge_115 (by decide) (Nat.le_of_ble_eq_true rfl) (by decide) (by decide) (op_th hp 2 rfl (by rw [o_merge, ev]; simp only []; rw [ew]; simp only []; rw [ee]; simp only []; rw [pI_t (Or.inr (Or.inl h5))])) (by decide) (by decide)
          · refine zs_aload hE 2 dX6_merge_96 rfl ?_
            refine zs_aload hE 3 dX6_merge_98 rfl ?_
            refine zs_callVR (av := [.ref va]) (st := []) (b := wa) hE (m_X5_isUnder D E B l wa va zh yh w (sp_vp S w) (sp_am S w) v (sp_vp S v) (sp_am S v) (sp_wfr S w) (sp_wfr S v) z3 y1) rfl rfl sV_X6_156 z5 rfl rfl (⟨z5, y5⟩) ⟨by decide, by decide⟩ ⟨by decide, by decide⟩ (Nat.le_of_ble_eq_true rfl) dX6_merge_100 ?_
            refine zs_if_eqB (tgt := 116) hE dX6_merge_103 (by decide) (fun h6 => ?_) (fun h6 => ?_)
            · have hno : ¬ (sp_vp S v ≠ sp_vp S w ∨ (sp_am S v).testBit w = true ∨ (sp_am S w).testBit v = true) := fun q => by rcases q with q | q | q; exact q hvw; exact h5 q; exact h6 q
              refine zs_aload_n hE 4 dX6_merge_116 rfl rfl ?_
              refine zs_get hE fl_X6_48 hx rfl dX6_merge_117 ?_
              refine zs_bipush (v := (nI 40)) hE dX6_merge_120 (by decide) ?_
              refine zs_icmp_ltN (tgt := 135) hE (by omega) (by decide) dX6_merge_122 (by decide) (fun h7 => ?_) (fun h7 => ?_)
              · have lx0 := hx.lt
                have la1 := r1.lt
                have la2 := r2.lt
                have la3 := r3.lt
                have la4 := r4.lt
                have la5 := r5.lt
                have lva := y5.lt
                have lyh := y6.lt
                have lwa := z5.lt
                have lzh := z6.lt
                have lba := u5.lt
                have luh := u6.lt
                have lpa := ph.lt
                have lpr := pq.lt
                refine zs_new (fs := [.int 0, .int 0, .long 0, .int 0, .null]) hE nl_X6_15 (fun j hj => by rcases (show j = 0 ∨ j = 1 ∨ j = 2 ∨ j = 3 ∨ j = 4 by omega) with rfl | rfl | rfl | rfl | rfl <;> rfl) (by decide) (by decide) dX6_merge_135 (fun q1 H1 hq1 hp1 hz1 ho1 => ?_)
                refine zs_widen (k' := 1) (n' := 5) (by omega) (by omega) ?_
                have ne2 : x ≠ q1 := by have := zs_pt.lt hx; omega
                have hx := zs_pt.kept hx (ho1 _ (zs_pt.lt hx))
                have ne3 : a1 ≠ q1 := by have := zs_pt.lt r1; omega
                have r1 := zs_pt.kept r1 (ho1 _ (zs_pt.lt r1))
                have ne4 : a2 ≠ q1 := by have := zs_pt.lt r2; omega
                have r2 := zs_pt.kept r2 (ho1 _ (zs_pt.lt r2))
                have ne5 : a3 ≠ q1 := by have := zs_pt.lt r3; omega
                have r3 := zs_pt.kept r3 (ho1 _ (zs_pt.lt r3))
                have ne6 : a4 ≠ q1 := by have := zs_pt.lt r4; omega
                have r4 := zs_pt.kept r4 (ho1 _ (zs_pt.lt r4))
                have ne7 : a5 ≠ q1 := by have := zs_pt.lt r5; omega
                have r5 := zs_pt.kept r5 (ho1 _ (zs_pt.lt r5))
                have ne8 : va ≠ q1 := by have := zs_pt.lt y5; omega
                have y5 := zs_pt.kept y5 (ho1 _ (zs_pt.lt y5))
                have ne9 : yh ≠ q1 := by have := zs_pt.lt y6; omega
                have y6 := zs_pt.kept y6 (ho1 _ (zs_pt.lt y6))
                have ne10 : wa ≠ q1 := by have := zs_pt.lt z5; omega
                have z5 := zs_pt.kept z5 (ho1 _ (zs_pt.lt z5))
                have ne11 : zh ≠ q1 := by have := zs_pt.lt z6; omega
                have z6 := zs_pt.kept z6 (ho1 _ (zs_pt.lt z6))
                have ne12 : pa ≠ q1 := by have := zs_pt.lt ph; omega
                have ph := zs_pt.kept ph (ho1 _ (zs_pt.lt ph))
                have ne13 : pr ≠ q1 := by have := zs_pt.lt pq; omega
                have pq := zs_pt.kept pq (ho1 _ (zs_pt.lt pq))
                have ne14 : ba ≠ q1 := by have := zs_pt.lt u5; omega
                have u5 := zs_pt.kept u5 (ho1 _ (zs_pt.lt u5))
                have ne15 : uh ≠ q1 := by have := zs_pt.lt u6; omega
                have u6 := zs_pt.kept u6 (ho1 _ (zs_pt.lt u6))
                refine zs_dup hE dX6_merge_138 rfl ?_
                refine zs_aload_n hE 4 dX6_merge_139 rfl rfl ?_
                refine zs_get hE fl_X6_48 hx rfl dX6_merge_140 ?_
                refine zs_aload hE 3 dX6_merge_143 rfl ?_
                refine zs_get hE fl_X6_88 y5 rfl dX6_merge_145 ?_
                refine zs_aload hE 3 dX6_merge_148 rfl ?_
                refine zs_get hE fl_X6_112 y5 rfl dX6_merge_150 ?_
                refine zs_aload hE 2 dX6_merge_153 rfl ?_
                refine zs_get hE fl_X6_112 z5 rfl dX6_merge_155 ?_
                refine zs_lor hE dX6_merge_158 ?_
                refine zs_top (v' := .long (lN (sp_am S v ||| sp_am S w))) (by rw [lN_or]) ?_
                refine zs_iconst (v := (-1)) hE dX6_merge_159 (by decide) ?_
                refine zs_callI (ret := none) (av := [.int (nI (sp_nv S)), .int (nI (sp_vp S v)), .long (lN (sp_am S v ||| sp_am S w)), .int (-1)]) (st := [.ref q1]) hE (m_X5_init D E B l q1 (sp_nv S) (sp_vp S v) (sp_am S v ||| sp_am S w) (-1) h7) sI_X6_56 (hp1) ⟨by decide, by decide⟩ ⟨by decide, by decide⟩ (fun z w => Or.inr (by omega)) (Nat.le_of_ble_eq_true rfl) dX6_merge_160 (fun v16 H16 hv16 hz16 hk16 => ?_)
                obtain ⟨rfl, nh, nhe, cz, c1⟩ := hv16
                refine zs_widen (k' := 2) (n' := 37) (by decide) (by decide) ?_
                have hx := zs_pt.kept hx (hk16 _ (zs_pt.lt hx) (by omega))
                have r1 := zs_pt.kept r1 (hk16 _ (zs_pt.lt r1) (by omega))
                have r2 := zs_pt.kept r2 (hk16 _ (zs_pt.lt r2) (by omega))
                have r3 := zs_pt.kept r3 (hk16 _ (zs_pt.lt r3) (by omega))
                have r4 := zs_pt.kept r4 (hk16 _ (zs_pt.lt r4) (by omega))
                have r5 := zs_pt.kept r5 (hk16 _ (zs_pt.lt r5) (by omega))
                have y5 := zs_pt.kept y5 (hk16 _ (zs_pt.lt y5) (by omega))
                have y6 := zs_pt.kept y6 (hk16 _ (zs_pt.lt y6) (by omega))
                have z5 := zs_pt.kept z5 (hk16 _ (zs_pt.lt z5) (by omega))
                have z6 := zs_pt.kept z6 (hk16 _ (zs_pt.lt z6) (by omega))
                have ph := zs_pt.kept ph (hk16 _ (zs_pt.lt ph) (by omega))
                have pq := zs_pt.kept pq (hk16 _ (zs_pt.lt pq) (by omega))
                have u5 := zs_pt.kept u5 (hk16 _ (zs_pt.lt u5) (by omega))
                have u6 := zs_pt.kept u6 (hk16 _ (zs_pt.lt u6) (by omega))
                obtain ⟨c5, c6⟩ := id c1
                have ho1 : ∀ z, z < s.heap.size → H16[z]? = s.heap[z]? := fun z w => (hk16 z (by omega) (fun w2 => by omega)).trans (ho1 z w)
                refine zs_astore (lo' := [(8, .ref q1), (7, .ref ba), (6, .ref pa), (5, .ref wa), (4, .ref va), (0, .ref x), (1, .int y), (2, .int z), (3, .int ed)]) hE dX6_merge_163 (by decide) rfl ?_
                refine zs_aload hE 0 dX6_merge_165 rfl ?_
                refine zs_aload hE 4 dX6_merge_167 rfl ?_
                refine zs_aload hE 3 dX6_merge_169 rfl ?_
                refine zs_aload hE 1 dX6_merge_171 rfl ?_
                refine zs_aload hE 2 dX6_merge_173 rfl ?_
                refine zs_callV (av := [.ref va, .ref wa, .ref ba, .ref pa]) (st := []) hE (m_X5_mergeSheaves D E B l κ s.heap q1 nh (sp_nv S) (sp_vp S v) (sp_am S v ||| sp_am S w ||| 2 ^ sp_nv S) va v (sp_vp S v) (sp_am S v) wa w (sp_vp S w) (sp_am S w) ba b (sp_vp S b) (sp_am S b) pa pr (-1) (sp_wfr S v) (sp_wfr S w) (sp_wfr S b) _ (sp_sl S v) (sp_sl S w) (sp_sl S b) (.int (nI (sp_fi S (sp_vp S v)))) (.int (nI (sp_pa S (sp_vp S v)))) (sp_ru S (sp_vp S v)) (by omega) (by omega) (by omega) (by omega) (fun k _ => sl_none hvw k) (fun k _ => sl_none bv.symm k) (by omega) (by omega) (fun q => by rcases wP.2 (sp_vp S v) q with e | e | e <;> rw [e] <;> decide)) sV_X6_165 c5 rfl rfl (⟨⟨c5, c6⟩, vav, wav, bav, ph, pq, fun z w => hκ z (by omega), by omega, ho1⟩) ⟨by decide, by decide⟩ ⟨by decide, by decide⟩ (fun z w => Or.inr (by omega)) (Nat.le_of_ble_eq_true rfl) dX6_merge_175 (fun v17 H17 hv17 hz17 hk17 => ?_)
                obtain ⟨rfl, f1, d1, d2⟩ := hv17
                refine zs_widen (k' := 66) (n' := 229) (by decide) (by decide) ?_
                have hx := zs_pt.kept hx (hk17 _ (zs_pt.lt hx) (by omega))
                have r1 := zs_pt.kept r1 (hk17 _ (zs_pt.lt r1) (by omega))
                have r2 := zs_pt.kept r2 (hk17 _ (zs_pt.lt r2) (by omega))
                have r3 := zs_pt.kept r3 (hk17 _ (zs_pt.lt r3) (by omega))
                have r4 := zs_pt.kept r4 (hk17 _ (zs_pt.lt r4) (by omega))
                have r5 := zs_pt.kept r5 (hk17 _ (zs_pt.lt r5) (by omega))
                have y5 := zs_pt.kept y5 (hk17 _ (zs_pt.lt y5) (by omega))
                have y6 := zs_pt.kept y6 (hk17 _ (zs_pt.lt y6) (by omega))
                have z5 := zs_pt.kept z5 (hk17 _ (zs_pt.lt z5) (by omega))
                have z6 := zs_pt.kept z6 (hk17 _ (zs_pt.lt z6) (by omega))
                have ph := zs_pt.kept ph (hk17 _ (zs_pt.lt ph) (by omega))
                have pq := zs_pt.kept pq (hk17 _ (zs_pt.lt pq) (by omega))
                have u5 := zs_pt.kept u5 (hk17 _ (zs_pt.lt u5) (by omega))
                have u6 := zs_pt.kept u6 (hk17 _ (zs_pt.lt u6) (by omega))
                obtain ⟨d5, d6⟩ := id d1
                have ho2 : ∀ z, z < s.heap.size → H17[z]? = s.heap[z]? := fun z w => (hk17 z (by omega) (fun w2 => by omega)).trans (ho1 z w)
                refine zs_aload_n hE 5 dX6_merge_178 rfl rfl ?_
                refine zs_aload hE 0 dX6_merge_179 rfl ?_
                refine zs_callV (av := [.ref q1]) (st := []) hE (m_X6_keep D E B l x a2 q1 (sp_nv S) lv _ (.ref a1) (.int (nI (sp_np S))) (.ref a3) (.ref a4) (.int (nI (sp_nz S))) (.ref a5) (.int (nI (sp_ty S).length)) h7 (cs_ne t0 t2 (by decide))) sV_X6_66 hx rfl rfl (⟨hx, r2, d5⟩) ⟨by decide, by decide⟩ ⟨by decide, by decide⟩ (fun z w => Or.inl (by rcases w with rfl | rfl; exact cs_F.i t0 (by decide) (by decide); exact cs_F.i t2 (by decide) (by decide))) (Nat.le_of_ble_eq_true rfl) dX6_merge_181 (fun v18 H18 hv18 hz18 hk18 => ?_)
                obtain ⟨rfl, kz, kx, ka⟩ := hv18
                refine zs_widen (k' := 66) (n' := 229) (by decide) (by decide) ?_
                have r1 := zs_pt.kept r1 (hk18 _ (zs_pt.lt r1) (fun w => by rcases w with w | w; exact (cs_ne t1 t0 (by decide)) w; exact (cs_ne t1 t2 (by decide)) w))
                have r3 := zs_pt.kept r3 (hk18 _ (zs_pt.lt r3) (fun w => by rcases w with w | w; exact (cs_ne t3 t0 (by decide)) w; exact (cs_ne t3 t2 (by decide)) w))
                have r4 := zs_pt.kept r4 (hk18 _ (zs_pt.lt r4) (fun w => by rcases w with w | w; exact (cs_ne t4 t0 (by decide)) w; exact (cs_ne t4 t2 (by decide)) w))
                have r5 := zs_pt.kept r5 (hk18 _ (zs_pt.lt r5) (fun w => by rcases w with w | w; exact (cs_ne t5 t0 (by decide)) w; exact (cs_ne t5 t2 (by decide)) w))
                have y5 := zs_pt.kept y5 (hk18 _ (zs_pt.lt y5) (fun w => by rcases w with w | w; exact (cs_ne y0 t0 (by decide)) w; exact (cs_ne y0 t2 (by decide)) w))
                have y6 := zs_pt.kept y6 (hk18 _ (zs_pt.lt y6) (fun w => by rcases w with w | w; exact (cs_ne y4 t0 (by decide)) w; exact (cs_ne y4 t2 (by decide)) w))
                have z5 := zs_pt.kept z5 (hk18 _ (zs_pt.lt z5) (fun w => by rcases w with w | w; exact (cs_ne z0 t0 (by decide)) w; exact (cs_ne z0 t2 (by decide)) w))
                have z6 := zs_pt.kept z6 (hk18 _ (zs_pt.lt z6) (fun w => by rcases w with w | w; exact (cs_ne z4 t0 (by decide)) w; exact (cs_ne z4 t2 (by decide)) w))
                have ph := zs_pt.kept ph (hk18 _ (zs_pt.lt ph) (fun w => by rcases w with w | w; exact (cs_ne t6 t0 (by decide)) w; exact (cs_ne t6 t2 (by decide)) w))
                have pq := zs_pt.kept pq (hk18 _ (zs_pt.lt pq) (fun w => by rcases w with w | w; exact (cs_ne t7 t0 (by omega)) w; exact (cs_ne t7 t2 (by omega)) w))
                have u5 := zs_pt.kept u5 (hk18 _ (zs_pt.lt u5) (fun w => by rcases w with w | w; exact (cs_ne u0 t0 (by decide)) w; exact (cs_ne u0 t2 (by decide)) w))
                have u6 := zs_pt.kept u6 (hk18 _ (zs_pt.lt u6) (fun w => by rcases w with w | w; exact (cs_ne u4 t0 (by decide)) w; exact (cs_ne u4 t2 (by decide)) w))
                have d5 := zs_pt.kept d5 (hk18 _ (zs_pt.lt d5) (fun w => by rcases w with w | w; exact (show _ ≠ x by omega) w; exact (show _ ≠ a2 by omega) w))
                have d6 := zs_pt.kept d6 (hk18 _ (zs_pt.lt d6) (fun w => by rcases w with w | w; exact (show _ ≠ x by omega) w; exact (show _ ≠ a2 by omega) w))
                have hk3 : ∀ z, z < s.heap.size → κ z ≠ 1 → κ z ≠ 3 → H18[z]? = s.heap[z]? := fun z w w0 w2 => (hk18 z (by omega) (fun w3 => by rcases w3 with w3 | w3; exact w0 (w3 ▸ t0); exact w2 (w3 ▸ t2))).trans (ho2 z w)
                have d2k : cs_vs D E κ H18 f1 _ := d2.kept (fun z w w2 => hk18 z w (fun w3 => by rcases w3 with w3 | w3; exact cs_ne w2 t0 (by decide) w3; exact cs_ne w2 t2 (by decide) w3))
                have hbn : sp_bn S v w = b := by rw [sp_bn, eb]
                have nv9 : cs_ver D E κ H18 q1 (sp_nv S) (sp_vp (s_merge0 S v w) (sp_nv S)) (sp_am (s_merge0 S v w) (sp_nv S)) (sp_wfr (s_merge0 S v w) (sp_nv S)) (sp_sl (s_merge0 S v w) (sp_nv S)) := by
                                  have e1 : sp_vp (s_merge0 S v w) (sp_nv S) = sp_vp S v := va_up_self _ _ _
                                  have e2 : sp_am (s_merge0 S v w) (sp_nv S) = sp_am S v ||| sp_am S w ||| 2 ^ sp_nv S := va_up_self _ _ _
                                  have e3 : sp_wfr (s_merge0 S v w) (sp_nv S) = -1 := by
                                    have e4 : sp_q2 (s_merge0 S v w) (sp_nv S) = w + 1 := va_up_self _ _ _
                                    rw [sp_wfr, e4, if_neg (by omega)]
                                  rw [e1, e2, e3]
                                  refine ⟨hκ _ (by omega), h7, by omega, Nat.or_lt_two_pow (Nat.or_lt_two_pow y3 z3) (Nat.pow_lt_pow_right (by decide) (by omega)), nh, f1, hκ _ (by omega), ⟨d5, d6⟩, fun k kl => ?_⟩
                                  rw [sl_mg hvw hbn bv]
                                  exact d2k k kl
                have old9 : ∀ u, u < sp_nv S → sp_vp (s_merge0 S v w) u = sp_vp S u ∧ sp_am (s_merge0 S v w) u = sp_am S u ∧ sp_wfr (s_merge0 S v w) u = sp_wfr S u ∧ sp_sl (s_merge0 S v w) u = sp_sl S u := fun u ul => ⟨va_up_ne _ _ (by omega), va_up_ne _ _ (by omega), by rw [sp_wfr, sp_wfr, show sp_q2 (s_merge0 S v w) u = sp_q2 S u from va_up_ne _ _ (by omega), show sp_q1 (s_merge0 S v w) u = sp_q1 S u from va_up_ne _ _ (by omega)], sl_eq (S' := s_merge0 S v w) (va_up_ne _ _ (by omega)) rfl rfl (va_up_ne _ _ (by omega))⟩
                have hV9 : cs_V D E κ H18 (va_up lv (sp_nv S) (some q1)) (s_merge0 S v w) := cs_V.add (S' := s_merge0 S v w) hV (fun z w w2 => hk3 z w (by omega) (by omega)) (fun _ _ w => w) rfl old9 nv9
                obtain ⟨a9v, f9v, verv⟩ := hV9 v (show _ < sp_nv S + 1 by omega)
                obtain ⟨a9w, f9w, verw⟩ := hV9 w (show _ < sp_nv S + 1 by omega)
                have hG9 : cs_G D E κ H18 lh (s_merge0 S v w) := (hG.mv (fun z w w2 _ => hk3 z w (by omega) (by omega)) n6).cg rfl (fun _ _ => ⟨rfl, rfl, rfl⟩)
                rw [va_up_ne _ _ (by omega)] at f9v f9w
                cases Option.some.inj (f9v.symm.trans ((sp_at_yes (f := lv) ev).symm.trans vae))
                cases Option.some.inj (f9w.symm.trans ((sp_at_yes (f := lv) ew).symm.trans wae))
                refine zs_aload_n hE 5 dX6_merge_184 rfl rfl ?_
                refine zs_aload hE 0 dX6_merge_185 rfl ?_
                refine zs_aload hE 4 dX6_merge_187 rfl ?_
                refine zs_callV (av := [.ref q1, .ref va]) (st := []) hE (m_X6_askAgain D E B l κ (s_merge0 S v w) x a3 q1 va (sp_nv S) v lh (.ref a1) (.ref a2) (.int (nI (sp_nv S + 1))) (.ref a4) (.int (nI (sp_nz S))) (.ref a5) (.int (nI (sp_ty S).length)) n6 (by rw [(old9 _ vl).1]; exact vpl) (by rw [(old9 _ vl).1]; exact va_up_self _ _ _) (by omega) (fun i r => by have := (wH i r).2.1; show sp_hv S i r ≤ 40; omega)) sV_X6_169 kx rfl rfl (⟨kx, r3, t0, t3, hG9, nv9, verv⟩) ⟨by decide, by decide⟩ ⟨by decide, by decide⟩ (fun z w => Or.inl ⟨by omega, w.2⟩) (Nat.le_of_ble_eq_true rfl) dX6_merge_189 (fun v19 H19 hv19 hz19 hk19 => ?_)
                obtain ⟨rfl, ez, eG⟩ := hv19
                refine zs_widen (k' := 66) (n' := 229) (by decide) (by decide) ?_
                have r1 := zs_pt.kept r1 (hk19 _ (zs_pt.lt r1) (fun w => by have := hκ nh (by omega); have := hκ q1 (by omega); omega))
                have r3 := zs_pt.kept r3 (hk19 _ (zs_pt.lt r3) (fun w => by have := hκ nh (by omega); have := hκ q1 (by omega); omega))
                have r4 := zs_pt.kept r4 (hk19 _ (zs_pt.lt r4) (fun w => by have := hκ nh (by omega); have := hκ q1 (by omega); omega))
                have r5 := zs_pt.kept r5 (hk19 _ (zs_pt.lt r5) (fun w => by have := hκ nh (by omega); have := hκ q1 (by omega); omega))
                have y5 := zs_pt.kept y5 (hk19 _ (zs_pt.lt y5) (fun w => by have := hκ nh (by omega); have := hκ q1 (by omega); omega))
                have y6 := zs_pt.kept y6 (hk19 _ (zs_pt.lt y6) (fun w => by have := hκ nh (by omega); have := hκ q1 (by omega); omega))
                have z5 := zs_pt.kept z5 (hk19 _ (zs_pt.lt z5) (fun w => by have := hκ nh (by omega); have := hκ q1 (by omega); omega))
                have z6 := zs_pt.kept z6 (hk19 _ (zs_pt.lt z6) (fun w => by have := hκ nh (by omega); have := hκ q1 (by omega); omega))
                have d5 := zs_pt.kept d5 (hk19 _ (zs_pt.lt d5) (fun w => by have := hκ nh (by omega); have := hκ q1 (by omega); omega))
                have d6 := zs_pt.kept d6 (hk19 _ (zs_pt.lt d6) (fun w => by have := hκ nh (by omega); have := hκ q1 (by omega); omega))
                have kx := zs_pt.kept kx (hk19 _ (zs_pt.lt kx) (fun w => by have := hκ nh (by omega); have := hκ q1 (by omega); omega))
                have ka := zs_pt.kept ka (hk19 _ (zs_pt.lt ka) (fun w => by have := hκ nh (by omega); have := hκ q1 (by omega); omega))
                obtain ⟨ct1, ec1⟩ := ask_c (s_merge0 S v w) (sp_nv S) v
                rw [ec1] at eG
                have nv9b := nv9.kept (H1 := H19) (fun z w w2 => hk19 z w (by omega))
                have verwb := verw.kept (H1 := H19) (fun z w w2 => hk19 z w (by omega))
                refine zs_aload_n hE 5 dX6_merge_192 rfl rfl ?_
                refine zs_aload hE 0 dX6_merge_193 rfl ?_
                refine zs_aload hE 3 dX6_merge_195 rfl ?_
                refine zs_callV (av := [.ref q1, .ref wa]) (st := []) hE (m_X6_askAgain D E B l κ ((s_merge0 S v w).1, (s_merge0 S v w).2.1, (sp_hv (s_merge0 S v w), sp_mk (s_merge0 S v w), ct1), (s_merge0 S v w).2.2.2) x a3 q1 wa (sp_nv S) w lh (.ref a1) (.ref a2) (.int (nI (sp_nv S + 1))) (.ref a4) (.int (nI (sp_nz S))) (.ref a5) (.int (nI (sp_ty S).length)) n6 (show sp_vp (s_merge0 S v w) w < _ by rw [(old9 _ wl).1]; exact wpl) (show sp_vp (s_merge0 S v w) _ = sp_vp (s_merge0 S v w) w by rw [(old9 _ wl).1]; exact (va_up_self _ _ _ : sp_vp (s_merge0 S v w) (sp_nv S) = sp_vp S v).trans hvw) (by omega) (fun i r => by have := (wH i r).2.1; show sp_hv S i r ≤ 40; omega)) sV_X6_169 kx rfl rfl (⟨kx, r3, t0, t3, eG, nv9b, verwb⟩) ⟨by decide, by decide⟩ ⟨by decide, by decide⟩ (fun z w => Or.inl ⟨by omega, w.2⟩) (Nat.le_of_ble_eq_true rfl) dX6_merge_197 (fun v20 H20 hv20 hz20 hk20 => ?_)
                obtain ⟨rfl, fz, fG⟩ := hv20
                refine zs_widen (k' := 66) (n' := 229) (by decide) (by decide) ?_
                have r1 := zs_pt.kept r1 (hk20 _ (zs_pt.lt r1) (fun w => by have := hκ nh (by omega); have := hκ q1 (by omega); omega))
                have r3 := zs_pt.kept r3 (hk20 _ (zs_pt.lt r3) (fun w => by have := hκ nh (by omega); have := hκ q1 (by omega); omega))
                have r4 := zs_pt.kept r4 (hk20 _ (zs_pt.lt r4) (fun w => by have := hκ nh (by omega); have := hκ q1 (by omega); omega))
                have r5 := zs_pt.kept r5 (hk20 _ (zs_pt.lt r5) (fun w => by have := hκ nh (by omega); have := hκ q1 (by omega); omega))
                have d5 := zs_pt.kept d5 (hk20 _ (zs_pt.lt d5) (fun w => by have := hκ nh (by omega); have := hκ q1 (by omega); omega))
                have d6 := zs_pt.kept d6 (hk20 _ (zs_pt.lt d6) (fun w => by have := hκ nh (by omega); have := hκ q1 (by omega); omega))
                have kx := zs_pt.kept kx (hk20 _ (zs_pt.lt kx) (fun w => by have := hκ nh (by omega); have := hκ q1 (by omega); omega))
                have ka := zs_pt.kept ka (hk20 _ (zs_pt.lt ka) (fun w => by have := hκ nh (by omega); have := hκ q1 (by omega); omega))
                obtain ⟨ct2, ec2⟩ := ask_c ((s_merge0 S v w).1, (s_merge0 S v w).2.1, (sp_hv (s_merge0 S v w), sp_mk (s_merge0 S v w), ct1), (s_merge0 S v w).2.2.2) (sp_nv S) w
                rw [ec2] at fG
                have hk : ∀ z, z < s.heap.size → κ z ≠ 1 → κ z ≠ 3 → ¬ (400 ≤ κ z ∧ κ z < 500) → H20[z]? = s.heap[z]? := fun z w w0 w1 w2 => (hk20 z (by omega) w2).trans ((hk19 z (by omega) w2).trans (hk3 z w w0 w1))
                have hV10 := hV9.mv (H1 := H20) (fun z w w2 => (hk20 z (by omega) (by omega)).trans (hk19 z w (by omega)))
                refine zs_aload hE 0 dX6_merge_200 rfl ?_
                refine zs_get hE fl_X6_116 d5 rfl dX6_merge_202 ?_
                exact zs_iretX hE hr (op_mk (by rw [o_merge, ev]; simp only []; rw [ew]; simp only []; rw [ee]; simp only []; rw [pI_f hno]; rw [pI_f (by omega), s_merge, ec1, ec2]; rfl) (cs_to.k (by omega) (S' := ((s_merge0 S v w).1, (s_merge0 S v w).2.1, (sp_hv (s_merge0 S v w), sp_mk (s_merge0 S v w), ct2), (s_merge0 S v w).2.2.2)) ⟨a1, a2, a3, a4, a5, lp, va_up lv (sp_nv S) (some q1), lh, lz, tg, ⟨t0, t1, t2, t3, t4, t5, kx, r1, ka, r3, r4, r5⟩, htg, hP.mv2 n6 (fun q z w => hk q z (by omega) (by omega) (by omega)), hV10, fG, hZ.mv (fun q z w => hk q z (by omega) (by omega) (by omega)), fun q w => hκ q (by omega)⟩)) (by decide) (by decide) dX6_merge_205
              · exact zs_throw hE hl htab th_X6_51_110_55 dX6_merge_125 dX6_merge_128 dX6_merge_129 dX6_merge_131 dX6_merge_134 (by decide) (Nat.le_of_ble_eq_true rfl) (by decide) (by decide) (op_th hp 3 rfl (by rw [o_merge, ev]; simp only []; rw [ew]; simp only []; rw [ee]; simp only []; rw [pI_f hno]; rw [pI_t (by omega)])) (by decide) (by decide)
            · exact zs_throw hE hl htab th_X6_160_162_164 dX6_merge_106 dX6_merge_109 dX6_merge_110 dX6_merge_112 dX6_merge_115 (by decide) (Nat.le_of_ble_eq_true rfl) (by decide) (by decide) (op_th hp 2 rfl (by rw [o_merge, ev]; simp only []; rw [ew]; simp only []; rw [ee]; simp only []; rw [pI_t (Or.inr (Or.inr h6))])) (by decide) (by decide)
      · exact zs_throw hE hl htab th_X6_37_108_41 dX6_merge_41 dX6_merge_44 dX6_merge_45 dX6_merge_47 dX6_merge_50 (by decide) (Nat.le_of_ble_eq_true rfl) (by decide) (by decide) (op_th hp 1 rfl (by rw [o_merge, ev]; simp only []; rw [ew]; simp only []; rw [Classical.not_not.mp h3])) (by decide) (by decide)
    · exact zs_throw hE hl htab th_X6_74_86_78 dX6_merge_24 dX6_merge_27 dX6_merge_28 dX6_merge_30 dX6_merge_33 (by decide) (Nat.le_of_ble_eq_true rfl) (by decide) (by decide) (op_th hp 0 rfl (by rw [o_merge, ev]; simp only []; cases e : sp_i z (sp_nv S) with | none => rfl | some i => (obtain ⟨a, e1, -⟩ := hV.yes e; rw [e1] at h2; cases h2))) (by decide) (by decide)


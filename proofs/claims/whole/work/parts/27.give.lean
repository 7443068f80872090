/-! give -/
theorem lh_le {S : sp_S} (h : sw_H S) (i : Nat) : sp_lh S i ≤ sp_nv S := by
  unfold sp_lh
  cases gr (fun r => sp_hv S i r ≠ 0) 4 with
  | none => exact Nat.zero_le _
  | some r => exact (h i r).2.1
theorem b63 : ∀ e : Nat, e < 6 → 63 / 2 ^ e % 2 = 1 := by decide
theorem w_pos {S : sp_S} (hP : sw_P S) (hV : sw_V S) {v : Nat} (h : v < sp_nv S) : 0 < sp_w (sp_sl S v) 63 := by
  obtain ⟨h1, -, -, -, h5⟩ := hV v h
  obtain ⟨b1, -, p1, -⟩ := hP.1 _ h1
  obtain ⟨l1, -, lr⟩ := h5 0 (Nat.mul_pos b1 p1)
  have e0 : sp_sl S v 0 = some (sp_sv S v 0) := by
    unfold sp_sl
    rw [if_pos ⟨b1, p1⟩]; rfl
  unfold sp_w
  rw [sp_f_sm]
  refine Nat.lt_of_lt_of_le ?_ (sm_ge (k := 0) (by decide))
  rw [e0]
  show 0 < sp_sp 63 (sp_sv S v 0)
  unfold sp_sp
  refine Nat.lt_of_lt_of_le ?_ (sm_ge (k := 0) l1)
  have hm : (sp_sv S v 0).getD 0 sp_d0 ∈ sp_sv S v 0 := by
    rw [List.getD_eq_getElem?_getD, List.getElem?_eq_getElem l1]; exact List.getElem_mem l1
  show 0 < sp_rp 63 ((sp_sv S v 0).getD 0 sp_d0)
  rw [sp_rp, if_pos (b63 _ (lr _ hm).1)]
  exact Nat.succ_pos _

set_option maxHeartbeats 4000000 in
set_option maxRecDepth 100000 in
theorem m_X6_give (D : va_G) (E : Nat → ClassId) (B : Nat) (l : Launch) (hl : l.stackTraces = false) (κ : Nat → Nat) (S : sp_S) (x : Nat) (y z : Int32) : zs_Cx D E B l yX6_give cX6_give 7 (some .int) ({ frames := 6, cells := 3, slots := 24, locals := 148 } : Room) [.ref x, .int y, .int z] (fun H => cs_W D E κ S x H) (cs_F κ) (op_Q D E κ x (o_give S y z)) (op_X D E κ x S (o_give S y z) ["java/lang/IndexOutOfBoundsException", "java/lang/IllegalArgumentException", "java/lang/UnsupportedOperationException", "java/lang/IllegalStateException"]) := by
  refine zs_cx (by decide) (Nat.le_of_ble_eq_true rfl) (fun p e s m below meth c hE hr htab hp => ?_)
  refine zs_lo (lo' := [(0, .ref x), (1, .int y), (2, .int z)]) rfl ?_
  obtain ⟨hX0, hw⟩ := id hp
  obtain ⟨a1, a2, a3, a4, a5, lp, lv, lh, lz, tg, ⟨t0, t1, t2, t3, t4, t5, hx, r1, r2, r3, r4, r5⟩, htg, hP, hV, hG, hZ, hκ⟩ := hX0
  obtain ⟨wN, wP, wV, wA, wH, wZ, wF⟩ := id hw
  obtain ⟨n6, n40, n12, n8, n99⟩ := id wN
  refine zs_aload_n hE 0 dX6_give_0 rfl rfl ?_
  refine zs_iload_n hE 1 dX6_give_1 rfl rfl ?_
  refine zs_callVR (av := [.int y]) (st := []) (b := x) hE (m_X6_pieceWithRank D E B l κ S x y) rfl rfl sV_X6_249 hx rfl rfl (hp) ⟨by decide, by decide⟩ ⟨by decide, by decide⟩ (Nat.le_of_ble_eq_true rfl) dX6_give_2 ?_
  have hpl : ∀ j, sp_pr S y = some j → j < 2 ^ 31 := fun j e => by have := sp_pr_lt e; omega
  refine zs_istore_n (lo' := [(3, .int (sp_oi (sp_pr S y))), (0, .ref x), (1, .int y), (2, .int z)]) hE dX6_give_5 rfl (by decide) rfl ?_
  refine zs_iload_n hE 0 dX6_give_6 rfl rfl ?_
  refine zs_iconst (v := (-1)) hE dX6_give_7 (by decide) ?_
  refine zs_icmp_ne (tgt := 21) hE dX6_give_8 (by decide) (fun h1 => ?_) (fun h1 => ?_)
  · obtain ⟨i, ei⟩ : ∃ j, sp_pr S y = some j := by cases w : sp_pr S y with | none => (rw [w] at h1; exact absurd rfl h1) | some j => exact ⟨j, rfl⟩
    have il := sp_pr_lt ei
    refine zs_lo (lo' := [(3, .int (nI i)), (0, .ref x), (1, .int y), (2, .int z)]) (by rw [ei]; rfl) ?_
    refine zs_iload_n hE 3 dX6_give_21 rfl rfl ?_
    refine zs_iconst (v := (nI 1)) hE dX6_give_22 (by decide) ?_
    refine zs_icmp_lt (tgt := 33) hE dX6_give_23 (by decide) (fun h2 => ?_) (fun h2 => ?_)
    · exact zs_throwW hE hl htab th_X6_37_258_41 dX6_give_33 dX6_give_36 dX6_give_37 dX6_give_40 dX6_give_43 (by decide) (Nat.le_of_ble_eq_true rfl) (by decide) (by decide) (op_th hp 1 rfl (by rw [o_give, ei]; simp only []; rw [pI_t ((Or.inl h2 : z < 1 ∨ nI 9999 < z))])) (by decide) (by decide)
    · refine zs_iload_n hE 3 dX6_give_26 rfl rfl ?_
      refine zs_sipush (v := (nI 9999)) hE dX6_give_27 (by decide) ?_
      refine zs_icmp_le (tgt := 44) hE dX6_give_30 (by decide) (fun h3 => ?_) (fun h3 => ?_)
      · obtain ⟨co, col, rfl⟩ := sp_dec (n := 10000) (x := z) (by decide) (by rw [Int32.lt_iff_toInt_lt] at h2 ⊢; have e63 : (nI 9999).toInt = 9999 := rfl; have e64 : (nI 10000).toInt = 10000 := rfl; have e65 : (nI 1).toInt = 1 := rfl; have e66 : (0 : Int32).toInt = 0 := rfl; omega) (by rw [Int32.lt_iff_toInt_lt]; rw [Int32.le_iff_toInt_le] at h3; have e63 : (nI 9999).toInt = 9999 := rfl; have e64 : (nI 10000).toInt = 10000 := rfl; have e65 : (nI 1).toInt = 1 := rfl; have e66 : (0 : Int32).toInt = 0 := rfl; omega)
        have cop : 0 < co := by rcases Nat.eq_zero_or_pos co with w | w; (subst w; exact absurd (by decide) h2); exact w
        have hno : ¬ (nI co < 1 ∨ nI 9999 < nI co) := fun w => by rcases w with w | w; exact h2 w; (rw [Int32.lt_iff_toInt_lt] at w; rw [Int32.le_iff_toInt_le] at h3; omega)
        refine zs_aload_n hE 1 dX6_give_44 rfl rfl ?_
        refine zs_aload_n hE 1 dX6_give_45 rfl rfl ?_
        refine zs_iload_n hE 0 dX6_give_46 rfl rfl ?_
        refine zs_callVR (av := [.int (nI i)]) (st := [.ref x]) (b := x) hE (m_X6_lastHeard D E B l κ S x i il) rfl rfl sV_X6_260 hx rfl rfl (hp) ⟨by decide, by decide⟩ ⟨by decide, by decide⟩ (Nat.le_of_ble_eq_true rfl) dX6_give_47 ?_
        refine zs_callVR (av := [.int (nI (sp_lh S i) - 1)]) (st := []) (b := x) hE (m_X6_versionAt D E B l x a2 (sp_nv S) lv (nI (sp_lh S i) - 1) (.ref a1) (.int (nI (sp_np S))) .null .null (.ref a3) (.ref a4) (.int (nI (sp_nz S))) (.ref a5) (.int (nI (sp_ty S).length)) n40) rfl rfl sV_X6_82 hx rfl rfl (⟨hx, r2⟩) ⟨by decide, by decide⟩ ⟨by decide, by decide⟩ (Nat.le_of_ble_eq_true rfl) dX6_give_50 ?_
        have lhl := lh_le wH i
        refine zs_astoreq (lo' := [(4, va_rf (sp_at (nI (sp_lh S i) - 1) (sp_nv S) lv)), (3, .int (nI i)), (0, .ref x), (1, .int y), (2, .int (nI co))]) hE dX6_give_53 (by decide) rfl ?_
        refine zs_aloadq hE 0 dX6_give_55 rfl ?_
        refine zs_ifnonnull (tgt := 71) hE dX6_give_57 (by decide) (fun o4 h4 => ?_) (fun h4 => ?_)
        · obtain ⟨v, ev⟩ : ∃ i0, sp_i (nI (sp_lh S i) - 1) (sp_nv S) = some i0 := by cases w : sp_i (nI (sp_lh S i) - 1) (sp_nv S) with | none => (rw [sp_at_no w] at h4; cases h4) | some j0 => exact ⟨j0, rfl⟩
          obtain ⟨va, vae, vav⟩ := hV.yes ev
          obtain ⟨y0, y1, y2, y3, yh, yf, y4, ⟨y5, y6⟩, y7⟩ := id vav
          refine zs_lo (lo' := [(4, .ref va), (3, .int (nI i)), (0, .ref x), (1, .int y), (2, .int (nI co))]) (by rw [vae]; rfl) ?_
          have vl := (sp_i_lt ev).1
          have lh0 : sp_lh S i ≠ 0 := fun w => by rw [w, sp_i_lo (by decide)] at ev; cases ev
          have hvl : sp_lh S i - 1 = v := by rw [nI_m2 (by omega), sp_i_in (by omega) (by omega)] at ev; exact Option.some.inj ev
          refine zs_aload_n hE 2 dX6_give_71 rfl rfl ?_
          refine zs_get hE fl_X6_265 hx rfl dX6_give_72 ?_
          refine zs_bipush (v := (nI 12)) hE dX6_give_75 (by decide) ?_
          refine zs_icmp_ltN (tgt := 91) hE (by omega) (by decide) dX6_give_77 (by decide) (fun h5 => ?_) (fun h5 => ?_)
          · have lx0 := hx.lt
            have la1 := r1.lt
            have la2 := r2.lt
            have la3 := r3.lt
            have la4 := r4.lt
            have la5 := r5.lt
            have lva := y5.lt
            have lyh := y6.lt
            refine zs_new (fs := [.int 0, .int 0, .null]) hE nl_X6_27 (fun j hj => by rcases (show j = 0 ∨ j = 1 ∨ j = 2 by omega) with rfl | rfl | rfl <;> rfl) (by decide) (by decide) dX6_give_91 (fun q1 H1 hq1 hp1 hz1 ho1 => ?_)
            refine zs_widen (k' := 1) (n' := 3) (by omega) (by omega) ?_
            have ne2 : x ≠ q1 := by have := zs_pt.lt hx; omega
            have hx := zs_pt.kept hx (ho1 _ (zs_pt.lt hx))
            have ne3 : a1 ≠ q1 := by have := zs_pt.lt r1; omega
            have r1 := zs_pt.kept r1 (ho1 _ (zs_pt.lt r1))
            have ne4 : a2 ≠ q1 := by have := zs_pt.lt r2; omega
            have r2 := zs_pt.kept r2 (ho1 _ (zs_pt.lt r2))
            have ne5 : a3 ≠ q1 := by have := zs_pt.lt r3; omega
            have r3 := zs_pt.kept r3 (ho1 _ (zs_pt.lt r3))
            have ne6 : a4 ≠ q1 := by have := zs_pt.lt r4; omega
            have r4 := zs_pt.kept r4 (ho1 _ (zs_pt.lt r4))
            have ne7 : a5 ≠ q1 := by have := zs_pt.lt r5; omega
            have r5 := zs_pt.kept r5 (ho1 _ (zs_pt.lt r5))
            have ne8 : va ≠ q1 := by have := zs_pt.lt y5; omega
            have y5 := zs_pt.kept y5 (ho1 _ (zs_pt.lt y5))
            have ne9 : yh ≠ q1 := by have := zs_pt.lt y6; omega
            have y6 := zs_pt.kept y6 (ho1 _ (zs_pt.lt y6))
            refine zs_dup hE dX6_give_94 rfl ?_
            refine zs_aload hE 0 dX6_give_95 rfl ?_
            refine zs_get hE fl_X6_116 y5 rfl dX6_give_97 ?_
            refine zs_iload_n hE 4 dX6_give_100 rfl rfl ?_
            refine zs_callI (ret := none) (av := [.int (nI v), .int (nI co)]) (st := [.ref q1]) hE (m_X2_init D E B l q1 v (nI co)) sI_X6_270 (hp1) ⟨by decide, by decide⟩ ⟨by decide, by decide⟩ (fun z w => Or.inr (by omega)) (Nat.le_of_ble_eq_true rfl) dX6_give_101 (fun v10 H10 hv10 hz10 hk10 => ?_)
            obtain ⟨rfl, pg, pge, cz, c1, c2⟩ := hv10
            refine zs_widen (k' := 2) (n' := 9) (by decide) (by decide) ?_
            have hx := zs_pt.kept hx (hk10 _ (zs_pt.lt hx) (by omega))
            have r1 := zs_pt.kept r1 (hk10 _ (zs_pt.lt r1) (by omega))
            have r2 := zs_pt.kept r2 (hk10 _ (zs_pt.lt r2) (by omega))
            have r3 := zs_pt.kept r3 (hk10 _ (zs_pt.lt r3) (by omega))
            have r4 := zs_pt.kept r4 (hk10 _ (zs_pt.lt r4) (by omega))
            have r5 := zs_pt.kept r5 (hk10 _ (zs_pt.lt r5) (by omega))
            have y5 := zs_pt.kept y5 (hk10 _ (zs_pt.lt y5) (by omega))
            have y6 := zs_pt.kept y6 (hk10 _ (zs_pt.lt y6) (by omega))
            have ho1 : ∀ z, z < s.heap.size → H10[z]? = s.heap[z]? := fun z w => (hk10 z (by omega) (fun w2 => by omega)).trans (ho1 z w)
            have va1 : cs_ver D E (va_up κ pg 1) H10 va v (sp_vp S v) (sp_am S v) (sp_wfr S v) (sp_sl S v) := vav.kk (fun z w _ => ho1 z w) (fun z w w2 => by rw [va_up_ne _ _ (by omega)]; exact w2)
            refine zs_astore (lo' := [(5, .ref q1), (4, .ref va), (3, .int (nI i)), (0, .ref x), (1, .int y), (2, .int (nI co))]) hE dX6_give_104 (by decide) rfl ?_
            refine zs_aload hE 0 dX6_give_106 rfl ?_
            refine zs_aload hE 1 dX6_give_108 rfl ?_
            refine zs_callV (av := [.ref va]) (st := []) hE (m_X2_shareOut D E B l (va_up κ pg 1) q1 pg va v co v (sp_vp S v) (sp_am S v) (sp_wfr S v) (sp_sl S v) (by omega) (w_pos wP wV vl) (by omega)) sV_X6_271 c1 rfl rfl (⟨va1, (by rw [va_up_self]; decide), c1, c2⟩) ⟨by decide, by decide⟩ ⟨by decide, by decide⟩ (fun z w => Or.inr (by omega)) (Nat.le_of_ble_eq_true rfl) dX6_give_110 (fun v11 H11 hv11 hz11 hk11 => ?_)
            obtain ⟨rfl, d2⟩ := hv11
            refine zs_widen (k' := 3) (n' := 15) (by decide) (by decide) ?_
            have hx := zs_pt.kept hx (hk11 _ (zs_pt.lt hx) (by omega))
            have r1 := zs_pt.kept r1 (hk11 _ (zs_pt.lt r1) (by omega))
            have r2 := zs_pt.kept r2 (hk11 _ (zs_pt.lt r2) (by omega))
            have r3 := zs_pt.kept r3 (hk11 _ (zs_pt.lt r3) (by omega))
            have r4 := zs_pt.kept r4 (hk11 _ (zs_pt.lt r4) (by omega))
            have r5 := zs_pt.kept r5 (hk11 _ (zs_pt.lt r5) (by omega))
            have y5 := zs_pt.kept y5 (hk11 _ (zs_pt.lt y5) (by omega))
            have y6 := zs_pt.kept y6 (hk11 _ (zs_pt.lt y6) (by omega))
            have c1 := zs_pt.kept c1 (hk11 _ (zs_pt.lt c1) (by omega))
            refine zs_aload_n hE 3 dX6_give_113 rfl rfl ?_
            refine zs_get hE fl_X6_265 hx rfl dX6_give_114 ?_
            refine zs_istore (lo' := [(6, .int (nI (sp_nz S))), (5, .ref q1), (4, .ref va), (3, .int (nI i)), (0, .ref x), (1, .int y), (2, .int (nI co))]) hE dX6_give_117 (by decide) rfl ?_
            refine zs_aload_n hE 4 dX6_give_119 rfl rfl ?_
            refine zs_get hE fl_X6_29 hx rfl dX6_give_120 ?_
            refine zs_iload hE 0 dX6_give_123 rfl ?_
            refine zs_aload hE 1 dX6_give_125 rfl ?_
            refine zs_aast hE r4 rfl c1 rfl (Or.inl (cs_F.i t4 (by decide) (by decide))) (by omega) (by decide) dX6_give_127 (fun H12 hp12 hz12 ho12 => ?_)
            have hx := zs_pt.kept hx (ho12 _ (cs_ne t0 t4 (by decide)))
            have r1 := zs_pt.kept r1 (ho12 _ (cs_ne t1 t4 (by decide)))
            have r2 := zs_pt.kept r2 (ho12 _ (cs_ne t2 t4 (by decide)))
            have r3 := zs_pt.kept r3 (ho12 _ (cs_ne t3 t4 (by decide)))
            have r5 := zs_pt.kept r5 (ho12 _ (cs_ne t5 t4 (by decide)))
            have y5 := zs_pt.kept y5 (ho12 _ (cs_ne y0 t4 (by decide)))
            have y6 := zs_pt.kept y6 (ho12 _ (cs_ne y4 t4 (by decide)))
            have c1 := zs_pt.kept c1 (ho12 _ (by omega))
            have d2 := zs_pt.kept d2 (ho12 _ (by omega))
            refine zs_aload_n hE 4 dX6_give_128 rfl rfl ?_
            refine zs_dup hE dX6_give_129 rfl ?_
            refine zs_get hE fl_X6_265 hx rfl dX6_give_130 ?_
            refine zs_iconst (v := (nI 1)) hE dX6_give_133 (by decide) ?_
            refine zs_iaddN hE dX6_give_134 ?_
            refine zs_put (v := .int (nI (sp_nz S + 1))) hE fl_X6_265 hx (Or.inl (cs_F.i t0 (by decide) (by decide))) (rfl) (rfl) (Nat.le_of_ble_eq_true rfl) dX6_give_135 (fun H13 hp13 hz13 ho13 => ?_)
            have r1 := zs_pt.kept r1 (ho13 _ (cs_ne t1 t0 (by decide)))
            have r2 := zs_pt.kept r2 (ho13 _ (cs_ne t2 t0 (by decide)))
            have r3 := zs_pt.kept r3 (ho13 _ (cs_ne t3 t0 (by decide)))
            have hp12 := zs_pt.kept hp12 (ho13 _ (cs_ne t4 t0 (by decide)))
            have r5 := zs_pt.kept r5 (ho13 _ (cs_ne t5 t0 (by decide)))
            have y5 := zs_pt.kept y5 (ho13 _ (cs_ne y0 t0 (by decide)))
            have y6 := zs_pt.kept y6 (ho13 _ (cs_ne y4 t0 (by decide)))
            have c1 := zs_pt.kept c1 (ho13 _ (by omega))
            have d2 := zs_pt.kept d2 (ho13 _ (by omega))
            have hp13 : zs_pt D x (.inr (6, [.ref a1, .int (nI (sp_np S)), .ref a2, .int (nI (sp_nv S)), .ref a3, .ref a4, .int (nI (sp_nz S + 1)), .ref a5, .int (nI ((sp_ty S).length))])) H13 := hp13
            refine zs_iload hE 0 dX6_give_138 rfl ?_
            have hk : ∀ z, z < s.heap.size → κ z ≠ 1 → κ z ≠ 5 → H13[z]? = s.heap[z]? := fun z w w0 w2 => (ho13 z (fun e => w0 (e ▸ t0))).trans ((ho12 z (fun e => w2 (e ▸ t4))).trans ((hk11 z (by omega) (by omega)).trans (ho1 z w)))
            exact zs_iretX hE hr (op_mk (by rw [o_give, ei]; simp only []; rw [pI_f hno]; rw [pI_f lh0]; rw [pI_f (by omega), hvl, sp_n_nI (by omega)]) (cs_to.k (by omega) (S' := s_give S v co) ⟨a1, a2, a3, a4, a5, lp, lv, lh, va_up lz (sp_nz S) (some q1), tg, ⟨t0, t1, t2, t3, t4, t5, hp13, r1, r2, r3, hp12, r5⟩, htg, hP.mv2 n6 (fun q z w => hk q z (by omega) (by omega)), hV.mv (fun q z w => hk q z (by omega) (by omega)), hG.mv (fun q z w w2 => hk q z (by omega) (by omega)) n6, fun u ul => by
                          have ul : u < sp_nz S + 1 := ul
                          by_cases e9 : u = sp_nz S
                          · subst e9
                            refine ⟨q1, pg, va_up_self _ _ _, hκ _ (by omega), hκ _ (by omega), ?_, ?_⟩
                            · rw [show sp_zv (s_give S v co) (sp_nz S) = v from va_up_self _ _ _, show sp_zc (s_give S v co) (sp_nz S) = co from va_up_self _ _ _]; exact c1
                            · rw [show sp_zs (s_give S v co) (sp_nz S) = _ from va_up_self _ _ _]; exact d2
                          · obtain ⟨a9, g9, w1, w2, w3, w4, w5⟩ := hZ u (by omega)
                            refine ⟨a9, g9, by rw [va_up_ne _ _ e9]; exact w1, w2, w3, ?_, ?_⟩
                            · rw [show sp_zv (s_give S v co) u = sp_zv S u from va_up_ne _ _ e9, show sp_zc (s_give S v co) u = sp_zc S u from va_up_ne _ _ e9]; exact w4.kept (hk _ w4.lt (by omega) (by omega))
                            · rw [show sp_zs (s_give S v co) u = sp_zs S u from va_up_ne _ _ e9]; exact w5.kept (hk _ w5.lt (by omega) (by omega)), fun q w => hκ q (by omega)⟩)) (by decide) (by decide) dX6_give_140
          · exact zs_throwW hE hl htab th_X6_51_268_55 dX6_give_80 dX6_give_83 dX6_give_84 dX6_give_87 dX6_give_90 (by decide) (Nat.le_of_ble_eq_true rfl) (by decide) (by decide) (op_th hp 3 rfl (by rw [o_give, ei]; simp only []; rw [pI_f hno]; rw [pI_f lh0]; rw [pI_t (by omega)])) (by decide) (by decide)
        · exact zs_throwW hE hl htab th_X6_160_263_164 dX6_give_60 dX6_give_63 dX6_give_64 dX6_give_67 dX6_give_70 (by decide) (Nat.le_of_ble_eq_true rfl) (by decide) (by decide) (op_th hp 2 rfl (by rw [o_give, ei]; simp only []; rw [pI_f hno]; rw [pI_t]; apply Classical.byContradiction; intro w; rw [nI_m2 (by omega), sp_at_yes (sp_i_in (by omega) (by omega))] at h4; obtain ⟨a, e1, -⟩ := hV (sp_lh S i - 1) (by omega); rw [e1] at h4; cases h4)) (by decide) (by decide)
      · exact zs_throwW hE hl htab th_X6_37_258_41 dX6_give_33 dX6_give_36 dX6_give_37 dX6_give_40 dX6_give_43 (by decide) (Nat.le_of_ble_eq_true rfl) (by decide) (by decide) (op_th hp 1 rfl (by rw [o_give, ei]; simp only []; rw [pI_t ((Or.inr (sp_le_lt h3) : z < 1 ∨ nI 9999 < z))])) (by decide) (by decide)
  · exact zs_throw hE hl htab th_X6_74_253_78 dX6_give_11 dX6_give_14 dX6_give_15 dX6_give_17 dX6_give_20 (by decide) (Nat.le_of_ble_eq_true rfl) (by decide) (by decide) (op_th hp 0 rfl (by rw [o_give, (sp_oi_no hpl).mp h1])) (by decide) (by decide)


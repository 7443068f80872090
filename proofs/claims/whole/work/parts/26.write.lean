/-! write, give -/
theorem sp_sh_yes {S : sp_S} {y b q : Int32} {rs : sp_Sh} (h : sp_sh S y b q = some rs) : ∃ v i k, sp_i y (sp_nv S) = some v ∧ sp_i b 8 = some i ∧ sp_i q 4 = some k ∧ sp_sl S v (i * 4 + k) = some rs := by
  unfold sp_sh at h
  cases e1 : sp_i y (sp_nv S) with
  | none => rw [e1] at h; cases h
  | some v =>
    cases e2 : sp_i b 8 with
    | none => rw [e1, e2] at h; cases h
    | some i =>
      cases e3 : sp_i q 4 with
      | none => rw [e1, e2, e3] at h; cases h
      | some k => rw [e1, e2, e3] at h; exact ⟨v, i, k, rfl, rfl, rfl, h⟩
theorem sp_sh_at {S : sp_S} {y b q : Int32} {v : Nat} (h : sp_i y (sp_nv S) = some v) : sp_sh S y b q = (sp_i b 8).bind (fun b => (sp_i q 4).bind (fun q => sp_sl S v (b * 4 + q))) := by rw [sp_sh, h]; rfl
theorem sp_n_i {x : Int32} {n j : Nat} (hn : n < 2 ^ 31) (h : sp_i x n = some j) : sp_n x = j := by
  obtain ⟨h1, rfl⟩ := sp_i_lt h
  exact sp_n_nI (by omega)
theorem sl_bd {S : sp_S} {v j : Nat} {rs : sp_Sh} (h : sp_sl S v j = some rs) : j / 4 < sp_ba S (sp_vp S v) ∧ j % 4 < sp_pa S (sp_vp S v) ∧ rs = sp_sv S v (sp_pa S (sp_vp S v) * (j / 4) + j % 4) := by
  unfold sp_sl at h
  by_cases q : j / 4 < sp_ba S (sp_vp S v) ∧ j % 4 < sp_pa S (sp_vp S v)
  · rw [if_pos q] at h; cases h; exact ⟨q.1, q.2, rfl⟩
  · rw [if_neg q] at h; cases h
theorem sl_wr {S : sp_S} {v e b p : Nat} (hb : b < sp_ba S (sp_vp S v)) (hp : p < sp_pa S (sp_vp S v)) (hp4 : p < 4) (j : Nat) : sp_sl (s_write S v e b p) (sp_nv S) j = if j = b * 4 + p then some [(e, sp_ty S)] else sp_sl S v j := by
  have e1 : sp_vp (s_write S v e b p) (sp_nv S) = sp_vp S v := va_up_self _ _ _
  have e2 : sp_sv (s_write S v e b p) (sp_nv S) = va_up (sp_sv S v) (sp_pa S (sp_vp S v) * b + p) [(e, sp_ty S)] := va_up_self _ _ _
  unfold sp_sl
  rw [e1, e2]
  show (if j / 4 < sp_ba S (sp_vp S v) ∧ j % 4 < sp_pa S (sp_vp S v) then some (va_up (sp_sv S v) (sp_pa S (sp_vp S v) * b + p) [(e, sp_ty S)] (sp_pa S (sp_vp S v) * (j / 4) + j % 4)) else none) = _
  by_cases q : j = b * 4 + p
  · subst q
    rw [show (b * 4 + p) / 4 = b by omega, show (b * 4 + p) % 4 = p by omega, if_pos ⟨hb, hp⟩, if_pos rfl, va_up_self]
  · rw [if_neg q]
    by_cases w : j / 4 < sp_ba S (sp_vp S v) ∧ j % 4 < sp_pa S (sp_vp S v)
    · rw [if_pos w, if_pos w, va_up_ne _ _ (fun z => q (by obtain ⟨z1, z2⟩ := idx_inj w.2 hp z; omega))]
    · rw [if_neg w, if_neg w]
theorem ta_or {a n : Nat} (h : a < 2 ^ (n + 1)) (m : Nat) (hm : n < m) : a ||| 2 ^ m < 2 ^ (m + 1) := Nat.or_lt_two_pow (Nat.lt_of_lt_of_le h (Nat.pow_le_pow_right (by decide) (by omega))) (Nat.pow_lt_pow_right (by decide) (by omega))

set_option maxHeartbeats 4000000 in
set_option maxRecDepth 100000 in
theorem m_X6_write (D : va_G) (E : Nat → ClassId) (B : Nat) (l : Launch) (hl : l.stackTraces = false) (κ : Nat → Nat) (S : sp_S) (x : Nat) (y w b q : Int32) : zs_Cx D E B l yX6_write cX6_write 7 (some .int) ({ frames := 6, cells := 8, slots := 64, locals := 102 } : Room) [.ref x, .int y, .int w, .int b, .int q] (fun H => cs_W D E κ S x H) (cs_F κ) (op_Q D E κ x (o_write S y w b q)) (op_X D E κ x S (o_write S y w b q) ["java/lang/IndexOutOfBoundsException", "java/lang/IllegalArgumentException", "java/lang/IllegalStateException"]) := by
  refine zs_cx (by decide) (Nat.le_of_ble_eq_true rfl) (fun p e s m below meth c hE hr htab hp => ?_)
  refine zs_lo (lo' := [(0, .ref x), (1, .int y), (2, .int w), (3, .int b), (4, .int q)]) rfl ?_
  obtain ⟨hX0, hw⟩ := id hp
  obtain ⟨a1, a2, a3, a4, a5, lp, lv, lh, lz, tg, ⟨t0, t1, t2, t3, t4, t5, hx, r1, r2, r3, r4, r5⟩, htg, hP, hV, hG, hZ, hκ⟩ := hX0
  obtain ⟨wN, wP, wV, wA, wH, wZ, wF⟩ := id hw
  obtain ⟨n6, n40, n12, n8, n99⟩ := id wN
  refine zs_aload_n hE 0 dX6_write_0 rfl rfl ?_
  refine zs_iload_n hE 1 dX6_write_1 rfl rfl ?_
  refine zs_callVR (av := [.int y]) (st := []) (b := x) hE (m_X6_versionAt D E B l x a2 (sp_nv S) lv y (.ref a1) (.int (nI (sp_np S))) .null .null (.ref a3) (.ref a4) (.int (nI (sp_nz S))) (.ref a5) (.int (nI (sp_ty S).length)) n40) rfl rfl sV_X6_82 hx rfl rfl (⟨hx, r2⟩) ⟨by decide, by decide⟩ ⟨by decide, by decide⟩ (Nat.le_of_ble_eq_true rfl) dX6_write_2 ?_
  refine zs_astoreq (lo' := [(5, va_rf (sp_at y (sp_nv S) lv)), (0, .ref x), (1, .int y), (2, .int w), (3, .int b), (4, .int q)]) hE dX6_write_5 (by decide) rfl ?_
  refine zs_aloadq hE 0 dX6_write_7 rfl ?_
  refine zs_ifnull (tgt := 23) hE dX6_write_9 (by decide) (fun h1 => ?_) (fun o1 h1 => ?_)
  · exact zs_throw hE hl htab th_X6_74_102_78 dX6_write_23 dX6_write_26 dX6_write_27 dX6_write_29 dX6_write_32 (by decide) (Nat.le_of_ble_eq_true rfl) (by decide) (by decide) (op_th hp 0 rfl (by rw [o_write, sp_sh]; cases e : sp_i y (sp_nv S) with | none => rfl | some i => (obtain ⟨a, e1, -⟩ := hV.yes e; rw [e1] at h1; cases h1))) (by decide) (by decide)
  · obtain ⟨v, ev⟩ : ∃ i0, sp_i y (sp_nv S) = some i0 := by cases w : sp_i y (sp_nv S) with | none => (rw [sp_at_no w] at h1; cases h1) | some j0 => exact ⟨j0, rfl⟩
    obtain ⟨va, vae, vav⟩ := hV.yes ev
    obtain ⟨y0, y1, y2, y3, yh, yf, y4, ⟨y5, y6⟩, y7⟩ := id vav
    refine zs_lo (lo' := [(5, .ref va), (0, .ref x), (1, .int y), (2, .int w), (3, .int b), (4, .int q)]) (by rw [vae]; rfl) ?_
    have vl := (sp_i_lt ev).1
    obtain ⟨vpl, vq1, vq2, vam, vsv⟩ := wV v vl
    refine zs_aload hE 0 dX6_write_12 rfl ?_
    refine zs_iload_n hE 4 dX6_write_14 rfl rfl ?_
    refine zs_iload hE 5 dX6_write_15 rfl ?_
    refine zs_callVR (av := [.int b, .int q]) (st := []) (b := va) hE (m_X5_sheafAt D E B l va yh v (sp_vp S v) (sp_am S v) (sp_wfr S v) yf b q) rfl rfl sV_X6_98 y5 rfl rfl (⟨y5, y6⟩) ⟨by decide, by decide⟩ ⟨by decide, by decide⟩ (Nat.le_of_ble_eq_true rfl) dX6_write_17 ?_
    have hat := y7.at2 b q
    refine zs_ifnonnull (tgt := 33) hE dX6_write_20 (by decide) (fun o2 h2 => ?_) (fun h2 => ?_)
    · obtain ⟨rs, ers⟩ : ∃ rs, sp_sh S y b q = some rs := by cases e : sp_sh S y b q with | none => (rw [sp_sh_at ev] at e; rw [hat.1 e] at h2; cases h2) | some rs => exact ⟨rs, rfl⟩
      obtain ⟨v9, bi, qi, z1, eb, eq, esl⟩ := sp_sh_yes ers
      cases Option.some.inj (z1.symm.trans ev)
      obtain ⟨bl, bre⟩ := sp_i_lt eb
      obtain ⟨ql, qre⟩ := sp_i_lt eq
      obtain ⟨k1, k2, -⟩ := sl_bd esl
      rw [show (bi * 4 + qi) / 4 = bi by omega] at k1
      rw [show (bi * 4 + qi) % 4 = qi by omega] at k2
      refine zs_iload_n hE 3 dX6_write_33 rfl rfl ?_
      refine zs_callSR (av := [.int w]) (st := []) hE (m_X6_isEditor D E B l w) rfl rfl sS_X6_104 (trivial) ⟨by decide, by decide⟩ ⟨by decide, by decide⟩ (Nat.le_of_ble_eq_true rfl) dX6_write_34 ?_
      refine zs_if_neB (tgt := 50) hE dX6_write_37 (by decide) (fun h3 => ?_) (fun h3 => ?_)
      · obtain ⟨ed, ee⟩ : ∃ e, sp_i w 6 = some e := by cases z : sp_i w 6 with | none => exact absurd z h3 | some j => exact ⟨j, rfl⟩
        obtain ⟨edl, wre⟩ := sp_i_lt ee
        refine zs_lo (lo' := [(5, .ref va), (0, .ref x), (1, .int y), (2, .int (nI ed)), (3, .int (nI bi)), (4, .int (nI qi))]) (by rw [wre, bre, qre]) ?_
        refine zs_aload_n hE 1 dX6_write_50 rfl rfl ?_
        refine zs_get hE fl_X6_48 hx rfl dX6_write_51 ?_
        refine zs_bipush (v := (nI 40)) hE dX6_write_54 (by decide) ?_
        refine zs_icmp_ltN (tgt := 69) hE (by omega) (by decide) dX6_write_56 (by decide) (fun h4 => ?_) (fun h4 => ?_)
        · refine zs_new (fs := [.int 0, .int 0, .long 0, .int 0, .null]) hE nl_X6_15 (fun j hj => by rcases (show j = 0 ∨ j = 1 ∨ j = 2 ∨ j = 3 ∨ j = 4 by omega) with rfl | rfl | rfl | rfl | rfl <;> rfl) (by decide) (by decide) dX6_write_69 (fun q1 H1 hq1 hp1 hz1 ho1 => ?_)
          refine zs_widen (k' := 1) (n' := 5) (by omega) (by omega) ?_
          have ne2 : x ≠ q1 := by have := zs_pt.lt hx; omega
          have hx := zs_pt.kept hx (ho1 _ (zs_pt.lt hx))
          have ne3 : a1 ≠ q1 := by have := zs_pt.lt r1; omega
          have r1 := zs_pt.kept r1 (ho1 _ (zs_pt.lt r1))
          have ne4 : a2 ≠ q1 := by have := zs_pt.lt r2; omega
          have r2 := zs_pt.kept r2 (ho1 _ (zs_pt.lt r2))
          have ne5 : a3 ≠ q1 := by have := zs_pt.lt r3; omega
          have r3 := zs_pt.kept r3 (ho1 _ (zs_pt.lt r3))
          have ne6 : a4 ≠ q1 := by have := zs_pt.lt r4; omega
          have r4 := zs_pt.kept r4 (ho1 _ (zs_pt.lt r4))
          have ne7 : a5 ≠ q1 := by have := zs_pt.lt r5; omega
          have r5 := zs_pt.kept r5 (ho1 _ (zs_pt.lt r5))
          have ne8 : va ≠ q1 := by have := zs_pt.lt y5; omega
          have y5 := zs_pt.kept y5 (ho1 _ (zs_pt.lt y5))
          have ne9 : yh ≠ q1 := by have := zs_pt.lt y6; omega
          have y6 := zs_pt.kept y6 (ho1 _ (zs_pt.lt y6))
          have hV0 := hV
          refine zs_dup hE dX6_write_72 rfl ?_
          refine zs_aload_n hE 1 dX6_write_73 rfl rfl ?_
          refine zs_get hE fl_X6_48 hx rfl dX6_write_74 ?_
          refine zs_aload hE 0 dX6_write_77 rfl ?_
          refine zs_get hE fl_X6_88 y5 rfl dX6_write_79 ?_
          refine zs_aload hE 0 dX6_write_82 rfl ?_
          refine zs_get hE fl_X6_112 y5 rfl dX6_write_84 ?_
          refine zs_aload hE 0 dX6_write_87 rfl ?_
          refine zs_get hE fl_X6_116 y5 rfl dX6_write_89 ?_
          have lx0 := hx.lt
          have la1 := r1.lt
          have la2 := r2.lt
          have la3 := r3.lt
          have la4 := r4.lt
          have la5 := r5.lt
          have lva := y5.lt
          have lyh := y6.lt
          refine zs_callI (ret := none) (av := [.int (nI (sp_nv S)), .int (nI (sp_vp S v)), .long (lN (sp_am S v)), .int (nI v)]) (st := [.ref q1]) hE (m_X5_init D E B l q1 (sp_nv S) (sp_vp S v) (sp_am S v) (nI v) h4) sI_X6_56 (hp1) ⟨by decide, by decide⟩ ⟨by decide, by decide⟩ (fun z w => Or.inr (by omega)) (Nat.le_of_ble_eq_true rfl) dX6_write_92 (fun v10 H10 hv10 hz10 hk10 => ?_)
          obtain ⟨rfl, nh, nhe, cz, c1⟩ := hv10
          refine zs_widen (k' := 2) (n' := 37) (by decide) (by decide) ?_
          have hx := zs_pt.kept hx (hk10 _ (zs_pt.lt hx) (by omega))
          have r1 := zs_pt.kept r1 (hk10 _ (zs_pt.lt r1) (by omega))
          have r2 := zs_pt.kept r2 (hk10 _ (zs_pt.lt r2) (by omega))
          have r3 := zs_pt.kept r3 (hk10 _ (zs_pt.lt r3) (by omega))
          have r4 := zs_pt.kept r4 (hk10 _ (zs_pt.lt r4) (by omega))
          have r5 := zs_pt.kept r5 (hk10 _ (zs_pt.lt r5) (by omega))
          have y5 := zs_pt.kept y5 (hk10 _ (zs_pt.lt y5) (by omega))
          have y6 := zs_pt.kept y6 (hk10 _ (zs_pt.lt y6) (by omega))
          obtain ⟨c5, c6⟩ := id c1
          have ho1 : ∀ z, z < s.heap.size → H10[z]? = s.heap[z]? := fun z w => (hk10 z (by omega) (fun w2 => by omega)).trans (ho1 z w)
          have vf := y7.kept (H1 := H10) (fun z w _ => ho1 z w)
          refine zs_astore (lo' := [(6, .ref q1), (5, .ref va), (0, .ref x), (1, .int y), (2, .int (nI ed)), (3, .int (nI bi)), (4, .int (nI qi))]) hE dX6_write_95 (by decide) rfl ?_
          refine zs_aload hE 0 dX6_write_97 rfl ?_
          refine zs_aload hE 1 dX6_write_99 rfl ?_
          refine zs_callV (av := [.ref va]) (st := []) hE (m_X5_copySheaves D E B l q1 nh va yh (sp_nv S) (sp_vp S v) (sp_am S v ||| 2 ^ sp_nv S) v (sp_vp S v) (sp_am S v) (nI v) (sp_wfr S v) _ yf (by omega) (by omega) (by omega)) sV_X6_119 c5 rfl rfl (⟨⟨c5, c6⟩, ⟨y5, y6⟩, fun k kl u e => by obtain ⟨vs, ob⟩ := (vf k kl).ob u e; refine ⟨?_, vs, ob⟩; obtain ⟨vs2, ob2⟩ := (y7 k kl).ob u e; have := ob2.lt; omega⟩) ⟨by decide, by decide⟩ ⟨by decide, by decide⟩ (fun z w => Or.inr (by omega)) (Nat.le_of_ble_eq_true rfl) dX6_write_101 (fun v11 H11 hv11 hz11 hk11 => ?_)
          obtain ⟨rfl, dz, f1, df, d1⟩ := hv11
          refine zs_widen (k' := 2) (n' := 37) (by decide) (by decide) ?_
          have hx := zs_pt.kept hx (hk11 _ (zs_pt.lt hx) (by omega))
          have r1 := zs_pt.kept r1 (hk11 _ (zs_pt.lt r1) (by omega))
          have r2 := zs_pt.kept r2 (hk11 _ (zs_pt.lt r2) (by omega))
          have r3 := zs_pt.kept r3 (hk11 _ (zs_pt.lt r3) (by omega))
          have r4 := zs_pt.kept r4 (hk11 _ (zs_pt.lt r4) (by omega))
          have r5 := zs_pt.kept r5 (hk11 _ (zs_pt.lt r5) (by omega))
          have y5 := zs_pt.kept y5 (hk11 _ (zs_pt.lt y5) (by omega))
          have y6 := zs_pt.kept y6 (hk11 _ (zs_pt.lt y6) (by omega))
          obtain ⟨d5, d6⟩ := id d1
          have ho2 : ∀ z, z < s.heap.size → H11[z]? = s.heap[z]? := fun z w => (hk11 z (by omega) (fun w2 => by omega)).trans (ho1 z w)
          refine zs_aload hE 0 dX6_write_104 rfl ?_
          refine zs_iload_n hE 5 dX6_write_106 rfl rfl ?_
          refine zs_iconst (v := (nI 4)) hE dX6_write_107 (by decide) ?_
          refine zs_imulN hE dX6_write_108 ?_
          refine zs_iload hE 6 dX6_write_109 rfl ?_
          refine zs_iaddN hE dX6_write_111 ?_
          refine zs_new (fs := [.int 0, .null]) hE nl_X6_122 (fun j hj => by rcases (show j = 0 ∨ j = 1 by omega) with rfl | rfl <;> rfl) (by decide) (by decide) dX6_write_112 (fun q12 H12 hq12 hp12 hz12 ho12 => ?_)
          refine zs_widen (k' := 3) (n' := 39) (by omega) (by omega) ?_
          have ne13 : x ≠ q12 := by have := zs_pt.lt hx; omega
          have hx := zs_pt.kept hx (ho12 _ (zs_pt.lt hx))
          have ne14 : a1 ≠ q12 := by have := zs_pt.lt r1; omega
          have r1 := zs_pt.kept r1 (ho12 _ (zs_pt.lt r1))
          have ne15 : a2 ≠ q12 := by have := zs_pt.lt r2; omega
          have r2 := zs_pt.kept r2 (ho12 _ (zs_pt.lt r2))
          have ne16 : a3 ≠ q12 := by have := zs_pt.lt r3; omega
          have r3 := zs_pt.kept r3 (ho12 _ (zs_pt.lt r3))
          have ne17 : a4 ≠ q12 := by have := zs_pt.lt r4; omega
          have r4 := zs_pt.kept r4 (ho12 _ (zs_pt.lt r4))
          have ne18 : a5 ≠ q12 := by have := zs_pt.lt r5; omega
          have r5 := zs_pt.kept r5 (ho12 _ (zs_pt.lt r5))
          have ne19 : va ≠ q12 := by have := zs_pt.lt y5; omega
          have y5 := zs_pt.kept y5 (ho12 _ (zs_pt.lt y5))
          have ne20 : yh ≠ q12 := by have := zs_pt.lt y6; omega
          have y6 := zs_pt.kept y6 (ho12 _ (zs_pt.lt y6))
          have ne21 : q1 ≠ q12 := by have := zs_pt.lt d5; omega
          have d5 := zs_pt.kept d5 (ho12 _ (zs_pt.lt d5))
          refine zs_dup hE dX6_write_115 rfl ?_
          refine zs_iload_n hE 4 dX6_write_116 rfl rfl ?_
          refine zs_aload_n hE 2 dX6_write_117 rfl rfl ?_
          refine zs_get hE fl_X6_33 hx rfl dX6_write_118 ?_
          refine zs_aload_n hE 2 dX6_write_121 rfl rfl ?_
          refine zs_get hE fl_X6_93 hx rfl dX6_write_122 ?_
          have l3 := hp12.lt
          refine zs_callS (av := [.ref a5, .int (nI ((sp_ty S).length))]) (st := [.int (nI ed), .ref q12, .ref q12, .int (nI (bi * 4 + qi)), .ref q1]) hE (m_J7_copyOf_59c91 D E B l a5 8 (sp_ty S).length tg rfl (by omega)) sS_X6_124 (r5) ⟨by decide, by decide⟩ ⟨by decide, by decide⟩ (fun _ w => w.elim) (Nat.le_of_ble_eq_true rfl) dX6_write_125 (fun v22 H22 hv22 hz22 hk22 => ?_)
          obtain ⟨cq, cg, rfl, ce, cp, cf⟩ := hv22
          refine zs_widen (k' := 4) (n' := 47) (by decide) (by decide) ?_
          have hx := zs_pt.kept hx (hk22 _ (zs_pt.lt hx) (fun w => w.elim))
          have r1 := zs_pt.kept r1 (hk22 _ (zs_pt.lt r1) (fun w => w.elim))
          have r2 := zs_pt.kept r2 (hk22 _ (zs_pt.lt r2) (fun w => w.elim))
          have r3 := zs_pt.kept r3 (hk22 _ (zs_pt.lt r3) (fun w => w.elim))
          have r4 := zs_pt.kept r4 (hk22 _ (zs_pt.lt r4) (fun w => w.elim))
          have r5 := zs_pt.kept r5 (hk22 _ (zs_pt.lt r5) (fun w => w.elim))
          have y5 := zs_pt.kept y5 (hk22 _ (zs_pt.lt y5) (fun w => w.elim))
          have y6 := zs_pt.kept y6 (hk22 _ (zs_pt.lt y6) (fun w => w.elim))
          have d5 := zs_pt.kept d5 (hk22 _ (zs_pt.lt d5) (fun w => w.elim))
          have hp12 := zs_pt.kept hp12 (hk22 _ (zs_pt.lt hp12) (fun w => w.elim))
          have l4 := cp.lt
          refine zs_callI (ret := none) (av := [.int (nI ed), .ref cq]) (st := [.ref q12, .int (nI (bi * 4 + qi)), .ref q1]) hE (m_X3_init D E B l q12 cq (nI ed)) sI_X6_130 (hp12) ⟨by decide, by decide⟩ ⟨by decide, by decide⟩ (fun z w => Or.inr (by omega)) (Nat.le_of_ble_eq_true rfl) dX6_write_128 (fun v23 H23 hv23 hz23 hk23 => ?_)
          obtain ⟨rfl, e3, ez⟩ := hv23
          refine zs_widen (k' := 4) (n' := 47) (by decide) (by decide) ?_
          have hx := zs_pt.kept hx (hk23 _ (zs_pt.lt hx) (by omega))
          have r1 := zs_pt.kept r1 (hk23 _ (zs_pt.lt r1) (by omega))
          have r2 := zs_pt.kept r2 (hk23 _ (zs_pt.lt r2) (by omega))
          have r3 := zs_pt.kept r3 (hk23 _ (zs_pt.lt r3) (by omega))
          have r4 := zs_pt.kept r4 (hk23 _ (zs_pt.lt r4) (by omega))
          have r5 := zs_pt.kept r5 (hk23 _ (zs_pt.lt r5) (by omega))
          have y5 := zs_pt.kept y5 (hk23 _ (zs_pt.lt y5) (by omega))
          have y6 := zs_pt.kept y6 (hk23 _ (zs_pt.lt y6) (by omega))
          have d5 := zs_pt.kept d5 (hk23 _ (zs_pt.lt d5) (by omega))
          have rowp : cs_row D E (va_up κ nh 1) H23 q12 (ed, sp_ty S) := ⟨⟨edl, n8, n99⟩, (by rw [va_up_ne _ _ (by omega)]; exact hκ _ (by omega)), cq, (by rw [va_up_ne _ _ (by omega)]; exact hκ _ (by omega)), e3, (cp.kept (hk23 _ l4 (by omega))).congA (fun k kl => by show cg k = nI ((sp_ty S).getD k 0); rw [cf k kl, htg k kl])⟩
          have hκ4 : ∀ z, H23.size ≤ z → (va_up κ nh 1) z = 0 := fun z w => by rw [va_up_ne _ _ (by omega)]; exact hκ z (by omega)
          refine zs_callS (av := [.ref q12]) (st := [.int (nI (bi * 4 + qi)), .ref q1]) hE (m_X6_sheafOf D E B l (va_up κ nh 1) q12 (ed, sp_ty S)) sS_X6_133 (⟨rowp, hκ4⟩) ⟨by decide, by decide⟩ ⟨by decide, by decide⟩ (fun _ w => w.elim) (Nat.le_of_ble_eq_true rfl) dX6_write_131 (fun v24 H24 hv24 hz24 hk24 => ?_)
          obtain ⟨sq, rfl, se, sh⟩ := hv24
          refine zs_widen (k' := 6) (n' := 53) (by decide) (by decide) ?_
          have hx := zs_pt.kept hx (hk24 _ (zs_pt.lt hx) (fun w => w.elim))
          have r1 := zs_pt.kept r1 (hk24 _ (zs_pt.lt r1) (fun w => w.elim))
          have r2 := zs_pt.kept r2 (hk24 _ (zs_pt.lt r2) (fun w => w.elim))
          have r3 := zs_pt.kept r3 (hk24 _ (zs_pt.lt r3) (fun w => w.elim))
          have r4 := zs_pt.kept r4 (hk24 _ (zs_pt.lt r4) (fun w => w.elim))
          have r5 := zs_pt.kept r5 (hk24 _ (zs_pt.lt r5) (fun w => w.elim))
          have y5 := zs_pt.kept y5 (hk24 _ (zs_pt.lt y5) (fun w => w.elim))
          have y6 := zs_pt.kept y6 (hk24 _ (zs_pt.lt y6) (fun w => w.elim))
          have d5 := zs_pt.kept d5 (hk24 _ (zs_pt.lt d5) (fun w => w.elim))
          have e3 := zs_pt.kept e3 (hk24 _ (zs_pt.lt e3) (fun w => w.elim))
          obtain ⟨sxh, sxf, -, sx1, -, -⟩ := sh.s0
          have d6k := ((d6.kept (ho12 _ d6.lt)).kept (hk22 _ (by have := d6.lt; omega) (fun w => w.elim))).kept (hk23 _ (by have := d6.lt; omega) (by omega))
          have d6k := d6k.kept (hk24 _ d6k.lt (fun w => w.elim))
          refine zs_callV (av := [.int (nI (bi * 4 + qi)), .ref sq]) (st := []) hE (m_X5_put D E B l q1 nh (sp_nv S) (sp_vp S v) (sp_am S v ||| 2 ^ sp_nv S) (bi * 4 + qi) sq (nI v) f1 _ (by omega) (by omega)) sV_X6_137 d5 rfl rfl (⟨⟨d5, d6k⟩, sx1⟩) ⟨by decide, by decide⟩ ⟨by decide, by decide⟩ (fun z w => Or.inr (by omega)) (Nat.le_of_ble_eq_true rfl) dX6_write_134 (fun v25 H25 hv25 hz25 hk25 => ?_)
          obtain ⟨rfl, fz, g1⟩ := hv25
          refine zs_widen (k' := 6) (n' := 53) (by decide) (by decide) ?_
          have hx := zs_pt.kept hx (hk25 _ (zs_pt.lt hx) (by omega))
          have r1 := zs_pt.kept r1 (hk25 _ (zs_pt.lt r1) (by omega))
          have r2 := zs_pt.kept r2 (hk25 _ (zs_pt.lt r2) (by omega))
          have r3 := zs_pt.kept r3 (hk25 _ (zs_pt.lt r3) (by omega))
          have r4 := zs_pt.kept r4 (hk25 _ (zs_pt.lt r4) (by omega))
          have r5 := zs_pt.kept r5 (hk25 _ (zs_pt.lt r5) (by omega))
          have y5 := zs_pt.kept y5 (hk25 _ (zs_pt.lt y5) (by omega))
          have y6 := zs_pt.kept y6 (hk25 _ (zs_pt.lt y6) (by omega))
          have e3 := zs_pt.kept e3 (hk25 _ (zs_pt.lt e3) (by omega))
          obtain ⟨g5, g6⟩ := id g1
          have nva : va ≠ x ∧ va ≠ a2 ∧ yh ≠ x ∧ yh ≠ a2 := ⟨cs_ne y0 t0 (by decide), cs_ne y0 t2 (by decide), cs_ne y4 t0 (by decide), cs_ne y4 t2 (by decide)⟩
          refine zs_aload_n hE 2 dX6_write_137 rfl rfl ?_
          refine zs_iconst (v := (nI 0)) hE dX6_write_138 (by decide) ?_
          refine zs_put (v := .int (nI 0)) hE fl_X6_93 hx (Or.inl (cs_F.i t0 (by decide) (by decide))) (rfl) (rfl) (Nat.le_of_ble_eq_true rfl) dX6_write_139 (fun H26 hp26 hz26 ho26 => ?_)
          have r1 := zs_pt.kept r1 (ho26 _ (cs_ne t1 t0 (by decide)))
          have r2 := zs_pt.kept r2 (ho26 _ (cs_ne t2 t0 (by decide)))
          have r3 := zs_pt.kept r3 (ho26 _ (cs_ne t3 t0 (by decide)))
          have r4 := zs_pt.kept r4 (ho26 _ (cs_ne t4 t0 (by decide)))
          have r5 := zs_pt.kept r5 (ho26 _ (cs_ne t5 t0 (by decide)))
          have y5 := zs_pt.kept y5 (ho26 _ (by omega))
          have y6 := zs_pt.kept y6 (ho26 _ (by omega))
          have e3 := zs_pt.kept e3 (ho26 _ (by omega))
          have g6 := zs_pt.kept g6 (ho26 _ (by omega))
          have g5 := zs_pt.kept g5 (ho26 _ (by omega))
          have hp26 : zs_pt D x (.inr (6, [.ref a1, .int (nI (sp_np S)), .ref a2, .int (nI (sp_nv S)), .ref a3, .ref a4, .int (nI (sp_nz S)), .ref a5, .int (nI 0)])) H26 := hp26
          refine zs_aload_n hE 2 dX6_write_142 rfl rfl ?_
          refine zs_aload hE 0 dX6_write_143 rfl ?_
          refine zs_callV (av := [.ref q1]) (st := []) hE (m_X6_keep D E B l x a2 q1 (sp_nv S) lv _ (.ref a1) (.int (nI (sp_np S))) (.ref a3) (.ref a4) (.int (nI (sp_nz S))) (.ref a5) (.int (nI 0)) h4 (cs_ne t0 t2 (by decide))) sV_X6_66 hp26 rfl rfl (⟨hp26, r2, g5⟩) ⟨by decide, by decide⟩ ⟨by decide, by decide⟩ (fun z w => Or.inl (by rcases w with rfl | rfl; exact cs_F.i t0 (by decide) (by decide); exact cs_F.i t2 (by decide) (by decide))) (Nat.le_of_ble_eq_true rfl) dX6_write_145 (fun v27 H27 hv27 hz27 hk27 => ?_)
          obtain ⟨rfl, kz, kx, ka⟩ := hv27
          refine zs_widen (k' := 6) (n' := 53) (by decide) (by decide) ?_
          have r1 := zs_pt.kept r1 (hk27 _ (zs_pt.lt r1) (fun w => by rcases w with w | w <;> first | exact absurd w (cs_ne t1 t0 (by decide)) | exact absurd w (cs_ne t1 t2 (by decide))))
          have r3 := zs_pt.kept r3 (hk27 _ (zs_pt.lt r3) (fun w => by rcases w with w | w <;> first | exact absurd w (cs_ne t3 t0 (by decide)) | exact absurd w (cs_ne t3 t2 (by decide))))
          have r4 := zs_pt.kept r4 (hk27 _ (zs_pt.lt r4) (fun w => by rcases w with w | w <;> first | exact absurd w (cs_ne t4 t0 (by decide)) | exact absurd w (cs_ne t4 t2 (by decide))))
          have r5 := zs_pt.kept r5 (hk27 _ (zs_pt.lt r5) (fun w => by rcases w with w | w <;> first | exact absurd w (cs_ne t5 t0 (by decide)) | exact absurd w (cs_ne t5 t2 (by decide))))
          have y5 := zs_pt.kept y5 (hk27 _ (zs_pt.lt y5) (fun w => by rcases w with w | w <;> first | exact absurd w (by omega) | exact absurd w (by omega)))
          have y6 := zs_pt.kept y6 (hk27 _ (zs_pt.lt y6) (fun w => by rcases w with w | w <;> first | exact absurd w (by omega) | exact absurd w (by omega)))
          have e3 := zs_pt.kept e3 (hk27 _ (zs_pt.lt e3) (fun w => by rcases w with w | w <;> first | exact absurd w (by omega) | exact absurd w (by omega)))
          have g6 := zs_pt.kept g6 (hk27 _ (zs_pt.lt g6) (fun w => by rcases w with w | w <;> first | exact absurd w (by omega) | exact absurd w (by omega)))
          have g5 := zs_pt.kept g5 (hk27 _ (zs_pt.lt g5) (fun w => by rcases w with w | w <;> first | exact absurd w (by omega) | exact absurd w (by omega)))
          refine zs_aload hE 0 dX6_write_148 rfl ?_
          refine zs_get hE fl_X6_116 g5 rfl dX6_write_150 ?_
          have hold : ∀ z, z < s.heap.size → z ≠ x → z ≠ a2 → H27[z]? = s.heap[z]? := fun z w w0 w2 => (hk27 z (by omega) (fun w3 => by rcases w3 with w3 | w3; exact w0 w3; exact w2 w3)).trans ((ho26 z w0).trans ((hk25 z (by omega) (by omega)).trans ((hk24 z (by omega) (fun w => w.elim)).trans ((hk23 z (by omega) (by omega)).trans ((hk22 z (by omega) (fun w => w.elim)).trans ((ho12 z (by omega)).trans (ho2 z w)))))))
          have hk : ∀ z, z < s.heap.size → κ z ≠ 1 → κ z ≠ 3 → H27[z]? = s.heap[z]? := fun z w w0 w2 => hold z w (fun e => w0 (e ▸ t0)) (fun e => w2 (e ▸ t2))
          have nk : ∀ z, z ≠ nh → κ z = 0 → z < H24.size → H27[z]? = H24[z]? := fun z w w1 w2 => (hk27 z (by omega) (fun w3 => by rcases w3 with w3 | w3; exact cs_ne w1 t0 (by decide) w3; exact cs_ne w1 t2 (by decide) w3)).trans ((ho26 z (cs_ne w1 t0 (by decide))).trans (hk25 z w2 w))
          have shk : cs_sh D E κ H27 sq [(ed, sp_ty S)] := (sh.kept (H1 := H27) (fun z w1 w2 => by
                      by_cases e9 : z = nh
                      · rw [e9, va_up_self] at w2; cases w2
                      · rw [va_up_ne _ _ e9] at w2; exact nk z e9 w2 w1)).kap (fun z _ w2 => by
                      by_cases e9 : z = nh
                      · rw [e9, va_up_self] at w2; cases w2
                      · rw [va_up_ne _ _ e9] at w2; exact w2)
          have sl7 := y7.kept (H1 := H27) (fun z w w2 => hk z w (by omega) (by omega))
          have nv9 : cs_ver D E κ H27 q1 (sp_nv S) (sp_vp (s_write S v ed bi qi) (sp_nv S)) (sp_am (s_write S v ed bi qi) (sp_nv S)) (sp_wfr (s_write S v ed bi qi) (sp_nv S)) (sp_sl (s_write S v ed bi qi) (sp_nv S)) := by
                      have e1 : sp_vp (s_write S v ed bi qi) (sp_nv S) = sp_vp S v := va_up_self _ _ _
                      have e2 : sp_am (s_write S v ed bi qi) (sp_nv S) = sp_am S v ||| 2 ^ sp_nv S := va_up_self _ _ _
                      have e3 : sp_wfr (s_write S v ed bi qi) (sp_nv S) = nI v := by
                        have e4 : sp_q2 (s_write S v ed bi qi) (sp_nv S) = 0 := va_up_self _ _ _
                        have e5 : sp_q1 (s_write S v ed bi qi) (sp_nv S) = v + 1 := va_up_self _ _ _
                        rw [sp_wfr, e4, e5, if_pos rfl, nI_pred]
                      rw [e1, e2, e3]
                      refine ⟨hκ _ (by omega), h4, by omega, Nat.lt_of_lt_of_le (ta_or vam (sp_nv S) vl) (Nat.pow_le_pow_right (by decide) (by omega)), nh, _, hκ _ (by omega), ⟨g5, g6⟩, fun k kl => ?_⟩
                      rw [sl_wr k1 k2 ql]
                      by_cases e9 : k = bi * 4 + qi
                      · rw [if_pos e9, e9, va_up_self]; exact cs_os.some shk
                      · rw [if_neg e9, va_up_ne _ _ e9, df k kl]; exact sl7 k kl
          exact zs_iretX hE hr (op_mk (by rw [o_write, ers]; simp only []; rw [ee]; simp only []; rw [pI_f (by omega), sp_n_i (by omega) ev, sp_n_i (by decide) ee, sp_n_i (by decide) eb, sp_n_i (by decide) eq]) (cs_to.k (by omega) (S' := s_write S v ed bi qi) ⟨a1, a2, a3, a4, a5, lp, va_up lv (sp_nv S) (some q1), lh, lz, tg, ⟨t0, t1, t2, t3, t4, t5, kx, r1, ka, r3, r4, r5⟩, fun k kl => absurd kl (Nat.not_lt_zero _), hP.mv2 n6 (fun q z w => hk q z (by omega) (by omega)), cs_V.add (S' := s_write S v ed bi qi) hV0 (fun z w w2 => hk z w (by omega) (by omega)) (fun _ _ w => w) rfl (fun u ul => ⟨va_up_ne _ _ (by omega), va_up_ne _ _ (by omega), by rw [sp_wfr, sp_wfr, show sp_q2 (s_write S v ed bi qi) u = sp_q2 S u from va_up_ne _ _ (by omega), show sp_q1 (s_write S v ed bi qi) u = sp_q1 S u from va_up_ne _ _ (by omega)], sl_eq (S' := s_write S v ed bi qi) (va_up_ne _ _ (by omega)) rfl rfl (va_up_ne _ _ (by omega))⟩) nv9, hG.mv (fun q z w w2 => hk q z (by omega) (by omega)) n6, hZ.mv (fun q z w => hk q z (by omega) (by omega)), fun q w => hκ q (by omega)⟩)) (by decide) (by decide) dX6_write_153
        · exact zs_throw hE hl htab th_X6_51_110_55 dX6_write_59 dX6_write_62 dX6_write_63 dX6_write_65 dX6_write_68 (by decide) (Nat.le_of_ble_eq_true rfl) (by decide) (by decide) (op_th hp 2 rfl (by rw [o_write, ers]; simp only []; rw [ee]; simp only []; rw [pI_t (by omega)])) (by decide) (by decide)
      · exact zs_throw hE hl htab th_X6_37_108_41 dX6_write_40 dX6_write_43 dX6_write_44 dX6_write_46 dX6_write_49 (by decide) (Nat.le_of_ble_eq_true rfl) (by decide) (by decide) (op_th hp 1 rfl (by rw [o_write, ers]; simp only []; rw [Classical.not_not.mp h3])) (by decide) (by decide)
    · have hsn : sp_sh S y b q = none := by cases e : sp_sh S y b q with | none => rfl | some rs => (rw [sp_sh_at ev] at e; obtain ⟨a9, e9, -⟩ := hat.2 rs e; rw [e9] at h2; cases h2)
      exact zs_throw hE hl htab th_X6_74_102_78 dX6_write_23 dX6_write_26 dX6_write_27 dX6_write_29 dX6_write_32 (by decide) (Nat.le_of_ble_eq_true rfl) (by decide) (by decide) (op_th hp 0 rfl (by rw [o_write, hsn])) (by decide) (by decide)


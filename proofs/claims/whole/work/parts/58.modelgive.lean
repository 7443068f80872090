/-! the model: give -/
theorem w_le {S : sp_S} (hP : sw_P S) (hV : sw_V S) {v : Nat} (h : v < sp_nv S) (ed : Nat) : sp_w (sp_sl S v) ed ≤ 1152 := by
  have h1 := (hV v h).1
  obtain ⟨-, b8, -, p4, -⟩ := hP.1 _ h1
  rw [w_sm b8 p4]
  have h2 := sz_le hP h1
  have := sm_le (f := fun k => sp_sp ed (sp_sv S v k)) (c := 36) (n := sp_ba S (sp_vp S v) * sp_pa S (sp_vp S v)) (fun k hk => by
    have ok := sv_ok hV h hk
    have o4 := ok.2.1
    show sp_sp ed (sp_sv S v k) ≤ 36
    have := sm_le (f := fun n => sp_rp ed ((sp_sv S v k).getD n sp_d0)) (c := 9) (n := (sp_sv S v k).length) (fun n hn => by
      have := (ok_at ok hn).2.1
      show sp_rp ed ((sp_sv S v k).getD n sp_d0) ≤ 9
      unfold sp_rp
      by_cases z : ed / 2 ^ ((sp_sv S v k).getD n sp_d0).1 % 2 = 1
      · rw [if_pos z]; omega
      · rw [if_neg z]; omega)
    have e9 : sp_sp ed (sp_sv S v k) ≤ 9 * (sp_sv S v k).length := this
    omega)
  have e9 : sm (fun k => sp_sp ed (sp_sv S v k)) (sp_ba S (sp_vp S v) * sp_pa S (sp_vp S v)) ≤ 36 * (sp_ba S (sp_vp S v) * sp_pa S (sp_vp S v)) := this
  omega
def pz_W (S : sp_S) (v e : Nat) : Nat := sp_w (sp_sl S v) (2 ^ e)
/-- the version heard last in the first n rounds, one greater -/
noncomputable def lhn (S : sp_S) (i n : Nat) : Nat := match gr (fun r => sp_hv S i r ≠ 0) n with
  | some r => sp_hv S i r
  | none => 0
theorem lhn_4 (S : sp_S) (i : Nat) : lhn S i 4 = sp_lh S i := rfl
theorem lhn_t {S : sp_S} {i n : Nat} (h : sp_hv S i n ≠ 0) : lhn S i (n + 1) = sp_hv S i n := by
  unfold lhn
  rw [gr_t (p := fun r => sp_hv S i r ≠ 0) h]
theorem lhn_f {S : sp_S} {i n : Nat} (h : sp_hv S i n = 0) : lhn S i (n + 1) = lhn S i n := by
  unfold lhn
  rw [gr_f (p := fun r => sp_hv S i r ≠ 0) (fun w => w h)]
theorem lhn_le {S : sp_S} (h : sw_H S) (i : Nat) : ∀ n, lhn S i n ≤ sp_nv S
  | 0 => Nat.zero_le _
  | n + 1 => by
    by_cases z : sp_hv S i n = 0
    · rw [lhn_f z]; exact lhn_le h i n
    · rw [lhn_t z]; exact (h i n).2.1
/-! the coins that are left go by falling rests: those with a rest of R or more have been looked at, or greater than R, and of those with R the first e0 -/
def pz_q (W : Nat → Nat) (al co R e0 e : Nat) : Prop := R + 1 ≤ co * W e % al ∨ (co * W e % al = R ∧ e < e0)
noncomputable def pz_s (W : Nat → Nat) (al co R e0 e : Nat) : Nat := co * W e / al + pI (pz_q W al co R e0 e ∧ pz_o W al co e < co - pz_b W al co 6) 1 0
noncomputable def pz_c (W : Nat → Nat) (al co R e0 : Nat) : Nat := sm (fun e => pI (pz_q W al co R e0 e) 1 0) 6
theorem pz_c0 {W : Nat → Nat} {al co e0 : Nat} (R : Nat) (h : co * W e0 % al = R) : pz_c W al co R e0 = pz_o W al co e0 := by
  refine sm_congr (fun e _ => ?_)
  show pI (pz_q W al co R e0 e) 1 0 = pI (pz_lt W al co e e0) 1 0
  have : pz_q W al co R e0 e ↔ pz_lt W al co e e0 := by
    unfold pz_q pz_lt
    omega
  rw [propext this]
theorem pz_c1 {W : Nat → Nat} {al co R e0 : Nat} (he : e0 < 6) (h : co * W e0 % al = R) : pz_c W al co R (e0 + 1) = pz_c W al co R e0 + 1 := by
  have : sm (fun e => pI (pz_q W al co R (e0 + 1) e) 1 0) 6 = sm (fun e => pI (pz_q W al co R e0 e) 1 0 + (if e = e0 then 1 else 0)) 6 := sm_congr (fun e _ => by
    by_cases z : e = e0
    · subst z
      rw [if_pos rfl, pI_t (show pz_q W al co R (e + 1) e from Or.inr ⟨h, Nat.lt_succ_self _⟩), pI_f (show ¬ pz_q W al co R e e from fun w => by unfold pz_q at w; omega)]
    · rw [if_neg z]
      have : pz_q W al co R (e0 + 1) e ↔ pz_q W al co R e0 e := by unfold pz_q; omega
      rw [propext this]; rfl)
  show sm (fun e => pI (pz_q W al co R (e0 + 1) e) 1 0) 6 = _
  rw [this, sm_add, sm_one (f := fun e => if e = e0 then 1 else 0) he (fun j _ => rfl)]
  rfl
theorem pz_c2 {W : Nat → Nat} {al co R e0 : Nat} (h : co * W e0 % al ≠ R) : pz_c W al co R (e0 + 1) = pz_c W al co R e0 := sm_congr (fun e _ => by
  have : pz_q W al co R (e0 + 1) e ↔ pz_q W al co R e0 e := by
    unfold pz_q
    by_cases z : e = e0
    · subst z; omega
    · omega
  rw [propext this])
theorem pz_q6 {W : Nat → Nat} {al co R e : Nat} (he : e < 6) : pz_q W al co R 6 e ↔ R ≤ co * W e % al := by unfold pz_q; omega
theorem pz_q0 {W : Nat → Nat} {al co R e : Nat} : pz_q W al co R 0 e ↔ R + 1 ≤ co * W e % al := by unfold pz_q; omega
/-- at the outer loop's head: the rests of RR or more have been looked at -/
noncomputable def pz_S (W : Nat → Nat) (al co RR e : Nat) : Nat := co * W e / al + pI (RR ≤ co * W e % al ∧ pz_o W al co e < co - pz_b W al co 6) 1 0
noncomputable def pz_C (W : Nat → Nat) (al co RR : Nat) : Nat := sm (fun e => pI (RR ≤ co * W e % al) 1 0) 6
theorem pz_S0 (W : Nat → Nat) (al co R e : Nat) : pz_s W al co R 0 e = pz_S W al co (R + 1) e := by
  unfold pz_s pz_S
  rw [propext (pz_q0 (W := W) (al := al) (co := co) (R := R) (e := e))]
theorem pz_S6 {W : Nat → Nat} {al co R e : Nat} (he : e < 6) : pz_s W al co R 6 e = pz_S W al co R e := by
  unfold pz_s pz_S
  rw [propext (pz_q6 (W := W) (al := al) (co := co) (R := R) he)]
theorem pz_C0 (W : Nat → Nat) (al co R : Nat) : pz_c W al co R 0 = pz_C W al co (R + 1) := sm_congr (fun e _ => by rw [propext (pz_q0 (W := W) (al := al) (co := co) (R := R) (e := e))])
theorem pz_C6 (W : Nat → Nat) (al co R : Nat) : pz_c W al co R 6 = pz_C W al co R := sm_congr (fun e he => by rw [propext (pz_q6 (W := W) (al := al) (co := co) (R := R) he)])
theorem pz_Si {W : Nat → Nat} {al : Nat} (co e : Nat) (h : 0 < al) : pz_S W al co (al + 1) e = co * W e / al := by
  unfold pz_S
  have := Nat.mod_lt (co * W e) h
  rw [pI_f (fun w => by omega)]; rfl
theorem pz_Ci {W : Nat → Nat} {al : Nat} (co : Nat) (h : 0 < al) : pz_C W al co (al + 1) = 0 := sm_zero (fun e _ => by
  have := Nat.mod_lt (co * W e) h
  rw [pI_f (by omega)])
theorem pz_Sf (W : Nat → Nat) (al co e : Nat) : pz_S W al co 0 e = pz_sh W al co e := by
  unfold pz_S pz_sh
  have : (0 ≤ co * W e % al ∧ pz_o W al co e < co - pz_b W al co 6) ↔ pz_o W al co e < co - pz_b W al co 6 := ⟨fun w => w.2, fun w => ⟨Nat.zero_le _, w⟩⟩
  rw [propext this]
theorem pz_y {W : Nat → Nat} {al co R e0 : Nat} (h : co * W e0 % al = R) (hl : pz_c W al co R e0 < co - pz_b W al co 6) : pz_s W al co R (e0 + 1) e0 = pz_s W al co R e0 e0 + 1 := by
  unfold pz_s
  rw [pI_t (show pz_q W al co R (e0 + 1) e0 ∧ pz_o W al co e0 < co - pz_b W al co 6 from ⟨Or.inr ⟨h, Nat.lt_succ_self _⟩, by rw [← pz_c0 R h]; exact hl⟩), pI_f (show ¬ (pz_q W al co R e0 e0 ∧ pz_o W al co e0 < co - pz_b W al co 6) from fun w => by have := w.1; unfold pz_q at this; omega)]
theorem pz_n1 {W : Nat → Nat} {al co R e0 e : Nat} (h : e ≠ e0) : pz_s W al co R (e0 + 1) e = pz_s W al co R e0 e := by
  unfold pz_s
  have : pz_q W al co R (e0 + 1) e ↔ pz_q W al co R e0 e := by unfold pz_q; omega
  rw [propext this]
theorem pz_n2 {W : Nat → Nat} {al co R e0 : Nat} (h : co * W e0 % al ≠ R) : pz_s W al co R (e0 + 1) e0 = pz_s W al co R e0 e0 := by
  unfold pz_s
  have : pz_q W al co R (e0 + 1) e0 ↔ pz_q W al co R e0 e0 := by unfold pz_q; omega
  rw [propext this]
theorem pz_n3 {W : Nat → Nat} {al co R e0 : Nat} (h : co * W e0 % al = R) (hl : ¬ pz_c W al co R e0 < co - pz_b W al co 6) : pz_s W al co R (e0 + 1) e0 = pz_s W al co R e0 e0 := by
  unfold pz_s
  rw [pI_f (fun w => hl (by rw [pz_c0 R h]; exact w.2)), pI_f (fun w => hl (by rw [pz_c0 R h]; exact w.2))]
theorem mi_z {S : sp_S} {sc : Nat → Nat} {ar : Nat → Nat → Int32} {f18 f19 f20 : Nat → Int32} (h : mi_ S sc ar) (h1 : ∀ z, z < sp_nz S → f18 z = ar 18 z) (h2 : ∀ z, z < sp_nz S → f19 z = ar 19 z) (h3 : ∀ t, t < 6 * sp_nz S → f20 t = ar 20 t) : mi_ S sc (va_up (va_up (va_up ar 18 f18) 19 f19) 20 f20) := by
  obtain ⟨a1, a2, a3, a4, ⟨a5, a6⟩, a7⟩ := h
  refine ⟨a1, a2, a3, a4, ⟨a5, fun z hz => ?_⟩, a7⟩
  obtain ⟨b1, b2, b3⟩ := a6 z hz
  exact ⟨(h1 z hz).trans b1, (h2 z hz).trans b2, fun e he => (h3 _ (by omega)).trans (b3 e he)⟩
theorem mi_give {S : sp_S} {sc : Nat → Nat} {ar : Nat → Nat → Int32} {v co : Nat} {g : Nat → Int32} (h : mi_ S sc ar) (h1 : ∀ e, e < 6 → g (6 * sp_nz S + e) = nI (pz_sh (pz_W S v) (sp_w (sp_sl S v) 63) co e)) (h2 : ∀ t, t < 6 * sp_nz S → g t = ar 20 t) : mi_ (s_give S v co) (va_up sc 3 (sp_nz S + 1)) (va_up (va_up (va_up ar 18 (va_up (ar 18) (sp_nz S) (nI v))) 19 (va_up (ar 19) (sp_nz S) (nI co))) 20 g) := by
  obtain ⟨a1, a2, a3, a4, ⟨a5, a6⟩, a7⟩ := h
  refine ⟨a1, a2, a3, a4, ⟨rfl, fun z hz => ?_⟩, a7⟩
  have hz : z < sp_nz S + 1 := hz
  refine ⟨up_s (fun e => (a6 z (by omega)).1), up_s (fun e => (a6 z (by omega)).2.1), fun e he => ?_⟩
  show g (6 * z + e) = nI (va_up (sp_zs S) (sp_nz S) (pz_sh (fun e => sp_w (sp_sl S v) (2 ^ e)) (sp_w (sp_sl S v) 63) co) z e)
  by_cases q : z = sp_nz S
  · rw [q, va_up_self]; exact h1 e he
  · rw [va_up_ne _ _ q, h2 _ (by omega)]; exact (a6 z (by omega)).2.2 e he

set_option maxHeartbeats 4000000 in
set_option maxRecDepth 100000 in
theorem m_X7_give (D : va_G) (E : Nat → ClassId) (B : Nat) (l : Launch) (κ : Nat → Nat) (x : Nat) (ad sc : Nat → Nat) (ar : Nat → Nat → Int32) (S : sp_S) (y z : Int32) (hM : mi_ S sc ar) (hw : sp_wf S) : zs_Ct D E B l yX7_give cX7_give 10 (some .int) ({ frames := 6, cells := 0, slots := 0, locals := 146 } : Room) [.ref x, .int y, .int z] (fun H => md_O D E κ x ad sc ar H) (md_F κ) (mq_ D E κ x ad (o_give S y z)) := by
  refine zs_ct (by decide) (Nat.le_of_ble_eq_true rfl) (fun p e s m below meth c hE hr hin hp => ?_)
  refine zs_lo (lo' := [(0, .ref x), (1, .int y), (2, .int z)]) rfl ?_
  have hO := hp
  obtain ⟨t0, hx, t5, t6, t7, t8, t9, t10, t11, t12, t13, t14, t15, t16, t17, t18, t19, t20, r5, r6, r7, r8, r9, r10, r11, r12, r13, r14, r15, r16, r17, r18, r19, r20⟩ := id hO
  obtain ⟨wN, wP, wV, wA, wH, wZ, wF⟩ := id hw
  obtain ⟨n6, n40, n12, n8, n99⟩ := id wN
  obtain ⟨⟨mp0, mP⟩, ⟨mv0, mV⟩, ⟨mt0, mT⟩, mH, ⟨mz0, mZ⟩, mE⟩ := id hM
  refine zs_iload_n hE 1 dX7_give_0 rfl rfl ?_
  refine zs_iconst (v := (nI 0)) hE dX7_give_1 (by decide) ?_
  refine zs_aload_n hE 0 dX7_give_2 rfl rfl ?_
  refine zs_get hE fl_X7_7 hx rfl dX7_give_3 ?_
  refine zs_iconst (v := (nI 1)) hE dX7_give_6 (by decide) ?_
  refine zs_isub hE dX7_give_7 ?_
  refine zs_callSR (av := [.int y, .int (nI 0), .int ((nI (sc 0)) - (nI 1))]) (st := []) hE (m_X7_in D E B l y (nI 0) (nI (sc 0) - 1)) rfl rfl sS_X7_77 (trivial) ⟨by decide, by decide⟩ ⟨by decide, by decide⟩ (Nat.le_of_ble_eq_true rfl) dX7_give_8 ?_
  refine zs_top (v' := .int (zs_b (sp_i y (sc 0) ≠ none))) (by rw [zs_bc (in_i (by omega))]) ?_
  refine zs_if_neB (tgt := 20) hE dX7_give_11 (by decide) (fun h1 => ?_) (fun h1 => ?_)
  · obtain ⟨k, ek⟩ : ∃ e, sp_i y (sp_np S) = some e := by cases z9 : sp_i y (sp_np S) with | none => (rw [mp0] at h1; exact absurd z9 h1) | some q9 => exact ⟨q9, rfl⟩
    obtain ⟨j, hj, ej⟩ := sp_rk_on k (sp_i_lt ek).1
    have epr : sp_pr S y = some j := by rw [(sp_i_lt ek).2, ← ej]; exact sp_pr_in n6 hj
    refine zs_lo (lo' := [(0, .ref x), (1, .int (nI k)), (2, .int z)]) (by rw [(sp_i_lt ek).2]) ?_
    refine zs_iload_n hE 2 dX7_give_20 rfl rfl ?_
    refine zs_iconst (v := (nI 1)) hE dX7_give_21 (by decide) ?_
    refine zs_sipush (v := (nI 9999)) hE dX7_give_22 (by decide) ?_
    refine zs_callSR (av := [.int z, .int (nI 1), .int (nI 9999)]) (st := []) hE (m_X7_in D E B l z (nI 1) (nI 9999)) rfl rfl sS_X7_77 (trivial) ⟨by decide, by decide⟩ ⟨by decide, by decide⟩ (Nat.le_of_ble_eq_true rfl) dX7_give_25 ?_
    refine zs_if_neB (tgt := 37) hE dX7_give_28 (by decide) (fun h2 => ?_) (fun h2 => ?_)
    · have hno : ¬ (z < 1 ∨ nI 9999 < z) := fun w => by rcases w with w | w; exact h2.1 w; exact h2.2 w
      obtain ⟨co, co1, co9, rfl⟩ := in_1 (by decide) h2
      refine zs_aload_n hE 0 dX7_give_37 rfl rfl ?_
      refine zs_iload_n hE 1 dX7_give_38 rfl rfl ?_
      refine zs_callVR (av := [.int (nI k)]) (st := []) (b := x) hE (m_X7_rankedOf D E B l κ x ad sc ar S k j hM hw hj ej) rfl rfl sV_X7_162 hx rfl rfl (hO) ⟨by decide, by decide⟩ ⟨by decide, by decide⟩ (Nat.le_of_ble_eq_true rfl) dX7_give_39 ?_
      refine zs_istore_n (lo' := [(3, .int (nI j)), (0, .ref x), (1, .int (nI k)), (2, .int (nI co))]) hE dX7_give_42 rfl (by decide) rfl ?_
      refine zs_iconst (v := (-1)) hE dX7_give_43 (by decide) ?_
      refine zs_istore (lo' := [(4, .int (-1)), (3, .int (nI j)), (0, .ref x), (1, .int (nI k)), (2, .int (nI co))]) hE dX7_give_44 (by decide) rfl ?_
      refine zs_iconst (v := (nI 0)) hE dX7_give_46 (by decide) ?_
      refine zs_istore (lo' := [(5, .int (nI 0)), (4, .int (-1)), (3, .int (nI j)), (0, .ref x), (1, .int (nI k)), (2, .int (nI co))]) hE dX7_give_47 (by decide) rfl ?_
      refine zs_sub (lo' := [(5, .int (nI 0)), (4, .int (-1)), (0, .ref x), (2, .int (nI co)), (3, .int (nI j))]) [0, 1, 3, 5, 2] rfl ?_
      refine zs_lo (lo' := [(5, .int (nI 0)), (4, .int (nI (lhn S j (0)) - 1)), (0, .ref x), (2, .int (nI co)), (3, .int (nI j))]) (rfl) ?_
      refine zs_sub (lo' := [(5, .int (nI 0)), (4, .int (nI (lhn S j (0)) - 1)), (0, .ref x), (2, .int (nI co)), (3, .int (nI j))]) [0, 1, 2, 3, 4] rfl ?_
      refine zs_ind1 (Hs := fun (r0 : Nat) => s.heap) (ks := fun (r0 : Nat) => 0) (ns := fun (r0 : Nat) => 0) (los := fun (r0 : Nat) => [(5, .int (nI r0)), (4, .int (nI (lhn S j (r0)) - 1)), (0, .ref x), (2, .int (nI co)), (3, .int (nI j))]) (I := fun (r0 : Nat) => r0 ≤ 4) (μ := fun (r0 : Nat) => 4 - r0) 0 (Nat.zero_le _) (fun r0 hi ih => ?_)
      try dsimp only at hi ih ⊢
      refine zs_iload hE 0 dX7_give_49 rfl ?_
      refine zs_iconst (v := (nI 4)) hE dX7_give_51 (by decide) ?_
      refine zs_icmp_geN (tgt := 92) hE (by omega) (by decide) dX7_give_52 (by decide) (fun h5 => ?_) (fun h => ?_)
      · obtain rfl : r0 = 4 := by omega
        have lhb := lhn_le wH j 4
        refine zs_iload hE 1 dX7_give_92 rfl ?_
        refine zs_iconst (v := (-1)) hE dX7_give_94 (by decide) ?_
        refine zs_icmp_ne (tgt := 104) hE dX7_give_95 (by decide) (fun h7 => ?_) (fun h7 => ?_)
        · obtain ⟨v, ev⟩ : ∃ q, sp_lh S j = q + 1 := ⟨sp_lh S j - 1, by have : sp_lh S j ≠ 0 := fun q => h7 ((nI_m1 (a := lhn S j 4) (by omega)).mpr q); omega⟩
          have lv : v < sp_nv S := by have : sp_lh S j ≤ sp_nv S := lhb; omega
          have lh0 : ¬ sp_lh S j = 0 := by omega
          refine zs_lo (lo' := [(5, .int (nI 4)), (4, .int (nI v)), (0, .ref x), (2, .int (nI co)), (3, .int (nI j))]) (by rw [lhn_4, ev, nI_m2 (by omega)]; rfl) ?_
          refine zs_aload_n hE 2 dX7_give_104 rfl rfl ?_
          refine zs_get hE fl_X7_19 hx rfl dX7_give_105 ?_
          refine zs_top (v' := .int (nI (sp_nz S))) (by rw [mz0]) ?_
          refine zs_bipush (v := (nI 12)) hE dX7_give_108 (by decide) ?_
          refine zs_icmp_neN (tgt := 119) hE (by omega) (by decide) dX7_give_110 (by decide) (fun h8 => ?_) (fun h8 => ?_)
          · have nzl : sp_nz S < 12 := by omega
            have wpos := w_pos wP wV lv
            have wle := w_le wP wV lv
            have al9 := wle 63
            have hsum : sm (pz_W S v) 6 = (sp_w (sp_sl S v) 63) := sp_w6 (wf_ed wV lv)
            obtain ⟨pzs, pz6⟩ := pz_sum (co := co) hsum wpos
            have pzm : ∀ q, q ≤ 6 → pz_b (pz_W S v) (sp_w (sp_sl S v) 63) co q ≤ co := fun q hq => by have : pz_b (pz_W S v) (sp_w (sp_sl S v) 63) co q ≤ pz_b (pz_W S v) (sp_w (sp_sl S v) 63) co 6 := sm_mono hq; omega
            have cw : ∀ q, q < 6 → co * pz_W S v q < 2 ^ 31 := fun q _ => by have := Nat.mul_le_mul co9 (wle (2 ^ q)); have e9 : co * pz_W S v q ≤ 9999 * 1152 := this; omega
            refine zs_aload_n hE 2 dX7_give_119 rfl rfl ?_
            refine zs_get hE fl_X7_68 hx rfl dX7_give_120 ?_
            refine zs_aload_n hE 2 dX7_give_123 rfl rfl ?_
            refine zs_get hE fl_X7_19 hx rfl dX7_give_124 ?_
            refine zs_top (v' := .int (nI (sp_nz S))) (by rw [mz0]) ?_
            refine zs_iload hE 1 dX7_give_127 rfl ?_
            refine zs_iast hE r18 (Or.inl (show 500 ≤ κ (ad 18) by omega)) (by omega) (by decide) dX7_give_129 (fun H1 hp1 hz1 ho1 => ?_)
            have hx := zs_pt.kept hx (ho1 _ (cs_ne t0 t18 (by decide)))
            have r5 := zs_pt.kept r5 (ho1 _ (cs_ne t5 t18 (by decide)))
            have r6 := zs_pt.kept r6 (ho1 _ (cs_ne t6 t18 (by decide)))
            have r7 := zs_pt.kept r7 (ho1 _ (cs_ne t7 t18 (by decide)))
            have r8 := zs_pt.kept r8 (ho1 _ (cs_ne t8 t18 (by decide)))
            have r9 := zs_pt.kept r9 (ho1 _ (cs_ne t9 t18 (by decide)))
            have r10 := zs_pt.kept r10 (ho1 _ (cs_ne t10 t18 (by decide)))
            have r11 := zs_pt.kept r11 (ho1 _ (cs_ne t11 t18 (by decide)))
            have r12 := zs_pt.kept r12 (ho1 _ (cs_ne t12 t18 (by decide)))
            have r13 := zs_pt.kept r13 (ho1 _ (cs_ne t13 t18 (by decide)))
            have r14 := zs_pt.kept r14 (ho1 _ (cs_ne t14 t18 (by decide)))
            have r15 := zs_pt.kept r15 (ho1 _ (cs_ne t15 t18 (by decide)))
            have r16 := zs_pt.kept r16 (ho1 _ (cs_ne t16 t18 (by decide)))
            have r17 := zs_pt.kept r17 (ho1 _ (cs_ne t17 t18 (by decide)))
            have r19 := zs_pt.kept r19 (ho1 _ (cs_ne t19 t18 (by decide)))
            have r20 := zs_pt.kept r20 (ho1 _ (cs_ne t20 t18 (by decide)))
            refine zs_aload_n hE 2 dX7_give_130 rfl rfl ?_
            refine zs_get hE fl_X7_71 hx rfl dX7_give_131 ?_
            refine zs_aload_n hE 2 dX7_give_134 rfl rfl ?_
            refine zs_get hE fl_X7_19 hx rfl dX7_give_135 ?_
            refine zs_top (v' := .int (nI (sp_nz S))) (by rw [mz0]) ?_
            refine zs_iload_n hE 3 dX7_give_138 rfl rfl ?_
            refine zs_iast hE r19 (Or.inl (show 500 ≤ κ (ad 19) by omega)) (by omega) (by decide) dX7_give_139 (fun H2 hp2 hz2 ho2 => ?_)
            have hx := zs_pt.kept hx (ho2 _ (cs_ne t0 t19 (by decide)))
            have r5 := zs_pt.kept r5 (ho2 _ (cs_ne t5 t19 (by decide)))
            have r6 := zs_pt.kept r6 (ho2 _ (cs_ne t6 t19 (by decide)))
            have r7 := zs_pt.kept r7 (ho2 _ (cs_ne t7 t19 (by decide)))
            have r8 := zs_pt.kept r8 (ho2 _ (cs_ne t8 t19 (by decide)))
            have r9 := zs_pt.kept r9 (ho2 _ (cs_ne t9 t19 (by decide)))
            have r10 := zs_pt.kept r10 (ho2 _ (cs_ne t10 t19 (by decide)))
            have r11 := zs_pt.kept r11 (ho2 _ (cs_ne t11 t19 (by decide)))
            have r12 := zs_pt.kept r12 (ho2 _ (cs_ne t12 t19 (by decide)))
            have r13 := zs_pt.kept r13 (ho2 _ (cs_ne t13 t19 (by decide)))
            have r14 := zs_pt.kept r14 (ho2 _ (cs_ne t14 t19 (by decide)))
            have r15 := zs_pt.kept r15 (ho2 _ (cs_ne t15 t19 (by decide)))
            have r16 := zs_pt.kept r16 (ho2 _ (cs_ne t16 t19 (by decide)))
            have r17 := zs_pt.kept r17 (ho2 _ (cs_ne t17 t19 (by decide)))
            have hp1 := zs_pt.kept hp1 (ho2 _ (cs_ne t18 t19 (by decide)))
            have r20 := zs_pt.kept r20 (ho2 _ (cs_ne t20 t19 (by decide)))
            have hOa : md_O D E κ x ad sc (va_up (va_up ar 18 (va_up (ar 18) (sp_nz S) (nI v))) 19 (va_up (ar 19) (sp_nz S) (nI co))) H2 := ⟨t0, hx, t5, t6, t7, t8, t9, t10, t11, t12, t13, t14, t15, t16, t17, t18, t19, t20, r5, r6, r7, r8, r9, r10, r11, r12, r13, r14, r15, r16, r17, hp1, hp2, r20⟩
            have hOa := md_up 20 hOa
            have hMg : ∀ g : Nat → Int32, (∀ t, t < 6 * sp_nz S → g t = ar 20 t) → mi_ S sc (va_up (va_up (va_up ar 18 (va_up (ar 18) (sp_nz S) (nI v))) 19 (va_up (ar 19) (sp_nz S) (nI co))) 20 g) := fun g hg => mi_z hM (fun q hq => va_up_ne _ _ (by omega)) (fun q hq => va_up_ne _ _ (by omega)) hg
            refine zs_aload_n hE 2 dX7_give_140 rfl rfl ?_
            refine zs_iload hE 1 dX7_give_141 rfl ?_
            refine zs_bipush (v := (nI 63)) hE dX7_give_143 (by decide) ?_
            refine zs_callVR (av := [.int (nI v), .int (nI 63)]) (st := []) (b := x) hE (m_X7_partsOfAll D E B l κ x ad sc (va_up (va_up (va_up ar 18 (va_up (ar 18) (sp_nz S) (nI v))) 19 (va_up (ar 19) (sp_nz S) (nI co))) 20 (ar 20)) S v 63 (hMg _ (fun _ _ => rfl)) hw lv (by decide)) rfl rfl sV_X7_165 hx rfl rfl (hOa) ⟨by decide, by decide⟩ ⟨by decide, by decide⟩ (Nat.le_of_ble_eq_true rfl) dX7_give_145 ?_
            refine zs_istore (lo' := [(5, .int (nI (sp_w (sp_sl S v) 63))), (4, .int (nI v)), (0, .ref x), (2, .int (nI co)), (3, .int (nI j))]) hE dX7_give_148 (by decide) rfl ?_
            refine zs_iload_n hE 3 dX7_give_150 rfl rfl ?_
            refine zs_istore (lo' := [(6, .int (nI co)), (5, .int (nI (sp_w (sp_sl S v) 63))), (4, .int (nI v)), (0, .ref x), (2, .int (nI co)), (3, .int (nI j))]) hE dX7_give_151 (by decide) rfl ?_
            refine zs_iconst (v := (nI 0)) hE dX7_give_153 (by decide) ?_
            refine zs_istore (lo' := [(7, .int (nI 0)), (6, .int (nI co)), (5, .int (nI (sp_w (sp_sl S v) 63))), (4, .int (nI v)), (0, .ref x), (2, .int (nI co)), (3, .int (nI j))]) hE dX7_give_154 (by decide) rfl ?_
            refine zs_sub (lo' := [(7, .int (nI 0)), (6, .int (nI co)), (0, .ref x), (2, .int (nI co)), (4, .int (nI v)), (5, .int (nI (sp_w (sp_sl S v) 63)))]) [0, 1, 4, 5, 3, 2] rfl ?_
            refine zs_lo (lo' := [(7, .int (nI 0)), (6, .int (nI (co - pz_b (pz_W S v) (sp_w (sp_sl S v) 63) co (0)))), (0, .ref x), (2, .int (nI co)), (4, .int (nI v)), (5, .int (nI (sp_w (sp_sl S v) 63)))]) (rfl) ?_
            refine zs_sub (lo' := [(7, .int (nI 0)), (6, .int (nI (co - pz_b (pz_W S v) (sp_w (sp_sl S v) 63) co (0)))), (0, .ref x), (2, .int (nI co)), (4, .int (nI v)), (5, .int (nI (sp_w (sp_sl S v) 63)))]) [0, 1, 2, 3, 4, 5] rfl ?_
            refine zs_ind3 (Hs := fun (e0 : Nat) (K : Heap) (g : Nat → Int32) => K) (ks := fun (e0 : Nat) (K : Heap) (g : Nat → Int32) => 0) (ns := fun (e0 : Nat) (K : Heap) (g : Nat → Int32) => 0) (los := fun (e0 : Nat) (K : Heap) (g : Nat → Int32) => [(7, .int (nI e0)), (6, .int (nI (co - pz_b (pz_W S v) (sp_w (sp_sl S v) 63) co (e0)))), (0, .ref x), (2, .int (nI co)), (4, .int (nI v)), (5, .int (nI (sp_w (sp_sl S v) 63)))]) (I := fun (e0 : Nat) (K : Heap) (g : Nat → Int32) => e0 ≤ 6 ∧ K.size = s.heap.size ∧ md_O D E κ x ad sc (va_up (va_up (va_up ar 18 (va_up (ar 18) (sp_nz S) (nI v))) 19 (va_up (ar 19) (sp_nz S) (nI co))) 20 g) K ∧ (∀ q, q < e0 → g (6 * sp_nz S + q) = nI (co * pz_W S v q / (sp_w (sp_sl S v) 63))) ∧ ∀ t, t < 6 * sp_nz S → g t = ar 20 t) (μ := fun (e0 : Nat) (K : Heap) (g : Nat → Int32) => 6 - e0) 0 H2 (ar 20) (⟨Nat.zero_le _, by omega, hOa, fun q hq => absurd hq (Nat.not_lt_zero _), fun t _ => rfl⟩) (fun e0 K g hi ih => ?_)
            try dsimp only at hi ih ⊢
            obtain ⟨kl, kz, kO, kf, ke⟩ := hi
            obtain ⟨-, hx, -, -, -, -, -, -, -, -, -, -, -, -, -, -, -, -, r5, r6, r7, r8, r9, r10, r11, r12, r13, r14, r15, r16, r17, r18, r19, r20⟩ := id kO
            have hx : zs_pt D x (.inr (7, [.int (nI (sc 0)), .int (nI (sc 1)), .int (nI (sc 2)), .int (nI (sc 3)), .int (nI (sc 4)), .ref (ad 5), .ref (ad 6), .ref (ad 7), .ref (ad 8), .ref (ad 9), .ref (ad 10), .ref (ad 11), .ref (ad 12), .ref (ad 13), .ref (ad 14), .ref (ad 15), .ref (ad 16), .ref (ad 17), .ref (ad 18), .ref (ad 19), .ref (ad 20)])) K := hx
            have r5 : zs_pt D (ad 5) (.inl (E 0, 6, .inl (ar 5))) K := r5
            have r6 : zs_pt D (ad 6) (.inl (E 0, 6, .inl (ar 6))) K := r6
            have r7 : zs_pt D (ad 7) (.inl (E 0, 6, .inl (ar 7))) K := r7
            have r8 : zs_pt D (ad 8) (.inl (E 1, 24, .inl (ar 8))) K := r8
            have r9 : zs_pt D (ad 9) (.inl (E 0, 40, .inl (ar 9))) K := r9
            have r10 : zs_pt D (ad 10) (.inl (E 0, 40, .inl (ar 10))) K := r10
            have r11 : zs_pt D (ad 11) (.inl (E 0, 40, .inl (ar 11))) K := r11
            have r12 : zs_pt D (ad 12) (.inl (E 0, 52480, .inl (ar 12))) K := r12
            have r13 : zs_pt D (ad 13) (.inl (E 0, 8, .inl (ar 13))) K := r13
            have r14 : zs_pt D (ad 14) (.inl (E 0, 24, .inl (ar 14))) K := r14
            have r15 : zs_pt D (ad 15) (.inl (E 0, 120, .inl (ar 15))) K := r15
            have r16 : zs_pt D (ad 16) (.inl (E 2, 120, .inl (ar 16))) K := r16
            have r17 : zs_pt D (ad 17) (.inl (E 2, 40, .inl (ar 17))) K := r17
            have r18 : zs_pt D (ad 18) (.inl (E 0, 12, .inl (va_up (ar 18) (sp_nz S) (nI v)))) K := r18
            have r19 : zs_pt D (ad 19) (.inl (E 0, 12, .inl (va_up (ar 19) (sp_nz S) (nI co)))) K := r19
            have r20 : zs_pt D (ad 20) (.inl (E 0, 72, .inl (g))) K := r20
            refine zs_iload hE 0 dX7_give_156 rfl ?_
            refine zs_bipush (v := (nI 6)) hE dX7_give_158 (by decide) ?_
            refine zs_icmp_geN (tgt := 210) hE (by omega) (by decide) dX7_give_160 (by decide) (fun h5 => ?_) (fun h => ?_)
            · obtain rfl : e0 = 6 := by omega
              refine zs_iload hE 5 dX7_give_210 rfl ?_
              refine zs_istore (lo' := [(7, .int (nI (sp_w (sp_sl S v) 63))), (6, .int (nI (co - pz_b (pz_W S v) (sp_w (sp_sl S v) 63) co (6)))), (0, .ref x), (2, .int (nI co)), (4, .int (nI v)), (5, .int (nI (sp_w (sp_sl S v) 63)))]) hE dX7_give_212 (by decide) rfl ?_
              refine zs_sub (lo' := [(7, .int (nI (sp_w (sp_sl S v) 63))), (6, .int (nI (co - pz_b (pz_W S v) (sp_w (sp_sl S v) 63) co (6)))), (0, .ref x), (2, .int (nI co)), (4, .int (nI v)), (5, .int (nI (sp_w (sp_sl S v) 63)))]) [0, 1, 2, 3, 4, 5] rfl ?_
              refine zs_lo (lo' := [(7, .int (nI (sp_w (sp_sl S v) 63 + 1) - 1)), (6, .int (nI ((co - pz_b (pz_W S v) (sp_w (sp_sl S v) 63) co 6) - pz_C (pz_W S v) (sp_w (sp_sl S v) 63) co (sp_w (sp_sl S v) 63 + 1)))), (0, .ref x), (2, .int (nI co)), (4, .int (nI v)), (5, .int (nI (sp_w (sp_sl S v) 63)))]) (by rw [pz_Ci co wpos, nI_m2 (by omega)]; rfl) ?_
              refine zs_sub (lo' := [(7, .int (nI (sp_w (sp_sl S v) 63 + 1) - 1)), (6, .int (nI ((co - pz_b (pz_W S v) (sp_w (sp_sl S v) 63) co 6) - pz_C (pz_W S v) (sp_w (sp_sl S v) 63) co (sp_w (sp_sl S v) 63 + 1)))), (0, .ref x), (2, .int (nI co)), (4, .int (nI v)), (5, .int (nI (sp_w (sp_sl S v) 63)))]) [0, 1, 2, 3, 4, 5] rfl ?_
              refine zs_ind3 (Hs := fun (RR : Nat) (K2 : Heap) (g2 : Nat → Int32) => K2) (ks := fun (RR : Nat) (K2 : Heap) (g2 : Nat → Int32) => 0) (ns := fun (RR : Nat) (K2 : Heap) (g2 : Nat → Int32) => 0) (los := fun (RR : Nat) (K2 : Heap) (g2 : Nat → Int32) => [(7, .int (nI (RR) - 1)), (6, .int (nI ((co - pz_b (pz_W S v) (sp_w (sp_sl S v) 63) co 6) - pz_C (pz_W S v) (sp_w (sp_sl S v) 63) co (RR)))), (0, .ref x), (2, .int (nI co)), (4, .int (nI v)), (5, .int (nI (sp_w (sp_sl S v) 63)))]) (I := fun (RR : Nat) (K2 : Heap) (g2 : Nat → Int32) => RR ≤ sp_w (sp_sl S v) 63 + 1 ∧ K2.size = s.heap.size ∧ md_O D E κ x ad sc (va_up (va_up (va_up ar 18 (va_up (ar 18) (sp_nz S) (nI v))) 19 (va_up (ar 19) (sp_nz S) (nI co))) 20 g2) K2 ∧ (∀ q, q < 6 → g2 (6 * sp_nz S + q) = nI (pz_S (pz_W S v) (sp_w (sp_sl S v) 63) co RR q)) ∧ ∀ t, t < 6 * sp_nz S → g2 t = ar 20 t) (μ := fun (RR : Nat) (K2 : Heap) (g2 : Nat → Int32) => RR) (sp_w (sp_sl S v) 63 + 1) K g (⟨Nat.le_refl _, kz, kO, fun q hq => by rw [kf q hq, pz_Si co q wpos], ke⟩) (fun RR K2 g2 hi ih => ?_)
              try dsimp only at hi ih ⊢
              have ih0 := ih
              obtain ⟨Rl, lz, lO, lf, le⟩ := hi
              obtain ⟨-, hx, -, -, -, -, -, -, -, -, -, -, -, -, -, -, -, -, r5, r6, r7, r8, r9, r10, r11, r12, r13, r14, r15, r16, r17, r18, r19, r20⟩ := id lO
              have hx : zs_pt D x (.inr (7, [.int (nI (sc 0)), .int (nI (sc 1)), .int (nI (sc 2)), .int (nI (sc 3)), .int (nI (sc 4)), .ref (ad 5), .ref (ad 6), .ref (ad 7), .ref (ad 8), .ref (ad 9), .ref (ad 10), .ref (ad 11), .ref (ad 12), .ref (ad 13), .ref (ad 14), .ref (ad 15), .ref (ad 16), .ref (ad 17), .ref (ad 18), .ref (ad 19), .ref (ad 20)])) K2 := hx
              have r5 : zs_pt D (ad 5) (.inl (E 0, 6, .inl (ar 5))) K2 := r5
              have r6 : zs_pt D (ad 6) (.inl (E 0, 6, .inl (ar 6))) K2 := r6
              have r7 : zs_pt D (ad 7) (.inl (E 0, 6, .inl (ar 7))) K2 := r7
              have r8 : zs_pt D (ad 8) (.inl (E 1, 24, .inl (ar 8))) K2 := r8
              have r9 : zs_pt D (ad 9) (.inl (E 0, 40, .inl (ar 9))) K2 := r9
              have r10 : zs_pt D (ad 10) (.inl (E 0, 40, .inl (ar 10))) K2 := r10
              have r11 : zs_pt D (ad 11) (.inl (E 0, 40, .inl (ar 11))) K2 := r11
              have r12 : zs_pt D (ad 12) (.inl (E 0, 52480, .inl (ar 12))) K2 := r12
              have r13 : zs_pt D (ad 13) (.inl (E 0, 8, .inl (ar 13))) K2 := r13
              have r14 : zs_pt D (ad 14) (.inl (E 0, 24, .inl (ar 14))) K2 := r14
              have r15 : zs_pt D (ad 15) (.inl (E 0, 120, .inl (ar 15))) K2 := r15
              have r16 : zs_pt D (ad 16) (.inl (E 2, 120, .inl (ar 16))) K2 := r16
              have r17 : zs_pt D (ad 17) (.inl (E 2, 40, .inl (ar 17))) K2 := r17
              have r18 : zs_pt D (ad 18) (.inl (E 0, 12, .inl (va_up (ar 18) (sp_nz S) (nI v)))) K2 := r18
              have r19 : zs_pt D (ad 19) (.inl (E 0, 12, .inl (va_up (ar 19) (sp_nz S) (nI co)))) K2 := r19
              have r20 : zs_pt D (ad 20) (.inl (E 0, 72, .inl (g2))) K2 := r20
              refine zs_iload hE 0 dX7_give_214 rfl ?_
              refine zs_if_lt (tgt := 316) hE dX7_give_216 (by decide) (fun h9 => ?_) (fun h9 => ?_)
              · obtain rfl : RR = 0 := (lt_m1 (by omega)).mp h9
                refine zs_aload_n hE 2 dX7_give_316 rfl rfl ?_
                refine zs_dup hE dX7_give_317 rfl ?_
                refine zs_get hE fl_X7_19 hx rfl dX7_give_318 ?_
                refine zs_top (v' := .int (nI (sp_nz S))) (by rw [mz0]) ?_
                refine zs_iconst (v := (nI 1)) hE dX7_give_321 (by decide) ?_
                refine zs_iaddN hE dX7_give_322 ?_
                refine zs_put (v := .int (nI (sp_nz S + 1))) hE fl_X7_19 hx (Or.inl (show 500 ≤ κ x by omega)) (rfl) (rfl) (Nat.le_of_ble_eq_true rfl) dX7_give_323 (fun H3 hp3 hz3 ho3 => ?_)
                have r5 := zs_pt.kept r5 (ho3 _ (cs_ne t5 t0 (by decide)))
                have r6 := zs_pt.kept r6 (ho3 _ (cs_ne t6 t0 (by decide)))
                have r7 := zs_pt.kept r7 (ho3 _ (cs_ne t7 t0 (by decide)))
                have r8 := zs_pt.kept r8 (ho3 _ (cs_ne t8 t0 (by decide)))
                have r9 := zs_pt.kept r9 (ho3 _ (cs_ne t9 t0 (by decide)))
                have r10 := zs_pt.kept r10 (ho3 _ (cs_ne t10 t0 (by decide)))
                have r11 := zs_pt.kept r11 (ho3 _ (cs_ne t11 t0 (by decide)))
                have r12 := zs_pt.kept r12 (ho3 _ (cs_ne t12 t0 (by decide)))
                have r13 := zs_pt.kept r13 (ho3 _ (cs_ne t13 t0 (by decide)))
                have r14 := zs_pt.kept r14 (ho3 _ (cs_ne t14 t0 (by decide)))
                have r15 := zs_pt.kept r15 (ho3 _ (cs_ne t15 t0 (by decide)))
                have r16 := zs_pt.kept r16 (ho3 _ (cs_ne t16 t0 (by decide)))
                have r17 := zs_pt.kept r17 (ho3 _ (cs_ne t17 t0 (by decide)))
                have r18 := zs_pt.kept r18 (ho3 _ (cs_ne t18 t0 (by decide)))
                have r19 := zs_pt.kept r19 (ho3 _ (cs_ne t19 t0 (by decide)))
                have r20 := zs_pt.kept r20 (ho3 _ (cs_ne t20 t0 (by decide)))
                have hp3 : zs_pt D x (.inr (7, [.int (nI (sc 0)), .int (nI (sc 1)), .int (nI (sc 2)), .int (nI (sp_nz S + 1)), .int (nI (sc 4)), .ref (ad 5), .ref (ad 6), .ref (ad 7), .ref (ad 8), .ref (ad 9), .ref (ad 10), .ref (ad 11), .ref (ad 12), .ref (ad 13), .ref (ad 14), .ref (ad 15), .ref (ad 16), .ref (ad 17), .ref (ad 18), .ref (ad 19), .ref (ad 20)])) H3 := hp3
                have lO2 : md_O D E κ x ad (va_up sc 3 (sp_nz S + 1)) (va_up (va_up (va_up ar 18 (va_up (ar 18) (sp_nz S) (nI v))) 19 (va_up (ar 19) (sp_nz S) (nI co))) 20 g2) H3 := ⟨t0, hp3, t5, t6, t7, t8, t9, t10, t11, t12, t13, t14, t15, t16, t17, t18, t19, t20, r5, r6, r7, r8, r9, r10, r11, r12, r13, r14, r15, r16, r17, r18, r19, r20⟩
                refine zs_aload_n hE 2 dX7_give_326 rfl rfl ?_
                refine zs_aload_n hE 2 dX7_give_327 rfl rfl ?_
                refine zs_get hE fl_X7_19 hp3 rfl dX7_give_328 ?_
                refine zs_iconst (v := (nI 1)) hE dX7_give_331 (by decide) ?_
                refine zs_isubN hE (by omega) dX7_give_332 ?_
                refine zs_top (v' := .int (nI (sp_nz S))) (by rw [Nat.add_sub_cancel]) ?_
                refine zs_callV (av := [.int (nI (sp_nz S))]) (st := []) hE (m_X7_tells D E B l κ x ad (va_up sc 3 (sp_nz S + 1)) (va_up (va_up (va_up ar 18 (va_up (ar 18) (sp_nz S) (nI v))) 19 (va_up (ar 19) (sp_nz S) (nI co))) 20 g2) (nI (sp_nz S))) sV_X7_93 hp3 rfl rfl (lO2) ⟨by decide, by decide⟩ ⟨by decide, by decide⟩ (fun q w9 => Or.inl w9) (Nat.le_of_ble_eq_true rfl) dX7_give_333 (fun v4 H4 hv4 hz4 hk4 => ?_)
                obtain ⟨rfl, cz, cO⟩ := hv4
                refine zs_widen (k' := 0) (n' := 0) (by decide) (by decide) ?_
                exact zs_iret hE hr (mq_mk (S' := s_give S v co) (k := 0) (by rw [o_give, epr]; simp only []; rw [pI_f hno, pI_f lh0, pI_f (by omega), ev, sp_n_nI (by omega)]; rfl) (by omega) (fun _ => rfl) cO (mi_4 (mi_give hM (fun q hq => by rw [lf q hq, pz_Sf]) le))) (by decide) (by decide) dX7_give_336
              · obtain ⟨R, rfl⟩ : ∃ t, RR = t + 1 := ⟨RR - 1, by have : RR ≠ 0 := fun q => h9 ((lt_m1 (by omega)).mpr q); omega⟩
                refine zs_iconst (v := (nI 0)) hE dX7_give_219 (by decide) ?_
                refine zs_istore (lo' := [(8, .int (nI 0)), (7, .int (nI ((R + 1)) - 1)), (6, .int (nI ((co - pz_b (pz_W S v) (sp_w (sp_sl S v) 63) co 6) - pz_C (pz_W S v) (sp_w (sp_sl S v) 63) co ((R + 1))))), (0, .ref x), (2, .int (nI co)), (4, .int (nI v)), (5, .int (nI (sp_w (sp_sl S v) 63)))]) hE dX7_give_220 (by decide) rfl ?_
                refine zs_sub (lo' := [(8, .int (nI 0)), (6, .int (nI ((co - pz_b (pz_W S v) (sp_w (sp_sl S v) 63) co 6) - pz_C (pz_W S v) (sp_w (sp_sl S v) 63) co ((R + 1))))), (0, .ref x), (2, .int (nI co)), (4, .int (nI v)), (5, .int (nI (sp_w (sp_sl S v) 63))), (7, .int (nI ((R + 1)) - 1))]) [0, 2, 3, 4, 5, 6, 1] rfl ?_
                refine zs_lo (lo' := [(8, .int (nI 0)), (6, .int (nI ((co - pz_b (pz_W S v) (sp_w (sp_sl S v) 63) co 6) - pz_c (pz_W S v) (sp_w (sp_sl S v) 63) co R (0)))), (0, .ref x), (2, .int (nI co)), (4, .int (nI v)), (5, .int (nI (sp_w (sp_sl S v) 63))), (7, .int (nI R))]) (by rw [pz_C0, nI_m2 (by omega)]; rfl) ?_
                refine zs_sub (lo' := [(8, .int (nI 0)), (6, .int (nI ((co - pz_b (pz_W S v) (sp_w (sp_sl S v) 63) co 6) - pz_c (pz_W S v) (sp_w (sp_sl S v) 63) co R (0)))), (0, .ref x), (2, .int (nI co)), (4, .int (nI v)), (5, .int (nI (sp_w (sp_sl S v) 63))), (7, .int (nI R))]) [0, 1, 2, 3, 4, 5, 6] rfl ?_
                refine zs_ind3 (Hs := fun (e1 : Nat) (K3 : Heap) (g3 : Nat → Int32) => K3) (ks := fun (e1 : Nat) (K3 : Heap) (g3 : Nat → Int32) => 0) (ns := fun (e1 : Nat) (K3 : Heap) (g3 : Nat → Int32) => 0) (los := fun (e1 : Nat) (K3 : Heap) (g3 : Nat → Int32) => [(8, .int (nI e1)), (6, .int (nI ((co - pz_b (pz_W S v) (sp_w (sp_sl S v) 63) co 6) - pz_c (pz_W S v) (sp_w (sp_sl S v) 63) co R (e1)))), (0, .ref x), (2, .int (nI co)), (4, .int (nI v)), (5, .int (nI (sp_w (sp_sl S v) 63))), (7, .int (nI R))]) (I := fun (e1 : Nat) (K3 : Heap) (g3 : Nat → Int32) => e1 ≤ 6 ∧ K3.size = s.heap.size ∧ md_O D E κ x ad sc (va_up (va_up (va_up ar 18 (va_up (ar 18) (sp_nz S) (nI v))) 19 (va_up (ar 19) (sp_nz S) (nI co))) 20 g3) K3 ∧ (∀ q, q < 6 → g3 (6 * sp_nz S + q) = nI (pz_s (pz_W S v) (sp_w (sp_sl S v) 63) co R e1 q)) ∧ ∀ t, t < 6 * sp_nz S → g3 t = ar 20 t) (μ := fun (e1 : Nat) (K3 : Heap) (g3 : Nat → Int32) => 6 - e1) 0 K2 g2 (⟨Nat.zero_le _, lz, lO, fun q hq => by rw [lf q hq, pz_S0], le⟩) (fun e1 K3 g3 hi ih => ?_)
                try dsimp only at hi ih ⊢
                obtain ⟨el, mz, mO, mf, me⟩ := hi
                obtain ⟨-, hx, -, -, -, -, -, -, -, -, -, -, -, -, -, -, -, -, r5, r6, r7, r8, r9, r10, r11, r12, r13, r14, r15, r16, r17, r18, r19, r20⟩ := id mO
                have hx : zs_pt D x (.inr (7, [.int (nI (sc 0)), .int (nI (sc 1)), .int (nI (sc 2)), .int (nI (sc 3)), .int (nI (sc 4)), .ref (ad 5), .ref (ad 6), .ref (ad 7), .ref (ad 8), .ref (ad 9), .ref (ad 10), .ref (ad 11), .ref (ad 12), .ref (ad 13), .ref (ad 14), .ref (ad 15), .ref (ad 16), .ref (ad 17), .ref (ad 18), .ref (ad 19), .ref (ad 20)])) K3 := hx
                have r5 : zs_pt D (ad 5) (.inl (E 0, 6, .inl (ar 5))) K3 := r5
                have r6 : zs_pt D (ad 6) (.inl (E 0, 6, .inl (ar 6))) K3 := r6
                have r7 : zs_pt D (ad 7) (.inl (E 0, 6, .inl (ar 7))) K3 := r7
                have r8 : zs_pt D (ad 8) (.inl (E 1, 24, .inl (ar 8))) K3 := r8
                have r9 : zs_pt D (ad 9) (.inl (E 0, 40, .inl (ar 9))) K3 := r9
                have r10 : zs_pt D (ad 10) (.inl (E 0, 40, .inl (ar 10))) K3 := r10
                have r11 : zs_pt D (ad 11) (.inl (E 0, 40, .inl (ar 11))) K3 := r11
                have r12 : zs_pt D (ad 12) (.inl (E 0, 52480, .inl (ar 12))) K3 := r12
                have r13 : zs_pt D (ad 13) (.inl (E 0, 8, .inl (ar 13))) K3 := r13
                have r14 : zs_pt D (ad 14) (.inl (E 0, 24, .inl (ar 14))) K3 := r14
                have r15 : zs_pt D (ad 15) (.inl (E 0, 120, .inl (ar 15))) K3 := r15
                have r16 : zs_pt D (ad 16) (.inl (E 2, 120, .inl (ar 16))) K3 := r16
                have r17 : zs_pt D (ad 17) (.inl (E 2, 40, .inl (ar 17))) K3 := r17
                have r18 : zs_pt D (ad 18) (.inl (E 0, 12, .inl (va_up (ar 18) (sp_nz S) (nI v)))) K3 := r18
                have r19 : zs_pt D (ad 19) (.inl (E 0, 12, .inl (va_up (ar 19) (sp_nz S) (nI co)))) K3 := r19
                have r20 : zs_pt D (ad 20) (.inl (E 0, 72, .inl (g3))) K3 := r20
                refine zs_iload hE 0 dX7_give_222 rfl ?_
                refine zs_bipush (v := (nI 6)) hE dX7_give_224 (by decide) ?_
                refine zs_icmp_geN (tgt := 310) hE (by omega) (by decide) dX7_give_226 (by decide) (fun h5 => ?_) (fun h3 => ?_)
                · obtain rfl : e1 = 6 := by omega
                  refine zs_lo (lo' := [(8, .int (nI 6)), (6, .int (nI ((co - pz_b (pz_W S v) (sp_w (sp_sl S v) 63) co 6) - pz_c (pz_W S v) (sp_w (sp_sl S v) 63) co R (6)))), (0, .ref x), (2, .int (nI co)), (4, .int (nI v)), (5, .int (nI (sp_w (sp_sl S v) 63))), (7, .int (nI R))]) (rfl) ?_
                  refine zs_iinc (v := ((nI R) + (-1))) (lo' := [(7, .int ((nI R) + (-1))), (8, .int (nI 6)), (6, .int (nI ((co - pz_b (pz_W S v) (sp_w (sp_sl S v) 63) co 6) - pz_c (pz_W S v) (sp_w (sp_sl S v) 63) co R (6)))), (0, .ref x), (2, .int (nI co)), (4, .int (nI v)), (5, .int (nI (sp_w (sp_sl S v) 63)))]) hE 6 dX7_give_310 rfl (by first | rfl | decide) (by decide) rfl ?_
                  refine zs_goto (tgt := 214) hE dX7_give_313 (by decide) ?_
                  refine zs_sub (lo' := [(7, .int ((nI R) + (-1))), (6, .int (nI ((co - pz_b (pz_W S v) (sp_w (sp_sl S v) 63) co 6) - pz_c (pz_W S v) (sp_w (sp_sl S v) 63) co R (6)))), (0, .ref x), (2, .int (nI co)), (4, .int (nI v)), (5, .int (nI (sp_w (sp_sl S v) 63)))]) [0, 2, 3, 4, 5, 6] rfl ?_
                  refine zs_lo (lo' := [(7, .int (nI (R) - 1)), (6, .int (nI ((co - pz_b (pz_W S v) (sp_w (sp_sl S v) 63) co 6) - pz_C (pz_W S v) (sp_w (sp_sl S v) 63) co (R)))), (0, .ref x), (2, .int (nI co)), (4, .int (nI v)), (5, .int (nI (sp_w (sp_sl S v) 63)))]) (by rw [nI_dn, pz_C6]) ?_
                  exact ih0 R K3 g3 ⟨by omega, mz, mO, fun q hq => by rw [mf q hq, pz_S6 hq], me⟩ (by omega)
                · have he6 := h3
                  have cw0 := cw e1 h3
                  have bd1 : co * pz_W S v e1 / (sp_w (sp_sl S v) 63) ≤ co * pz_W S v e1 := Nat.div_le_self _ _
                  have bd2 : pz_s (pz_W S v) (sp_w (sp_sl S v) 63) co R e1 e1 ≤ co * pz_W S v e1 / (sp_w (sp_sl S v) 63) + 1 := Nat.add_le_add_left (pI_le1 _) _
                  refine zs_iload hE 1 dX7_give_229 rfl ?_
                  refine zs_if_leN (tgt := 258) hE (by omega) dX7_give_231 (by decide) (fun h14 => ?_) (fun h14 => ?_)
                  · have hl0 : ¬ pz_c (pz_W S v) (sp_w (sp_sl S v) 63) co R e1 < co - pz_b (pz_W S v) (sp_w (sp_sl S v) 63) co 6 := by omega
                    have hcm : pz_c (pz_W S v) (sp_w (sp_sl S v) 63) co R e1 ≤ pz_c (pz_W S v) (sp_w (sp_sl S v) 63) co R (e1 + 1) := by by_cases q : co * pz_W S v e1 % (sp_w (sp_sl S v) 63) = R; (rw [pz_c1 h3 q]; omega); (rw [pz_c2 q]; exact Nat.le_refl _)
                    have hse : pz_s (pz_W S v) (sp_w (sp_sl S v) 63) co R (e1 + 1) e1 = pz_s (pz_W S v) (sp_w (sp_sl S v) 63) co R e1 e1 := by by_cases q : co * pz_W S v e1 % (sp_w (sp_sl S v) 63) = R; exact pz_n3 q hl0; exact pz_n2 q
                    refine zs_iconst (v := (nI 0)) hE dX7_give_258 (by decide) ?_
                    refine zs_istore (lo' := [(9, .int (nI 0)), (8, .int (nI e1)), (6, .int (nI ((co - pz_b (pz_W S v) (sp_w (sp_sl S v) 63) co 6) - pz_c (pz_W S v) (sp_w (sp_sl S v) 63) co R (e1)))), (0, .ref x), (2, .int (nI co)), (4, .int (nI v)), (5, .int (nI (sp_w (sp_sl S v) 63))), (7, .int (nI R))]) hE dX7_give_259 (by decide) rfl ?_
                    refine zs_aload_n hE 3 dX7_give_261 rfl rfl ?_
                    refine zs_get hE fl_X7_74 hx rfl dX7_give_262 ?_
                    refine zs_bipush (v := (nI 6)) hE dX7_give_265 (by decide) ?_
                    refine zs_aload_n hE 3 dX7_give_267 rfl rfl ?_
                    refine zs_get hE fl_X7_19 hx rfl dX7_give_268 ?_
                    refine zs_top (v' := .int (nI (sp_nz S))) (by rw [mz0]) ?_
                    refine zs_imulN hE dX7_give_271 ?_
                    refine zs_iload hE 1 dX7_give_272 rfl ?_
                    refine zs_iaddN hE dX7_give_274 ?_
                    refine zs_dup2 hE dX7_give_275 rfl rfl ?_
                    refine zs_iald hE r20 (by omega) (by decide) dX7_give_276 ?_
                    refine zs_top (v' := .int (nI (pz_s (pz_W S v) (sp_w (sp_sl S v) 63) co R e1 e1))) (by rw [mf e1 h3]) ?_
                    refine zs_iload hE 0 dX7_give_277 rfl ?_
                    refine zs_if_eqN (tgt := 286) hE (by decide) dX7_give_279 (by decide) (fun h30 => ?_) (fun h30 => ?_)
                    · refine zs_iconst (v := (nI 0)) hE dX7_give_286 (by decide) ?_
                      refine zs_iaddN hE dX7_give_287 ?_
                      refine zs_iast hE r20 (Or.inl (show 500 ≤ κ (ad 20) by omega)) (by omega) (by decide) dX7_give_288 (fun H5 hp5 hz5 ho5 => ?_)
                      have hx := zs_pt.kept hx (ho5 _ (cs_ne t0 t20 (by decide)))
                      have r5 := zs_pt.kept r5 (ho5 _ (cs_ne t5 t20 (by decide)))
                      have r6 := zs_pt.kept r6 (ho5 _ (cs_ne t6 t20 (by decide)))
                      have r7 := zs_pt.kept r7 (ho5 _ (cs_ne t7 t20 (by decide)))
                      have r8 := zs_pt.kept r8 (ho5 _ (cs_ne t8 t20 (by decide)))
                      have r9 := zs_pt.kept r9 (ho5 _ (cs_ne t9 t20 (by decide)))
                      have r10 := zs_pt.kept r10 (ho5 _ (cs_ne t10 t20 (by decide)))
                      have r11 := zs_pt.kept r11 (ho5 _ (cs_ne t11 t20 (by decide)))
                      have r12 := zs_pt.kept r12 (ho5 _ (cs_ne t12 t20 (by decide)))
                      have r13 := zs_pt.kept r13 (ho5 _ (cs_ne t13 t20 (by decide)))
                      have r14 := zs_pt.kept r14 (ho5 _ (cs_ne t14 t20 (by decide)))
                      have r15 := zs_pt.kept r15 (ho5 _ (cs_ne t15 t20 (by decide)))
                      have r16 := zs_pt.kept r16 (ho5 _ (cs_ne t16 t20 (by decide)))
                      have r17 := zs_pt.kept r17 (ho5 _ (cs_ne t17 t20 (by decide)))
                      have r18 := zs_pt.kept r18 (ho5 _ (cs_ne t18 t20 (by decide)))
                      have r19 := zs_pt.kept r19 (ho5 _ (cs_ne t19 t20 (by decide)))
                      have mO2 : md_O D E κ x ad sc (va_up (va_up (va_up ar 18 (va_up (ar 18) (sp_nz S) (nI v))) 19 (va_up (ar 19) (sp_nz S) (nI co))) 20 (va_up g3 (6 * sp_nz S + e1) (nI (pz_s (pz_W S v) (sp_w (sp_sl S v) 63) co R e1 e1 + 0)))) H5 := ⟨t0, hx, t5, t6, t7, t8, t9, t10, t11, t12, t13, t14, t15, t16, t17, t18, t19, t20, r5, r6, r7, r8, r9, r10, r11, r12, r13, r14, r15, r16, r17, r18, r19, hp5⟩
                      refine zs_iload hE 2 dX7_give_289 rfl ?_
                      refine zs_iload hE 0 dX7_give_291 rfl ?_
                      refine zs_if_eqN (tgt := 300) hE (by decide) dX7_give_293 (by decide) (fun h31 => ?_) (fun h31 => ?_)
                      · refine zs_iconst (v := (nI 0)) hE dX7_give_300 (by decide) ?_
                        refine zs_isubN hE (by omega) dX7_give_301 ?_
                        refine zs_istore (lo' := [(6, .int (nI (((co - pz_b (pz_W S v) (sp_w (sp_sl S v) 63) co 6) - pz_c (pz_W S v) (sp_w (sp_sl S v) 63) co R (e1)) - 0))), (9, .int (nI 0)), (8, .int (nI e1)), (0, .ref x), (2, .int (nI co)), (4, .int (nI v)), (5, .int (nI (sp_w (sp_sl S v) 63))), (7, .int (nI R))]) hE dX7_give_302 (by decide) rfl ?_
                        refine zs_iincN (lo' := [(8, .int (nI (e1 + 1))), (6, .int (nI (((co - pz_b (pz_W S v) (sp_w (sp_sl S v) 63) co 6) - pz_c (pz_W S v) (sp_w (sp_sl S v) 63) co R (e1)) - 0))), (9, .int (nI 0)), (0, .ref x), (2, .int (nI co)), (4, .int (nI v)), (5, .int (nI (sp_w (sp_sl S v) 63))), (7, .int (nI R))]) hE 2 dX7_give_304 rfl (by decide) rfl ?_
                        refine zs_goto (tgt := 222) hE dX7_give_307 (by decide) ?_
                        refine zs_sub (lo' := [(8, .int (nI (e1 + 1))), (6, .int (nI (((co - pz_b (pz_W S v) (sp_w (sp_sl S v) 63) co 6) - pz_c (pz_W S v) (sp_w (sp_sl S v) 63) co R (e1)) - 0))), (0, .ref x), (2, .int (nI co)), (4, .int (nI v)), (5, .int (nI (sp_w (sp_sl S v) 63))), (7, .int (nI R))]) [0, 1, 3, 4, 5, 6, 7] rfl ?_
                        refine zs_lo (lo' := [(8, .int (nI (e1 + 1))), (6, .int (nI ((co - pz_b (pz_W S v) (sp_w (sp_sl S v) 63) co 6) - pz_c (pz_W S v) (sp_w (sp_sl S v) 63) co R (e1 + 1)))), (0, .ref x), (2, .int (nI co)), (4, .int (nI v)), (5, .int (nI (sp_w (sp_sl S v) 63))), (7, .int (nI R))]) (by rw [show (co - pz_b (pz_W S v) (sp_w (sp_sl S v) 63) co 6) - pz_c (pz_W S v) (sp_w (sp_sl S v) 63) co R (e1 + 1) = (co - pz_b (pz_W S v) (sp_w (sp_sl S v) 63) co 6) - pz_c (pz_W S v) (sp_w (sp_sl S v) 63) co R e1 - 0 by omega]) ?_
                        refine zs_sub (lo' := [(8, .int (nI (e1 + 1))), (6, .int (nI ((co - pz_b (pz_W S v) (sp_w (sp_sl S v) 63) co 6) - pz_c (pz_W S v) (sp_w (sp_sl S v) 63) co R (e1 + 1)))), (0, .ref x), (2, .int (nI co)), (4, .int (nI v)), (5, .int (nI (sp_w (sp_sl S v) 63))), (7, .int (nI R))]) [0, 1, 2, 3, 4, 5, 6] rfl ?_
                        refine ih (e1 + 1) H5 (va_up g3 (6 * sp_nz S + e1) (nI (pz_s (pz_W S v) (sp_w (sp_sl S v) 63) co R e1 e1 + 0))) (⟨by omega, by omega, mO2, fun q hq => ?_, fun t ht => ?_⟩) (by omega)
                        · by_cases e9 : q = e1
                          · subst e9; rw [va_up_self, hse]; rfl
                          · rw [va_up_ne _ _ (by omega), pz_n1 e9]; exact mf q hq
                        · rw [va_up_ne _ _ (by omega)]; exact me t ht
                      · exact absurd h31 (by decide)
                    · exact absurd h30 (by decide)
                  · refine zs_iload_n hE 3 dX7_give_234 rfl rfl ?_
                    refine zs_aload_n hE 2 dX7_give_235 rfl rfl ?_
                    refine zs_iload hE 4 dX7_give_236 rfl ?_
                    refine zs_iconst (v := (nI 1)) hE dX7_give_238 (by decide) ?_
                    refine zs_iload hE 0 dX7_give_239 rfl ?_
                    refine zs_ishl hE dX7_give_241 ?_
                    refine zs_top (v' := .int (nI (2 ^ e1))) (by rw [sp_bit6 e1 h3]) ?_
                    refine zs_callVR (av := [.int (nI v), .int (nI (2 ^ e1))]) (st := [.int (nI co)]) (b := x) hE (m_X7_partsOfAll D E B l κ x ad sc (va_up (va_up (va_up ar 18 (va_up (ar 18) (sp_nz S) (nI v))) 19 (va_up (ar 19) (sp_nz S) (nI co))) 20 g3) S v (2 ^ e1) (hMg g3 me) hw lv (by have := Nat.pow_lt_pow_right (a := 2) (by decide) he6; exact this)) rfl rfl sV_X7_165 hx rfl rfl (mO) ⟨by decide, by decide⟩ ⟨by decide, by decide⟩ (Nat.le_of_ble_eq_true rfl) dX7_give_242 ?_
                    refine zs_top (v' := .int (nI (pz_W S v e1))) (rfl) ?_
                    refine zs_imulN hE dX7_give_245 ?_
                    refine zs_iload hE 5 dX7_give_246 rfl ?_
                    refine zs_irem hE dX7_give_248 (fun w9 => nI_ne0 (n := sp_w (sp_sl S v) 63) wpos (by omega) w9) ?_
                    refine zs_top (v' := .int (nI (co * pz_W S v e1 % (sp_w (sp_sl S v) 63)))) (by rw [pk_rem cw0 wpos (by omega)]) ?_
                    have rb := Nat.mod_lt (co * pz_W S v e1) wpos
                    refine zs_iload hE 6 dX7_give_249 rfl ?_
                    refine zs_icmp_neN (tgt := 258) hE (by omega) (by omega) dX7_give_251 (by decide) (fun h15 => ?_) (fun h15 => ?_)
                    · refine zs_iconst (v := (nI 0)) hE dX7_give_258 (by decide) ?_
                      refine zs_istore (lo' := [(9, .int (nI 0)), (8, .int (nI e1)), (6, .int (nI ((co - pz_b (pz_W S v) (sp_w (sp_sl S v) 63) co 6) - pz_c (pz_W S v) (sp_w (sp_sl S v) 63) co R (e1)))), (0, .ref x), (2, .int (nI co)), (4, .int (nI v)), (5, .int (nI (sp_w (sp_sl S v) 63))), (7, .int (nI R))]) hE dX7_give_259 (by decide) rfl ?_
                      refine zs_aload_n hE 3 dX7_give_261 rfl rfl ?_
                      refine zs_get hE fl_X7_74 hx rfl dX7_give_262 ?_
                      refine zs_bipush (v := (nI 6)) hE dX7_give_265 (by decide) ?_
                      refine zs_aload_n hE 3 dX7_give_267 rfl rfl ?_
                      refine zs_get hE fl_X7_19 hx rfl dX7_give_268 ?_
                      refine zs_top (v' := .int (nI (sp_nz S))) (by rw [mz0]) ?_
                      refine zs_imulN hE dX7_give_271 ?_
                      refine zs_iload hE 1 dX7_give_272 rfl ?_
                      refine zs_iaddN hE dX7_give_274 ?_
                      refine zs_dup2 hE dX7_give_275 rfl rfl ?_
                      refine zs_iald hE r20 (by omega) (by decide) dX7_give_276 ?_
                      refine zs_top (v' := .int (nI (pz_s (pz_W S v) (sp_w (sp_sl S v) 63) co R e1 e1))) (by rw [mf e1 h3]) ?_
                      refine zs_iload hE 0 dX7_give_277 rfl ?_
                      refine zs_if_eqN (tgt := 286) hE (by decide) dX7_give_279 (by decide) (fun h30 => ?_) (fun h30 => ?_)
                      · refine zs_iconst (v := (nI 0)) hE dX7_give_286 (by decide) ?_
                        refine zs_iaddN hE dX7_give_287 ?_
                        refine zs_iast hE r20 (Or.inl (show 500 ≤ κ (ad 20) by omega)) (by omega) (by decide) dX7_give_288 (fun H6 hp6 hz6 ho6 => ?_)
                        have hx := zs_pt.kept hx (ho6 _ (cs_ne t0 t20 (by decide)))
                        have r5 := zs_pt.kept r5 (ho6 _ (cs_ne t5 t20 (by decide)))
                        have r6 := zs_pt.kept r6 (ho6 _ (cs_ne t6 t20 (by decide)))
                        have r7 := zs_pt.kept r7 (ho6 _ (cs_ne t7 t20 (by decide)))
                        have r8 := zs_pt.kept r8 (ho6 _ (cs_ne t8 t20 (by decide)))
                        have r9 := zs_pt.kept r9 (ho6 _ (cs_ne t9 t20 (by decide)))
                        have r10 := zs_pt.kept r10 (ho6 _ (cs_ne t10 t20 (by decide)))
                        have r11 := zs_pt.kept r11 (ho6 _ (cs_ne t11 t20 (by decide)))
                        have r12 := zs_pt.kept r12 (ho6 _ (cs_ne t12 t20 (by decide)))
                        have r13 := zs_pt.kept r13 (ho6 _ (cs_ne t13 t20 (by decide)))
                        have r14 := zs_pt.kept r14 (ho6 _ (cs_ne t14 t20 (by decide)))
                        have r15 := zs_pt.kept r15 (ho6 _ (cs_ne t15 t20 (by decide)))
                        have r16 := zs_pt.kept r16 (ho6 _ (cs_ne t16 t20 (by decide)))
                        have r17 := zs_pt.kept r17 (ho6 _ (cs_ne t17 t20 (by decide)))
                        have r18 := zs_pt.kept r18 (ho6 _ (cs_ne t18 t20 (by decide)))
                        have r19 := zs_pt.kept r19 (ho6 _ (cs_ne t19 t20 (by decide)))
                        have mO2 : md_O D E κ x ad sc (va_up (va_up (va_up ar 18 (va_up (ar 18) (sp_nz S) (nI v))) 19 (va_up (ar 19) (sp_nz S) (nI co))) 20 (va_up g3 (6 * sp_nz S + e1) (nI (pz_s (pz_W S v) (sp_w (sp_sl S v) 63) co R e1 e1 + 0)))) H6 := ⟨t0, hx, t5, t6, t7, t8, t9, t10, t11, t12, t13, t14, t15, t16, t17, t18, t19, t20, r5, r6, r7, r8, r9, r10, r11, r12, r13, r14, r15, r16, r17, r18, r19, hp6⟩
                        refine zs_iload hE 2 dX7_give_289 rfl ?_
                        refine zs_iload hE 0 dX7_give_291 rfl ?_
                        refine zs_if_eqN (tgt := 300) hE (by decide) dX7_give_293 (by decide) (fun h31 => ?_) (fun h31 => ?_)
                        · refine zs_iconst (v := (nI 0)) hE dX7_give_300 (by decide) ?_
                          refine zs_isubN hE (by omega) dX7_give_301 ?_
                          refine zs_istore (lo' := [(6, .int (nI (((co - pz_b (pz_W S v) (sp_w (sp_sl S v) 63) co 6) - pz_c (pz_W S v) (sp_w (sp_sl S v) 63) co R (e1)) - 0))), (9, .int (nI 0)), (8, .int (nI e1)), (0, .ref x), (2, .int (nI co)), (4, .int (nI v)), (5, .int (nI (sp_w (sp_sl S v) 63))), (7, .int (nI R))]) hE dX7_give_302 (by decide) rfl ?_
                          refine zs_iincN (lo' := [(8, .int (nI (e1 + 1))), (6, .int (nI (((co - pz_b (pz_W S v) (sp_w (sp_sl S v) 63) co 6) - pz_c (pz_W S v) (sp_w (sp_sl S v) 63) co R (e1)) - 0))), (9, .int (nI 0)), (0, .ref x), (2, .int (nI co)), (4, .int (nI v)), (5, .int (nI (sp_w (sp_sl S v) 63))), (7, .int (nI R))]) hE 2 dX7_give_304 rfl (by decide) rfl ?_
                          refine zs_goto (tgt := 222) hE dX7_give_307 (by decide) ?_
                          refine zs_sub (lo' := [(8, .int (nI (e1 + 1))), (6, .int (nI (((co - pz_b (pz_W S v) (sp_w (sp_sl S v) 63) co 6) - pz_c (pz_W S v) (sp_w (sp_sl S v) 63) co R (e1)) - 0))), (0, .ref x), (2, .int (nI co)), (4, .int (nI v)), (5, .int (nI (sp_w (sp_sl S v) 63))), (7, .int (nI R))]) [0, 1, 3, 4, 5, 6, 7] rfl ?_
                          refine zs_lo (lo' := [(8, .int (nI (e1 + 1))), (6, .int (nI ((co - pz_b (pz_W S v) (sp_w (sp_sl S v) 63) co 6) - pz_c (pz_W S v) (sp_w (sp_sl S v) 63) co R (e1 + 1)))), (0, .ref x), (2, .int (nI co)), (4, .int (nI v)), (5, .int (nI (sp_w (sp_sl S v) 63))), (7, .int (nI R))]) (by rw [pz_c2 h15]; rfl) ?_
                          refine zs_sub (lo' := [(8, .int (nI (e1 + 1))), (6, .int (nI ((co - pz_b (pz_W S v) (sp_w (sp_sl S v) 63) co 6) - pz_c (pz_W S v) (sp_w (sp_sl S v) 63) co R (e1 + 1)))), (0, .ref x), (2, .int (nI co)), (4, .int (nI v)), (5, .int (nI (sp_w (sp_sl S v) 63))), (7, .int (nI R))]) [0, 1, 2, 3, 4, 5, 6] rfl ?_
                          refine ih (e1 + 1) H6 (va_up g3 (6 * sp_nz S + e1) (nI (pz_s (pz_W S v) (sp_w (sp_sl S v) 63) co R e1 e1 + 0))) (⟨by omega, by omega, mO2, fun q hq => ?_, fun t ht => ?_⟩) (by omega)
                          · by_cases e9 : q = e1
                            · subst e9; rw [va_up_self, pz_n2 h15]; rfl
                            · rw [va_up_ne _ _ (by omega), pz_n1 e9]; exact mf q hq
                          · rw [va_up_ne _ _ (by omega)]; exact me t ht
                        · exact absurd h31 (by decide)
                      · exact absurd h30 (by decide)
                    · refine zs_iconst (v := (nI 1)) hE dX7_give_254 (by decide) ?_
                      refine zs_goto (tgt := 259) hE dX7_give_255 (by decide) ?_
                      refine zs_istore (lo' := [(9, .int (nI 1)), (8, .int (nI e1)), (6, .int (nI ((co - pz_b (pz_W S v) (sp_w (sp_sl S v) 63) co 6) - pz_c (pz_W S v) (sp_w (sp_sl S v) 63) co R (e1)))), (0, .ref x), (2, .int (nI co)), (4, .int (nI v)), (5, .int (nI (sp_w (sp_sl S v) 63))), (7, .int (nI R))]) hE dX7_give_259 (by decide) rfl ?_
                      refine zs_aload_n hE 3 dX7_give_261 rfl rfl ?_
                      refine zs_get hE fl_X7_74 hx rfl dX7_give_262 ?_
                      refine zs_bipush (v := (nI 6)) hE dX7_give_265 (by decide) ?_
                      refine zs_aload_n hE 3 dX7_give_267 rfl rfl ?_
                      refine zs_get hE fl_X7_19 hx rfl dX7_give_268 ?_
                      refine zs_top (v' := .int (nI (sp_nz S))) (by rw [mz0]) ?_
                      refine zs_imulN hE dX7_give_271 ?_
                      refine zs_iload hE 1 dX7_give_272 rfl ?_
                      refine zs_iaddN hE dX7_give_274 ?_
                      refine zs_dup2 hE dX7_give_275 rfl rfl ?_
                      refine zs_iald hE r20 (by omega) (by decide) dX7_give_276 ?_
                      refine zs_top (v' := .int (nI (pz_s (pz_W S v) (sp_w (sp_sl S v) 63) co R e1 e1))) (by rw [mf e1 h3]) ?_
                      refine zs_iload hE 0 dX7_give_277 rfl ?_
                      refine zs_if_eqN (tgt := 286) hE (by decide) dX7_give_279 (by decide) (fun h30 => ?_) (fun h30 => ?_)
                      · exact absurd h30 (by decide)
                      · refine zs_iconst (v := (nI 1)) hE dX7_give_282 (by decide) ?_
                        refine zs_goto (tgt := 287) hE dX7_give_283 (by decide) ?_
                        refine zs_iaddN hE dX7_give_287 ?_
                        refine zs_iast hE r20 (Or.inl (show 500 ≤ κ (ad 20) by omega)) (by omega) (by decide) dX7_give_288 (fun H7 hp7 hz7 ho7 => ?_)
                        have hx := zs_pt.kept hx (ho7 _ (cs_ne t0 t20 (by decide)))
                        have r5 := zs_pt.kept r5 (ho7 _ (cs_ne t5 t20 (by decide)))
                        have r6 := zs_pt.kept r6 (ho7 _ (cs_ne t6 t20 (by decide)))
                        have r7 := zs_pt.kept r7 (ho7 _ (cs_ne t7 t20 (by decide)))
                        have r8 := zs_pt.kept r8 (ho7 _ (cs_ne t8 t20 (by decide)))
                        have r9 := zs_pt.kept r9 (ho7 _ (cs_ne t9 t20 (by decide)))
                        have r10 := zs_pt.kept r10 (ho7 _ (cs_ne t10 t20 (by decide)))
                        have r11 := zs_pt.kept r11 (ho7 _ (cs_ne t11 t20 (by decide)))
                        have r12 := zs_pt.kept r12 (ho7 _ (cs_ne t12 t20 (by decide)))
                        have r13 := zs_pt.kept r13 (ho7 _ (cs_ne t13 t20 (by decide)))
                        have r14 := zs_pt.kept r14 (ho7 _ (cs_ne t14 t20 (by decide)))
                        have r15 := zs_pt.kept r15 (ho7 _ (cs_ne t15 t20 (by decide)))
                        have r16 := zs_pt.kept r16 (ho7 _ (cs_ne t16 t20 (by decide)))
                        have r17 := zs_pt.kept r17 (ho7 _ (cs_ne t17 t20 (by decide)))
                        have r18 := zs_pt.kept r18 (ho7 _ (cs_ne t18 t20 (by decide)))
                        have r19 := zs_pt.kept r19 (ho7 _ (cs_ne t19 t20 (by decide)))
                        have mO2 : md_O D E κ x ad sc (va_up (va_up (va_up ar 18 (va_up (ar 18) (sp_nz S) (nI v))) 19 (va_up (ar 19) (sp_nz S) (nI co))) 20 (va_up g3 (6 * sp_nz S + e1) (nI (pz_s (pz_W S v) (sp_w (sp_sl S v) 63) co R e1 e1 + 1)))) H7 := ⟨t0, hx, t5, t6, t7, t8, t9, t10, t11, t12, t13, t14, t15, t16, t17, t18, t19, t20, r5, r6, r7, r8, r9, r10, r11, r12, r13, r14, r15, r16, r17, r18, r19, hp7⟩
                        refine zs_iload hE 2 dX7_give_289 rfl ?_
                        refine zs_iload hE 0 dX7_give_291 rfl ?_
                        refine zs_if_eqN (tgt := 300) hE (by decide) dX7_give_293 (by decide) (fun h31 => ?_) (fun h31 => ?_)
                        · exact absurd h31 (by decide)
                        · refine zs_iconst (v := (nI 1)) hE dX7_give_296 (by decide) ?_
                          refine zs_goto (tgt := 301) hE dX7_give_297 (by decide) ?_
                          refine zs_isubN hE (by omega) dX7_give_301 ?_
                          refine zs_istore (lo' := [(6, .int (nI (((co - pz_b (pz_W S v) (sp_w (sp_sl S v) 63) co 6) - pz_c (pz_W S v) (sp_w (sp_sl S v) 63) co R (e1)) - 1))), (9, .int (nI 1)), (8, .int (nI e1)), (0, .ref x), (2, .int (nI co)), (4, .int (nI v)), (5, .int (nI (sp_w (sp_sl S v) 63))), (7, .int (nI R))]) hE dX7_give_302 (by decide) rfl ?_
                          refine zs_iincN (lo' := [(8, .int (nI (e1 + 1))), (6, .int (nI (((co - pz_b (pz_W S v) (sp_w (sp_sl S v) 63) co 6) - pz_c (pz_W S v) (sp_w (sp_sl S v) 63) co R (e1)) - 1))), (9, .int (nI 1)), (0, .ref x), (2, .int (nI co)), (4, .int (nI v)), (5, .int (nI (sp_w (sp_sl S v) 63))), (7, .int (nI R))]) hE 2 dX7_give_304 rfl (by decide) rfl ?_
                          refine zs_goto (tgt := 222) hE dX7_give_307 (by decide) ?_
                          refine zs_sub (lo' := [(8, .int (nI (e1 + 1))), (6, .int (nI (((co - pz_b (pz_W S v) (sp_w (sp_sl S v) 63) co 6) - pz_c (pz_W S v) (sp_w (sp_sl S v) 63) co R (e1)) - 1))), (0, .ref x), (2, .int (nI co)), (4, .int (nI v)), (5, .int (nI (sp_w (sp_sl S v) 63))), (7, .int (nI R))]) [0, 1, 3, 4, 5, 6, 7] rfl ?_
                          refine zs_lo (lo' := [(8, .int (nI (e1 + 1))), (6, .int (nI ((co - pz_b (pz_W S v) (sp_w (sp_sl S v) 63) co 6) - pz_c (pz_W S v) (sp_w (sp_sl S v) 63) co R (e1 + 1)))), (0, .ref x), (2, .int (nI co)), (4, .int (nI v)), (5, .int (nI (sp_w (sp_sl S v) 63))), (7, .int (nI R))]) (by rw [pz_c1 h3 h15]; rfl) ?_
                          refine zs_sub (lo' := [(8, .int (nI (e1 + 1))), (6, .int (nI ((co - pz_b (pz_W S v) (sp_w (sp_sl S v) 63) co 6) - pz_c (pz_W S v) (sp_w (sp_sl S v) 63) co R (e1 + 1)))), (0, .ref x), (2, .int (nI co)), (4, .int (nI v)), (5, .int (nI (sp_w (sp_sl S v) 63))), (7, .int (nI R))]) [0, 1, 2, 3, 4, 5, 6] rfl ?_
                          refine ih (e1 + 1) H7 (va_up g3 (6 * sp_nz S + e1) (nI (pz_s (pz_W S v) (sp_w (sp_sl S v) 63) co R e1 e1 + 1))) (⟨by omega, by omega, mO2, fun q hq => ?_, fun t ht => ?_⟩) (by omega)
                          · by_cases e9 : q = e1
                            · subst e9; rw [va_up_self, pz_y h15 (by omega)]
                            · rw [va_up_ne _ _ (by omega), pz_n1 e9]; exact mf q hq
                          · rw [va_up_ne _ _ (by omega)]; exact me t ht
            · have he6 := h
              have cw0 := cw e0 h
              have pm := pzm (e0 + 1) h
              have pm : pz_b (pz_W S v) (sp_w (sp_sl S v) 63) co e0 + co * pz_W S v e0 / (sp_w (sp_sl S v) 63) ≤ co := pm
              refine zs_iload_n hE 3 dX7_give_163 rfl rfl ?_
              refine zs_aload_n hE 2 dX7_give_164 rfl rfl ?_
              refine zs_iload hE 4 dX7_give_165 rfl ?_
              refine zs_iconst (v := (nI 1)) hE dX7_give_167 (by decide) ?_
              refine zs_iload hE 0 dX7_give_168 rfl ?_
              refine zs_ishl hE dX7_give_170 ?_
              refine zs_top (v' := .int (nI (2 ^ e0))) (by rw [sp_bit6 e0 h]) ?_
              refine zs_callVR (av := [.int (nI v), .int (nI (2 ^ e0))]) (st := [.int (nI co)]) (b := x) hE (m_X7_partsOfAll D E B l κ x ad sc (va_up (va_up (va_up ar 18 (va_up (ar 18) (sp_nz S) (nI v))) 19 (va_up (ar 19) (sp_nz S) (nI co))) 20 g) S v (2 ^ e0) (hMg g ke) hw lv (by have := Nat.pow_lt_pow_right (a := 2) (by decide) he6; exact this)) rfl rfl sV_X7_165 hx rfl rfl (kO) ⟨by decide, by decide⟩ ⟨by decide, by decide⟩ (Nat.le_of_ble_eq_true rfl) dX7_give_171 ?_
              refine zs_top (v' := .int (nI (pz_W S v e0))) (rfl) ?_
              refine zs_imulN hE dX7_give_174 ?_
              refine zs_iload hE 5 dX7_give_175 rfl ?_
              refine zs_idiv hE dX7_give_177 (fun w9 => nI_ne0 (n := sp_w (sp_sl S v) 63) wpos (by omega) w9) ?_
              refine zs_top (v' := .int (nI (co * pz_W S v e0 / (sp_w (sp_sl S v) 63)))) (by rw [pk_div cw0 wpos (by omega)]) ?_
              refine zs_istore (lo' := [(8, .int (nI (co * pz_W S v e0 / (sp_w (sp_sl S v) 63)))), (7, .int (nI e0)), (6, .int (nI (co - pz_b (pz_W S v) (sp_w (sp_sl S v) 63) co (e0)))), (0, .ref x), (2, .int (nI co)), (4, .int (nI v)), (5, .int (nI (sp_w (sp_sl S v) 63)))]) hE dX7_give_178 (by decide) rfl ?_
              refine zs_aload_n hE 3 dX7_give_180 rfl rfl ?_
              refine zs_get hE fl_X7_74 hx rfl dX7_give_181 ?_
              refine zs_bipush (v := (nI 6)) hE dX7_give_184 (by decide) ?_
              refine zs_aload_n hE 3 dX7_give_186 rfl rfl ?_
              refine zs_get hE fl_X7_19 hx rfl dX7_give_187 ?_
              refine zs_top (v' := .int (nI (sp_nz S))) (by rw [mz0]) ?_
              refine zs_imulN hE dX7_give_190 ?_
              refine zs_iload hE 1 dX7_give_191 rfl ?_
              refine zs_iaddN hE dX7_give_193 ?_
              refine zs_iload hE 0 dX7_give_194 rfl ?_
              refine zs_iast hE r20 (Or.inl (show 500 ≤ κ (ad 20) by omega)) (by omega) (by decide) dX7_give_196 (fun H8 hp8 hz8 ho8 => ?_)
              have hx := zs_pt.kept hx (ho8 _ (cs_ne t0 t20 (by decide)))
              have r5 := zs_pt.kept r5 (ho8 _ (cs_ne t5 t20 (by decide)))
              have r6 := zs_pt.kept r6 (ho8 _ (cs_ne t6 t20 (by decide)))
              have r7 := zs_pt.kept r7 (ho8 _ (cs_ne t7 t20 (by decide)))
              have r8 := zs_pt.kept r8 (ho8 _ (cs_ne t8 t20 (by decide)))
              have r9 := zs_pt.kept r9 (ho8 _ (cs_ne t9 t20 (by decide)))
              have r10 := zs_pt.kept r10 (ho8 _ (cs_ne t10 t20 (by decide)))
              have r11 := zs_pt.kept r11 (ho8 _ (cs_ne t11 t20 (by decide)))
              have r12 := zs_pt.kept r12 (ho8 _ (cs_ne t12 t20 (by decide)))
              have r13 := zs_pt.kept r13 (ho8 _ (cs_ne t13 t20 (by decide)))
              have r14 := zs_pt.kept r14 (ho8 _ (cs_ne t14 t20 (by decide)))
              have r15 := zs_pt.kept r15 (ho8 _ (cs_ne t15 t20 (by decide)))
              have r16 := zs_pt.kept r16 (ho8 _ (cs_ne t16 t20 (by decide)))
              have r17 := zs_pt.kept r17 (ho8 _ (cs_ne t17 t20 (by decide)))
              have r18 := zs_pt.kept r18 (ho8 _ (cs_ne t18 t20 (by decide)))
              have r19 := zs_pt.kept r19 (ho8 _ (cs_ne t19 t20 (by decide)))
              have kO2 : md_O D E κ x ad sc (va_up (va_up (va_up ar 18 (va_up (ar 18) (sp_nz S) (nI v))) 19 (va_up (ar 19) (sp_nz S) (nI co))) 20 (va_up g (6 * sp_nz S + e0) (nI (co * pz_W S v e0 / (sp_w (sp_sl S v) 63))))) H8 := ⟨t0, hx, t5, t6, t7, t8, t9, t10, t11, t12, t13, t14, t15, t16, t17, t18, t19, t20, r5, r6, r7, r8, r9, r10, r11, r12, r13, r14, r15, r16, r17, r18, r19, hp8⟩
              refine zs_iload hE 2 dX7_give_197 rfl ?_
              refine zs_iload hE 0 dX7_give_199 rfl ?_
              refine zs_isubN hE (by omega) dX7_give_201 ?_
              refine zs_istore (lo' := [(6, .int (nI ((co - pz_b (pz_W S v) (sp_w (sp_sl S v) 63) co (e0)) - (co * pz_W S v e0 / (sp_w (sp_sl S v) 63))))), (8, .int (nI (co * pz_W S v e0 / (sp_w (sp_sl S v) 63)))), (7, .int (nI e0)), (0, .ref x), (2, .int (nI co)), (4, .int (nI v)), (5, .int (nI (sp_w (sp_sl S v) 63)))]) hE dX7_give_202 (by decide) rfl ?_
              refine zs_iincN (lo' := [(7, .int (nI (e0 + 1))), (6, .int (nI ((co - pz_b (pz_W S v) (sp_w (sp_sl S v) 63) co (e0)) - (co * pz_W S v e0 / (sp_w (sp_sl S v) 63))))), (8, .int (nI (co * pz_W S v e0 / (sp_w (sp_sl S v) 63)))), (0, .ref x), (2, .int (nI co)), (4, .int (nI v)), (5, .int (nI (sp_w (sp_sl S v) 63)))]) hE 2 dX7_give_204 rfl (by decide) rfl ?_
              refine zs_goto (tgt := 156) hE dX7_give_207 (by decide) ?_
              refine zs_sub (lo' := [(7, .int (nI (e0 + 1))), (6, .int (nI ((co - pz_b (pz_W S v) (sp_w (sp_sl S v) 63) co (e0)) - (co * pz_W S v e0 / (sp_w (sp_sl S v) 63))))), (0, .ref x), (2, .int (nI co)), (4, .int (nI v)), (5, .int (nI (sp_w (sp_sl S v) 63)))]) [0, 1, 3, 4, 5, 6] rfl ?_
              refine zs_lo (lo' := [(7, .int (nI (e0 + 1))), (6, .int (nI (co - pz_b (pz_W S v) (sp_w (sp_sl S v) 63) co (e0 + 1)))), (0, .ref x), (2, .int (nI co)), (4, .int (nI v)), (5, .int (nI (sp_w (sp_sl S v) 63)))]) (by rw [show co - pz_b (pz_W S v) (sp_w (sp_sl S v) 63) co (e0 + 1) = co - pz_b (pz_W S v) (sp_w (sp_sl S v) 63) co e0 - co * pz_W S v e0 / (sp_w (sp_sl S v) 63) from Nat.sub_add_eq _ _ _]) ?_
              refine zs_sub (lo' := [(7, .int (nI (e0 + 1))), (6, .int (nI (co - pz_b (pz_W S v) (sp_w (sp_sl S v) 63) co (e0 + 1)))), (0, .ref x), (2, .int (nI co)), (4, .int (nI v)), (5, .int (nI (sp_w (sp_sl S v) 63)))]) [0, 1, 2, 3, 4, 5] rfl ?_
              refine ih (e0 + 1) H8 (va_up g (6 * sp_nz S + e0) (nI (co * pz_W S v e0 / (sp_w (sp_sl S v) 63)))) (⟨by omega, by omega, kO2, fun q hq => ?_, fun t ht => ?_⟩) (by omega)
              · by_cases e9 : q = e0
                · subst e9; exact va_up_self _ _ _
                · rw [va_up_ne _ _ (by omega)]; exact kf q (by omega)
              · rw [va_up_ne _ _ (by omega)]; exact ke t ht
          · refine zs_aload_n hE 2 dX7_give_113 rfl rfl ?_
            refine zs_iconst (v := (nI 4)) hE dX7_give_114 (by decide) ?_
            refine zs_callV (av := [.int (nI 4)]) (st := []) hE (m_X7_fails D E B l κ x ad sc ar 4) sV_X7_81 hx rfl rfl (hO) ⟨by decide, by decide⟩ ⟨by decide, by decide⟩ (fun q w9 => Or.inl w9) (Nat.le_of_ble_eq_true rfl) dX7_give_115 (fun v9 H9 hv9 hz9 hk9 => ?_)
            obtain ⟨rfl, cz, cO⟩ := hv9
            refine zs_widen (k' := 0) (n' := 0) (by decide) (by decide) ?_
            exact zs_iret hE hr (mq_mk (S' := S) (v := .null) (k := 4) (by rw [o_give, epr]; simp only []; rw [pI_f hno, pI_f lh0, pI_t (by omega)]; rfl) cz (fun w9 => by cases w9) cO (mi_4 hM)) (by decide) (by decide) dX7_give_118
        · have lh0 : sp_lh S j = 0 := (nI_m1 (a := lhn S j 4) (by omega)).mp h7
          refine zs_aload_n hE 2 dX7_give_98 rfl rfl ?_
          refine zs_iconst (v := (nI 3)) hE dX7_give_99 (by decide) ?_
          refine zs_callV (av := [.int (nI 3)]) (st := []) hE (m_X7_fails D E B l κ x ad sc ar 3) sV_X7_81 hx rfl rfl (hO) ⟨by decide, by decide⟩ ⟨by decide, by decide⟩ (fun q w9 => Or.inl w9) (Nat.le_of_ble_eq_true rfl) dX7_give_100 (fun v10 H10 hv10 hz10 hk10 => ?_)
          obtain ⟨rfl, cz, cO⟩ := hv10
          refine zs_widen (k' := 0) (n' := 0) (by decide) (by decide) ?_
          exact zs_iret hE hr (mq_mk (S' := S) (v := .null) (k := 3) (by rw [o_give, epr]; simp only []; rw [pI_f hno, pI_t lh0]; rfl) cz (fun w9 => by cases w9) cO (mi_4 hM)) (by decide) (by decide) dX7_give_103
      · have hb := (wH j r0).2.1
        obtain ⟨mh, -⟩ := mH r0 h j (by omega)
        refine zs_aload_n hE 2 dX7_give_55 rfl rfl ?_
        refine zs_get hE fl_X7_55 hx rfl dX7_give_56 ?_
        refine zs_bipush (v := (nI 6)) hE dX7_give_59 (by decide) ?_
        refine zs_iload hE 0 dX7_give_61 rfl ?_
        refine zs_imulN hE dX7_give_63 ?_
        refine zs_iload_n hE 4 dX7_give_64 rfl rfl ?_
        refine zs_iaddN hE dX7_give_65 ?_
        refine zs_iald hE r14 (by omega) (by decide) dX7_give_66 ?_
        refine zs_top (v' := .int (nI (sp_hv S j r0))) (by rw [mh]) ?_
        refine zs_iconst (v := (nI 1)) hE dX7_give_67 (by decide) ?_
        refine zs_isub hE dX7_give_68 ?_
        refine zs_istore (lo' := [(6, .int ((nI (sp_hv S j r0)) - (nI 1))), (5, .int (nI r0)), (4, .int (nI (lhn S j (r0)) - 1)), (0, .ref x), (2, .int (nI co)), (3, .int (nI j))]) hE dX7_give_69 (by decide) rfl ?_
        refine zs_iload hE 0 dX7_give_71 rfl ?_
        refine zs_iconst (v := (-1)) hE dX7_give_73 (by decide) ?_
        refine zs_icmp_ne (tgt := 82) hE dX7_give_74 (by decide) (fun h6 => ?_) (fun h6 => ?_)
        · have hv0 : sp_hv S j r0 ≠ 0 := fun q => h6 ((nI_m1 (by omega)).mpr q)
          refine zs_iload hE 0 dX7_give_82 rfl ?_
          refine zs_istore (lo' := [(4, .int ((nI (sp_hv S j r0)) - (nI 1))), (6, .int ((nI (sp_hv S j r0)) - (nI 1))), (5, .int (nI r0)), (0, .ref x), (2, .int (nI co)), (3, .int (nI j))]) hE dX7_give_84 (by decide) rfl ?_
          refine zs_iincN (lo' := [(5, .int (nI (r0 + 1))), (4, .int ((nI (sp_hv S j r0)) - (nI 1))), (6, .int ((nI (sp_hv S j r0)) - (nI 1))), (0, .ref x), (2, .int (nI co)), (3, .int (nI j))]) hE 2 dX7_give_86 rfl (by decide) rfl ?_
          refine zs_goto (tgt := 49) hE dX7_give_89 (by decide) ?_
          refine zs_sub (lo' := [(5, .int (nI (r0 + 1))), (4, .int ((nI (sp_hv S j r0)) - (nI 1))), (0, .ref x), (2, .int (nI co)), (3, .int (nI j))]) [0, 1, 3, 4, 5] rfl ?_
          refine zs_lo (lo' := [(5, .int (nI (r0 + 1))), (4, .int (nI (lhn S j (r0 + 1)) - 1)), (0, .ref x), (2, .int (nI co)), (3, .int (nI j))]) (by rw [lhn_t hv0]; rfl) ?_
          refine zs_sub (lo' := [(5, .int (nI (r0 + 1))), (4, .int (nI (lhn S j (r0 + 1)) - 1)), (0, .ref x), (2, .int (nI co)), (3, .int (nI j))]) [0, 1, 2, 3, 4] rfl ?_
          exact ih (r0 + 1) (by omega) (by omega)
        · have hv0 : sp_hv S j r0 = 0 := (nI_m1 (by omega)).mp h6
          refine zs_iload hE 2 dX7_give_77 rfl ?_
          refine zs_goto (tgt := 84) hE dX7_give_79 (by decide) ?_
          refine zs_istore (lo' := [(4, .int (nI (lhn S j (r0)) - 1)), (6, .int ((nI (sp_hv S j r0)) - (nI 1))), (5, .int (nI r0)), (0, .ref x), (2, .int (nI co)), (3, .int (nI j))]) hE dX7_give_84 (by decide) rfl ?_
          refine zs_iincN (lo' := [(5, .int (nI (r0 + 1))), (4, .int (nI (lhn S j (r0)) - 1)), (6, .int ((nI (sp_hv S j r0)) - (nI 1))), (0, .ref x), (2, .int (nI co)), (3, .int (nI j))]) hE 2 dX7_give_86 rfl (by decide) rfl ?_
          refine zs_goto (tgt := 49) hE dX7_give_89 (by decide) ?_
          refine zs_sub (lo' := [(5, .int (nI (r0 + 1))), (4, .int (nI (lhn S j (r0)) - 1)), (0, .ref x), (2, .int (nI co)), (3, .int (nI j))]) [0, 1, 3, 4, 5] rfl ?_
          refine zs_lo (lo' := [(5, .int (nI (r0 + 1))), (4, .int (nI (lhn S j (r0 + 1)) - 1)), (0, .ref x), (2, .int (nI co)), (3, .int (nI j))]) (by rw [lhn_f hv0]) ?_
          refine zs_sub (lo' := [(5, .int (nI (r0 + 1))), (4, .int (nI (lhn S j (r0 + 1)) - 1)), (0, .ref x), (2, .int (nI co)), (3, .int (nI j))]) [0, 1, 2, 3, 4] rfl ?_
          exact ih (r0 + 1) (by omega) (by omega)
    · refine zs_aload_n hE 0 dX7_give_31 rfl rfl ?_
      refine zs_iconst (v := (nI 2)) hE dX7_give_32 (by decide) ?_
      refine zs_callV (av := [.int (nI 2)]) (st := []) hE (m_X7_fails D E B l κ x ad sc ar 2) sV_X7_81 hx rfl rfl (hO) ⟨by decide, by decide⟩ ⟨by decide, by decide⟩ (fun q w9 => Or.inl w9) (Nat.le_of_ble_eq_true rfl) dX7_give_33 (fun v11 H11 hv11 hz11 hk11 => ?_)
      obtain ⟨rfl, cz, cO⟩ := hv11
      refine zs_widen (k' := 0) (n' := 0) (by decide) (by decide) ?_
      exact zs_iret hE hr (mq_mk (S' := S) (v := .null) (k := 2) (by rw [o_give, epr]; simp only []; rw [pI_t (show z < 1 ∨ nI 9999 < z from Classical.byContradiction fun w => h2 ⟨fun t => w (Or.inl t), fun t => w (Or.inr t)⟩)]; rfl) cz (fun w9 => by cases w9) cO (mi_4 hM)) (by decide) (by decide) dX7_give_36
  · refine zs_aload_n hE 0 dX7_give_14 rfl rfl ?_
    refine zs_iconst (v := (nI 1)) hE dX7_give_15 (by decide) ?_
    refine zs_callV (av := [.int (nI 1)]) (st := []) hE (m_X7_fails D E B l κ x ad sc ar 1) sV_X7_81 hx rfl rfl (hO) ⟨by decide, by decide⟩ ⟨by decide, by decide⟩ (fun q w9 => Or.inl w9) (Nat.le_of_ble_eq_true rfl) dX7_give_16 (fun v12 H12 hv12 hz12 hk12 => ?_)
    obtain ⟨rfl, cz, cO⟩ := hv12
    refine zs_widen (k' := 0) (n' := 0) (by decide) (by decide) ?_
    exact zs_iret hE hr (mq_mk (S' := S) (v := .null) (k := 1) (by rw [o_give, show sp_pr S y = none by rw [sp_pr, show sp_i y (sp_np S) = none by rw [← mp0]; exact Classical.not_not.mp h1]; rfl]; rfl) cz (fun w9 => by cases w9) cO (mi_4 hM)) (by decide) (by decide) dX7_give_19


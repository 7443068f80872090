/-! the model's sheaves, read -/
def sp_okr (r : sp_R) : Prop := sp_rok r
theorem ok_b {r : sp_R} (h : sp_rok r) (k : Nat) : r.2.getD k 0 ≤ 99 := by
  rw [List.getD_eq_getElem?_getD]
  cases e : r.2[k]? with
  | none => exact Nat.zero_le _
  | some v =>
    obtain ⟨hk, rfl⟩ := List.getElem?_eq_some_iff.mp e
    exact h.2.2 _ (List.getElem_mem hk)
/-- the rows agree as far as k -/
def rw_k (r t : sp_R) (k : Nat) : Prop := r.2.length = t.2.length ∧ ∀ j, j < k → r.2.getD j 0 = t.2.getD j 0
theorem rw_all {r t : sp_R} : rw_k r t r.2.length ↔ r.2 = t.2 := ⟨fun h => gd_ext 0 h.1 h.2, fun h => ⟨by rw [h], fun j _ => by rw [h]⟩⟩
theorem rw_s {r t : sp_R} {k : Nat} : rw_k r t (k + 1) ↔ rw_k r t k ∧ r.2.getD k 0 = t.2.getD k 0 := ⟨fun h => ⟨⟨h.1, fun j hj => h.2 j (by omega)⟩, h.2 k (by omega)⟩, fun h => ⟨h.1.1, fun j hj => by
  rcases Nat.lt_or_ge j k with w | w
  · exact h.1.2 j w
  · rw [show j = k by omega]; exact h.2⟩⟩

set_option maxHeartbeats 4000000 in
set_option maxRecDepth 100000 in
theorem m_X7_areRows (D : va_G) (E : Nat → ClassId) (B : Nat) (l : Launch) (κ : Nat → Nat) (x : Nat) (ad sc : Nat → Nat) (ar : Nat → Nat → Int32) (a b : Nat) (r t : sp_R) (ha : a + 10 ≤ 52480) (hb : b + 10 ≤ 52480) (ra : md_r (ar 12) a r) (rb : md_r (ar 12) b t) (ka : sp_rok r) (kb : sp_rok t) : zs_Ct D E B l yX7_areRows cX7_areRows 5 (some .boolean) ({ frames := 0, cells := 0, slots := 0, locals := 0 } : Room) [.ref x, .int (nI a), .int (nI b)] (fun H => md_O D E κ x ad sc ar H) (zs_N) (zs_ro (.int (zs_b (r.2 = t.2)))) := by
  refine zs_ct (by decide) (Nat.le_of_ble_eq_true rfl) (fun p e s m below meth c hE hr hin hp => ?_)
  refine zs_lo (lo' := [(0, .ref x), (1, .int (nI a)), (2, .int (nI b))]) rfl ?_
  have hO := hp
  obtain ⟨t0, hx, t5, t6, t7, t8, t9, t10, t11, t12, t13, t14, t15, t16, t17, t18, t19, t20, r5, r6, r7, r8, r9, r10, r11, r12, r13, r14, r15, r16, r17, r18, r19, r20⟩ := id hO
  obtain ⟨x1, x2, x3⟩ := ra
  obtain ⟨z1, z2, z3⟩ := rb
  obtain ⟨-, l1, -⟩ := id ka
  obtain ⟨-, l2, -⟩ := id kb
  refine zs_aload_n hE 0 dX7_areRows_0 rfl rfl ?_
  refine zs_get hE fl_X7_49 hx rfl dX7_areRows_1 ?_
  refine zs_iload_n hE 1 dX7_areRows_4 rfl rfl ?_
  refine zs_iconst (v := (nI 1)) hE dX7_areRows_5 (by decide) ?_
  refine zs_iaddN hE dX7_areRows_6 ?_
  refine zs_iald hE r12 (by omega) (by decide) dX7_areRows_7 ?_
  refine zs_top (v' := .int (nI r.2.length)) (by rw [x2]) ?_
  refine zs_aload_n hE 0 dX7_areRows_8 rfl rfl ?_
  refine zs_get hE fl_X7_49 hx rfl dX7_areRows_9 ?_
  refine zs_iload_n hE 2 dX7_areRows_12 rfl rfl ?_
  refine zs_iconst (v := (nI 1)) hE dX7_areRows_13 (by decide) ?_
  refine zs_iaddN hE dX7_areRows_14 ?_
  refine zs_iald hE r12 (by omega) (by decide) dX7_areRows_15 ?_
  refine zs_top (v' := .int (nI t.2.length)) (by rw [z2]) ?_
  refine zs_icmp_neN (tgt := 23) hE (by omega) (by omega) dX7_areRows_16 (by decide) (fun h1 => ?_) (fun h1 => ?_)
  · refine zs_iconst (v := (nI 0)) hE dX7_areRows_23 (by decide) ?_
    refine zs_top (v' := .int (zs_b (rw_k r t 0))) (vb0 (fun w => h1 w.1)) ?_
    refine zs_istore_n (lo' := [(3, .int (zs_b (rw_k r t 0))), (0, .ref x), (1, .int (nI a)), (2, .int (nI b))]) hE dX7_areRows_24 rfl (by decide) rfl ?_
    refine zs_iconst (v := (nI 0)) hE dX7_areRows_25 (by decide) ?_
    refine zs_istore (lo' := [(4, .int (nI 0)), (3, .int (zs_b (rw_k r t 0))), (0, .ref x), (1, .int (nI a)), (2, .int (nI b))]) hE dX7_areRows_26 (by decide) rfl ?_
    refine zs_sub (lo' := [(4, .int (nI 0)), (3, .int (zs_b (rw_k r t 0))), (0, .ref x), (1, .int (nI a)), (2, .int (nI b))]) [0, 1, 2, 3, 4] rfl ?_
    refine zs_ind1 (Hs := fun (k0 : Nat) => s.heap) (ks := fun (k0 : Nat) => 0) (ns := fun (k0 : Nat) => 0) (los := fun (k0 : Nat) => [(4, .int (nI k0)), (3, .int (zs_b (rw_k r t k0))), (0, .ref x), (1, .int (nI a)), (2, .int (nI b))]) (I := fun (k0 : Nat) => k0 ≤ r.2.length) (μ := fun (k0 : Nat) => r.2.length - k0) 0 (Nat.zero_le _) (fun k0 hi ih => ?_)
    try dsimp only at hi ih ⊢
    refine zs_iload hE 0 dX7_areRows_28 rfl ?_
    refine zs_aload_n hE 2 dX7_areRows_30 rfl rfl ?_
    refine zs_get hE fl_X7_49 hx rfl dX7_areRows_31 ?_
    refine zs_iload_n hE 3 dX7_areRows_34 rfl rfl ?_
    refine zs_iconst (v := (nI 1)) hE dX7_areRows_35 (by decide) ?_
    refine zs_iaddN hE dX7_areRows_36 ?_
    refine zs_iald hE r12 (by omega) (by decide) dX7_areRows_37 ?_
    refine zs_top (v' := .int (nI r.2.length)) (by rw [x2]) ?_
    refine zs_icmp_geN (tgt := 82) hE (by omega) (by omega) dX7_areRows_38 (by decide) (fun h5 => ?_) (fun h => ?_)
    · obtain rfl : k0 = r.2.length := by omega
      refine zs_iload_n hE 1 dX7_areRows_82 rfl rfl ?_
      refine zs_top (v' := .int (zs_b (r.2 = t.2))) (by rw [zs_bc rw_all]) ?_
      exact zs_zret hE hr (zs_bnar _) (⟨rfl, rfl⟩) (by decide) (by decide) dX7_areRows_83
    · refine zs_iload_n hE 1 dX7_areRows_41 rfl rfl ?_
      refine zs_if_eqB (tgt := 74) hE dX7_areRows_42 (by decide) (fun h6 => ?_) (fun h6 => ?_)
      · refine zs_iconst (v := (nI 0)) hE dX7_areRows_74 (by decide) ?_
        refine zs_top (v' := .int (zs_b (rw_k r t (k0 + 1)))) (vb0 (fun w => h6 (rw_s.mp w).1)) ?_
        refine zs_istore_n (lo' := [(3, .int (zs_b (rw_k r t (k0 + 1)))), (4, .int (nI k0)), (0, .ref x), (1, .int (nI a)), (2, .int (nI b))]) hE dX7_areRows_75 rfl (by decide) rfl ?_
        refine zs_iincN (lo' := [(4, .int (nI (k0 + 1))), (3, .int (zs_b (rw_k r t (k0 + 1)))), (0, .ref x), (1, .int (nI a)), (2, .int (nI b))]) hE 1 dX7_areRows_76 rfl (by decide) rfl ?_
        refine zs_goto (tgt := 28) hE dX7_areRows_79 (by decide) ?_
        refine zs_sub (lo' := [(4, .int (nI (k0 + 1))), (3, .int (zs_b (rw_k r t (k0 + 1)))), (0, .ref x), (1, .int (nI a)), (2, .int (nI b))]) [0, 1, 2, 3, 4] rfl ?_
        exact ih (k0 + 1) (by omega) (by omega)
      · have hlen := h6.1
        refine zs_aload_n hE 2 dX7_areRows_45 rfl rfl ?_
        refine zs_get hE fl_X7_49 hx rfl dX7_areRows_46 ?_
        refine zs_iload_n hE 3 dX7_areRows_49 rfl rfl ?_
        refine zs_iconst (v := (nI 2)) hE dX7_areRows_50 (by decide) ?_
        refine zs_iaddN hE dX7_areRows_51 ?_
        refine zs_iload hE 0 dX7_areRows_52 rfl ?_
        refine zs_iaddN hE dX7_areRows_54 ?_
        refine zs_iald hE r12 (by omega) (by decide) dX7_areRows_55 ?_
        refine zs_top (v' := .int (nI (r.2.getD k0 0))) (by rw [x3 k0 h]) ?_
        refine zs_aload_n hE 2 dX7_areRows_56 rfl rfl ?_
        refine zs_get hE fl_X7_49 hx rfl dX7_areRows_57 ?_
        refine zs_iload_n hE 4 dX7_areRows_60 rfl rfl ?_
        refine zs_iconst (v := (nI 2)) hE dX7_areRows_61 (by decide) ?_
        refine zs_iaddN hE dX7_areRows_62 ?_
        refine zs_iload hE 0 dX7_areRows_63 rfl ?_
        refine zs_iaddN hE dX7_areRows_65 ?_
        refine zs_iald hE r12 (by omega) (by decide) dX7_areRows_66 ?_
        refine zs_top (v' := .int (nI (t.2.getD k0 0))) (by rw [z3 k0 (by omega)]) ?_
        have b1 := ok_b ka k0
        have b2 := ok_b kb k0
        refine zs_icmp_neN (tgt := 74) hE (by omega) (by omega) dX7_areRows_67 (by decide) (fun h7 => ?_) (fun h7 => ?_)
        · refine zs_iconst (v := (nI 0)) hE dX7_areRows_74 (by decide) ?_
          refine zs_top (v' := .int (zs_b (rw_k r t (k0 + 1)))) (vb0 (fun w => h7 (rw_s.mp w).2)) ?_
          refine zs_istore_n (lo' := [(3, .int (zs_b (rw_k r t (k0 + 1)))), (4, .int (nI k0)), (0, .ref x), (1, .int (nI a)), (2, .int (nI b))]) hE dX7_areRows_75 rfl (by decide) rfl ?_
          refine zs_iincN (lo' := [(4, .int (nI (k0 + 1))), (3, .int (zs_b (rw_k r t (k0 + 1)))), (0, .ref x), (1, .int (nI a)), (2, .int (nI b))]) hE 1 dX7_areRows_76 rfl (by decide) rfl ?_
          refine zs_goto (tgt := 28) hE dX7_areRows_79 (by decide) ?_
          refine zs_sub (lo' := [(4, .int (nI (k0 + 1))), (3, .int (zs_b (rw_k r t (k0 + 1)))), (0, .ref x), (1, .int (nI a)), (2, .int (nI b))]) [0, 1, 2, 3, 4] rfl ?_
          exact ih (k0 + 1) (by omega) (by omega)
        · refine zs_iconst (v := (nI 1)) hE dX7_areRows_70 (by decide) ?_
          refine zs_goto (tgt := 75) hE dX7_areRows_71 (by decide) ?_
          refine zs_top (v' := .int (zs_b (rw_k r t (k0 + 1)))) (vb1 (rw_s.mpr ⟨h6, h7⟩)) ?_
          refine zs_istore_n (lo' := [(3, .int (zs_b (rw_k r t (k0 + 1)))), (4, .int (nI k0)), (0, .ref x), (1, .int (nI a)), (2, .int (nI b))]) hE dX7_areRows_75 rfl (by decide) rfl ?_
          refine zs_iincN (lo' := [(4, .int (nI (k0 + 1))), (3, .int (zs_b (rw_k r t (k0 + 1)))), (0, .ref x), (1, .int (nI a)), (2, .int (nI b))]) hE 1 dX7_areRows_76 rfl (by decide) rfl ?_
          refine zs_goto (tgt := 28) hE dX7_areRows_79 (by decide) ?_
          refine zs_sub (lo' := [(4, .int (nI (k0 + 1))), (3, .int (zs_b (rw_k r t (k0 + 1)))), (0, .ref x), (1, .int (nI a)), (2, .int (nI b))]) [0, 1, 2, 3, 4] rfl ?_
          exact ih (k0 + 1) (by omega) (by omega)
  · refine zs_iconst (v := (nI 1)) hE dX7_areRows_19 (by decide) ?_
    refine zs_goto (tgt := 24) hE dX7_areRows_20 (by decide) ?_
    refine zs_top (v' := .int (zs_b (rw_k r t 0))) (vb1 ⟨h1, fun j hj => absurd hj (Nat.not_lt_zero _)⟩) ?_
    refine zs_istore_n (lo' := [(3, .int (zs_b (rw_k r t 0))), (0, .ref x), (1, .int (nI a)), (2, .int (nI b))]) hE dX7_areRows_24 rfl (by decide) rfl ?_
    refine zs_iconst (v := (nI 0)) hE dX7_areRows_25 (by decide) ?_
    refine zs_istore (lo' := [(4, .int (nI 0)), (3, .int (zs_b (rw_k r t 0))), (0, .ref x), (1, .int (nI a)), (2, .int (nI b))]) hE dX7_areRows_26 (by decide) rfl ?_
    refine zs_sub (lo' := [(4, .int (nI 0)), (3, .int (zs_b (rw_k r t 0))), (0, .ref x), (1, .int (nI a)), (2, .int (nI b))]) [0, 1, 2, 3, 4] rfl ?_
    refine zs_ind1 (Hs := fun (k0 : Nat) => s.heap) (ks := fun (k0 : Nat) => 0) (ns := fun (k0 : Nat) => 0) (los := fun (k0 : Nat) => [(4, .int (nI k0)), (3, .int (zs_b (rw_k r t k0))), (0, .ref x), (1, .int (nI a)), (2, .int (nI b))]) (I := fun (k0 : Nat) => k0 ≤ r.2.length) (μ := fun (k0 : Nat) => r.2.length - k0) 0 (Nat.zero_le _) (fun k0 hi ih => ?_)
    try dsimp only at hi ih ⊢
    refine zs_iload hE 0 dX7_areRows_28 rfl ?_
    refine zs_aload_n hE 2 dX7_areRows_30 rfl rfl ?_
    refine zs_get hE fl_X7_49 hx rfl dX7_areRows_31 ?_
    refine zs_iload_n hE 3 dX7_areRows_34 rfl rfl ?_
    refine zs_iconst (v := (nI 1)) hE dX7_areRows_35 (by decide) ?_
    refine zs_iaddN hE dX7_areRows_36 ?_
    refine zs_iald hE r12 (by omega) (by decide) dX7_areRows_37 ?_
    refine zs_top (v' := .int (nI r.2.length)) (by rw [x2]) ?_
    refine zs_icmp_geN (tgt := 82) hE (by omega) (by omega) dX7_areRows_38 (by decide) (fun h5 => ?_) (fun h => ?_)
    · obtain rfl : k0 = r.2.length := by omega
      refine zs_iload_n hE 1 dX7_areRows_82 rfl rfl ?_
      refine zs_top (v' := .int (zs_b (r.2 = t.2))) (by rw [zs_bc rw_all]) ?_
      exact zs_zret hE hr (zs_bnar _) (⟨rfl, rfl⟩) (by decide) (by decide) dX7_areRows_83
    · refine zs_iload_n hE 1 dX7_areRows_41 rfl rfl ?_
      refine zs_if_eqB (tgt := 74) hE dX7_areRows_42 (by decide) (fun h6 => ?_) (fun h6 => ?_)
      · refine zs_iconst (v := (nI 0)) hE dX7_areRows_74 (by decide) ?_
        refine zs_top (v' := .int (zs_b (rw_k r t (k0 + 1)))) (vb0 (fun w => h6 (rw_s.mp w).1)) ?_
        refine zs_istore_n (lo' := [(3, .int (zs_b (rw_k r t (k0 + 1)))), (4, .int (nI k0)), (0, .ref x), (1, .int (nI a)), (2, .int (nI b))]) hE dX7_areRows_75 rfl (by decide) rfl ?_
        refine zs_iincN (lo' := [(4, .int (nI (k0 + 1))), (3, .int (zs_b (rw_k r t (k0 + 1)))), (0, .ref x), (1, .int (nI a)), (2, .int (nI b))]) hE 1 dX7_areRows_76 rfl (by decide) rfl ?_
        refine zs_goto (tgt := 28) hE dX7_areRows_79 (by decide) ?_
        refine zs_sub (lo' := [(4, .int (nI (k0 + 1))), (3, .int (zs_b (rw_k r t (k0 + 1)))), (0, .ref x), (1, .int (nI a)), (2, .int (nI b))]) [0, 1, 2, 3, 4] rfl ?_
        exact ih (k0 + 1) (by omega) (by omega)
      · have hlen := h6.1
        refine zs_aload_n hE 2 dX7_areRows_45 rfl rfl ?_
        refine zs_get hE fl_X7_49 hx rfl dX7_areRows_46 ?_
        refine zs_iload_n hE 3 dX7_areRows_49 rfl rfl ?_
        refine zs_iconst (v := (nI 2)) hE dX7_areRows_50 (by decide) ?_
        refine zs_iaddN hE dX7_areRows_51 ?_
        refine zs_iload hE 0 dX7_areRows_52 rfl ?_
        refine zs_iaddN hE dX7_areRows_54 ?_
        refine zs_iald hE r12 (by omega) (by decide) dX7_areRows_55 ?_
        refine zs_top (v' := .int (nI (r.2.getD k0 0))) (by rw [x3 k0 h]) ?_
        refine zs_aload_n hE 2 dX7_areRows_56 rfl rfl ?_
        refine zs_get hE fl_X7_49 hx rfl dX7_areRows_57 ?_
        refine zs_iload_n hE 4 dX7_areRows_60 rfl rfl ?_
        refine zs_iconst (v := (nI 2)) hE dX7_areRows_61 (by decide) ?_
        refine zs_iaddN hE dX7_areRows_62 ?_
        refine zs_iload hE 0 dX7_areRows_63 rfl ?_
        refine zs_iaddN hE dX7_areRows_65 ?_
        refine zs_iald hE r12 (by omega) (by decide) dX7_areRows_66 ?_
        refine zs_top (v' := .int (nI (t.2.getD k0 0))) (by rw [z3 k0 (by omega)]) ?_
        have b1 := ok_b ka k0
        have b2 := ok_b kb k0
        refine zs_icmp_neN (tgt := 74) hE (by omega) (by omega) dX7_areRows_67 (by decide) (fun h7 => ?_) (fun h7 => ?_)
        · refine zs_iconst (v := (nI 0)) hE dX7_areRows_74 (by decide) ?_
          refine zs_top (v' := .int (zs_b (rw_k r t (k0 + 1)))) (vb0 (fun w => h7 (rw_s.mp w).2)) ?_
          refine zs_istore_n (lo' := [(3, .int (zs_b (rw_k r t (k0 + 1)))), (4, .int (nI k0)), (0, .ref x), (1, .int (nI a)), (2, .int (nI b))]) hE dX7_areRows_75 rfl (by decide) rfl ?_
          refine zs_iincN (lo' := [(4, .int (nI (k0 + 1))), (3, .int (zs_b (rw_k r t (k0 + 1)))), (0, .ref x), (1, .int (nI a)), (2, .int (nI b))]) hE 1 dX7_areRows_76 rfl (by decide) rfl ?_
          refine zs_goto (tgt := 28) hE dX7_areRows_79 (by decide) ?_
          refine zs_sub (lo' := [(4, .int (nI (k0 + 1))), (3, .int (zs_b (rw_k r t (k0 + 1)))), (0, .ref x), (1, .int (nI a)), (2, .int (nI b))]) [0, 1, 2, 3, 4] rfl ?_
          exact ih (k0 + 1) (by omega) (by omega)
        · refine zs_iconst (v := (nI 1)) hE dX7_areRows_70 (by decide) ?_
          refine zs_goto (tgt := 75) hE dX7_areRows_71 (by decide) ?_
          refine zs_top (v' := .int (zs_b (rw_k r t (k0 + 1)))) (vb1 (rw_s.mpr ⟨h6, h7⟩)) ?_
          refine zs_istore_n (lo' := [(3, .int (zs_b (rw_k r t (k0 + 1)))), (4, .int (nI k0)), (0, .ref x), (1, .int (nI a)), (2, .int (nI b))]) hE dX7_areRows_75 rfl (by decide) rfl ?_
          refine zs_iincN (lo' := [(4, .int (nI (k0 + 1))), (3, .int (zs_b (rw_k r t (k0 + 1)))), (0, .ref x), (1, .int (nI a)), (2, .int (nI b))]) hE 1 dX7_areRows_76 rfl (by decide) rfl ?_
          refine zs_goto (tgt := 28) hE dX7_areRows_79 (by decide) ?_
          refine zs_sub (lo' := [(4, .int (nI (k0 + 1))), (3, .int (zs_b (rw_k r t (k0 + 1)))), (0, .ref x), (1, .int (nI a)), (2, .int (nI b))]) [0, 1, 2, 3, 4] rfl ?_
          exact ih (k0 + 1) (by omega) (by omega)

def al_k (a b : sp_Sh) (k : Nat) : Prop := a.length = b.length ∧ ∀ j, j < k → (a.getD j sp_d0).2 = (b.getD j sp_d0).2
theorem al_s {a b : sp_Sh} {k : Nat} : al_k a b (k + 1) ↔ al_k a b k ∧ (a.getD k sp_d0).2 = (b.getD k sp_d0).2 := ⟨fun h => ⟨⟨h.1, fun j hj => h.2 j (by omega)⟩, h.2 k (by omega)⟩, fun h => ⟨h.1.1, fun j hj => by
  rcases Nat.lt_or_ge j k with w | w
  · exact h.1.2 j w
  · rw [show j = k by omega]; exact h.2⟩⟩
theorem ok_at {a : sp_Sh} (h : sp_ok a) {n : Nat} (hn : n < a.length) : sp_rok (a.getD n sp_d0) := by
  rw [List.getD_eq_getElem?_getD, List.getElem?_eq_getElem hn]; exact h.2.2 _ (List.getElem_mem hn)
set_option maxHeartbeats 4000000 in
set_option maxRecDepth 100000 in
theorem m_X7_areAlike (D : va_G) (E : Nat → ClassId) (B : Nat) (l : Launch) (κ : Nat → Nat) (x : Nat) (ad sc : Nat → Nat) (ar : Nat → Nat → Int32) (a b : Nat) (rs ts : sp_Sh) (ha : a + 41 ≤ 52480) (hb : b + 41 ≤ 52480) (ra : md_s (ar 12) a rs) (rb : md_s (ar 12) b ts) (ka : sp_ok rs) (kb : sp_ok ts) : zs_Ct D E B l yX7_areAlike cX7_areAlike 5 (some .boolean) ({ frames := 1, cells := 0, slots := 0, locals := 24 } : Room) [.ref x, .int (nI a), .int (nI b)] (fun H => md_O D E κ x ad sc ar H) (zs_N) (zs_ro (.int (zs_b (sp_al rs ts)))) := by
  refine zs_ct (by decide) (Nat.le_of_ble_eq_true rfl) (fun p e s m below meth c hE hr hin hp => ?_)
  refine zs_lo (lo' := [(0, .ref x), (1, .int (nI a)), (2, .int (nI b))]) rfl ?_
  have hO := hp
  obtain ⟨t0, hx, t5, t6, t7, t8, t9, t10, t11, t12, t13, t14, t15, t16, t17, t18, t19, t20, r5, r6, r7, r8, r9, r10, r11, r12, r13, r14, r15, r16, r17, r18, r19, r20⟩ := id hO
  obtain ⟨x1, x2⟩ := ra
  obtain ⟨z1, z2⟩ := rb
  obtain ⟨-, l1, -⟩ := id ka
  obtain ⟨-, l2, -⟩ := id kb
  refine zs_aload_n hE 0 dX7_areAlike_0 rfl rfl ?_
  refine zs_get hE fl_X7_49 hx rfl dX7_areAlike_1 ?_
  refine zs_iload_n hE 1 dX7_areAlike_4 rfl rfl ?_
  refine zs_iald hE r12 (by omega) (by decide) dX7_areAlike_5 ?_
  refine zs_top (v' := .int (nI rs.length)) (by rw [x1]) ?_
  refine zs_aload_n hE 0 dX7_areAlike_6 rfl rfl ?_
  refine zs_get hE fl_X7_49 hx rfl dX7_areAlike_7 ?_
  refine zs_iload_n hE 2 dX7_areAlike_10 rfl rfl ?_
  refine zs_iald hE r12 (by omega) (by decide) dX7_areAlike_11 ?_
  refine zs_top (v' := .int (nI ts.length)) (by rw [z1]) ?_
  refine zs_icmp_neN (tgt := 19) hE (by omega) (by omega) dX7_areAlike_12 (by decide) (fun h1 => ?_) (fun h1 => ?_)
  · refine zs_iconst (v := (nI 0)) hE dX7_areAlike_19 (by decide) ?_
    refine zs_top (v' := .int (zs_b (al_k rs ts 0))) (vb0 (fun w => h1 w.1)) ?_
    refine zs_istore_n (lo' := [(3, .int (zs_b (al_k rs ts 0))), (0, .ref x), (1, .int (nI a)), (2, .int (nI b))]) hE dX7_areAlike_20 rfl (by decide) rfl ?_
    refine zs_iconst (v := (nI 0)) hE dX7_areAlike_21 (by decide) ?_
    refine zs_istore (lo' := [(4, .int (nI 0)), (3, .int (zs_b (al_k rs ts 0))), (0, .ref x), (1, .int (nI a)), (2, .int (nI b))]) hE dX7_areAlike_22 (by decide) rfl ?_
    refine zs_sub (lo' := [(4, .int (nI 0)), (3, .int (zs_b (al_k rs ts 0))), (0, .ref x), (1, .int (nI a)), (2, .int (nI b))]) [0, 1, 2, 3, 4] rfl ?_
    refine zs_ind1 (Hs := fun (k0 : Nat) => s.heap) (ks := fun (k0 : Nat) => 0) (ns := fun (k0 : Nat) => 0) (los := fun (k0 : Nat) => [(4, .int (nI k0)), (3, .int (zs_b (al_k rs ts k0))), (0, .ref x), (1, .int (nI a)), (2, .int (nI b))]) (I := fun (k0 : Nat) => k0 ≤ rs.length) (μ := fun (k0 : Nat) => rs.length - k0) 0 (Nat.zero_le _) (fun k0 hi ih => ?_)
    try dsimp only at hi ih ⊢
    refine zs_iload hE 0 dX7_areAlike_24 rfl ?_
    refine zs_aload_n hE 2 dX7_areAlike_26 rfl rfl ?_
    refine zs_get hE fl_X7_49 hx rfl dX7_areAlike_27 ?_
    refine zs_iload_n hE 3 dX7_areAlike_30 rfl rfl ?_
    refine zs_iald hE r12 (by omega) (by decide) dX7_areAlike_31 ?_
    refine zs_top (v' := .int (nI rs.length)) (by rw [x1]) ?_
    refine zs_icmp_geN (tgt := 76) hE (by omega) (by omega) dX7_areAlike_32 (by decide) (fun h5 => ?_) (fun h => ?_)
    · obtain rfl : k0 = rs.length := by omega
      refine zs_iload_n hE 1 dX7_areAlike_76 rfl rfl ?_
      refine zs_top (v' := .int (zs_b (sp_al rs ts))) (rfl) ?_
      exact zs_zret hE hr (zs_bnar _) (⟨rfl, rfl⟩) (by decide) (by decide) dX7_areAlike_77
    · refine zs_iload_n hE 1 dX7_areAlike_35 rfl rfl ?_
      refine zs_if_eqB (tgt := 68) hE dX7_areAlike_36 (by decide) (fun h6 => ?_) (fun h6 => ?_)
      · refine zs_iconst (v := (nI 0)) hE dX7_areAlike_68 (by decide) ?_
        refine zs_top (v' := .int (zs_b (al_k rs ts (k0 + 1)))) (vb0 (fun w => h6 (al_s.mp w).1)) ?_
        refine zs_istore_n (lo' := [(3, .int (zs_b (al_k rs ts (k0 + 1)))), (4, .int (nI k0)), (0, .ref x), (1, .int (nI a)), (2, .int (nI b))]) hE dX7_areAlike_69 rfl (by decide) rfl ?_
        refine zs_iincN (lo' := [(4, .int (nI (k0 + 1))), (3, .int (zs_b (al_k rs ts (k0 + 1)))), (0, .ref x), (1, .int (nI a)), (2, .int (nI b))]) hE 1 dX7_areAlike_70 rfl (by decide) rfl ?_
        refine zs_goto (tgt := 24) hE dX7_areAlike_73 (by decide) ?_
        refine zs_sub (lo' := [(4, .int (nI (k0 + 1))), (3, .int (zs_b (al_k rs ts (k0 + 1)))), (0, .ref x), (1, .int (nI a)), (2, .int (nI b))]) [0, 1, 2, 3, 4] rfl ?_
        exact ih (k0 + 1) (by omega) (by omega)
      · have hlen := h6.1
        refine zs_aload_n hE 2 dX7_areAlike_39 rfl rfl ?_
        refine zs_iload_n hE 3 dX7_areAlike_40 rfl rfl ?_
        refine zs_iconst (v := (nI 1)) hE dX7_areAlike_41 (by decide) ?_
        refine zs_iaddN hE dX7_areAlike_42 ?_
        refine zs_bipush (v := (nI 10)) hE dX7_areAlike_43 (by decide) ?_
        refine zs_iload hE 0 dX7_areAlike_45 rfl ?_
        refine zs_imulN hE dX7_areAlike_47 ?_
        refine zs_iaddN hE dX7_areAlike_48 ?_
        refine zs_iload_n hE 4 dX7_areAlike_49 rfl rfl ?_
        refine zs_iconst (v := (nI 1)) hE dX7_areAlike_50 (by decide) ?_
        refine zs_iaddN hE dX7_areAlike_51 ?_
        refine zs_bipush (v := (nI 10)) hE dX7_areAlike_52 (by decide) ?_
        refine zs_iload hE 0 dX7_areAlike_54 rfl ?_
        refine zs_imulN hE dX7_areAlike_56 ?_
        refine zs_iaddN hE dX7_areAlike_57 ?_
        refine zs_callVR (av := [.int (nI (a + 1 + (10 * k0))), .int (nI (b + 1 + (10 * k0)))]) (st := []) (b := x) hE (m_X7_areRows D E B l κ x ad sc ar (a + 1 + 10 * k0) (b + 1 + 10 * k0) (rs.getD k0 sp_d0) (ts.getD k0 sp_d0) (by omega) (by omega) (x2 k0 h) (z2 k0 (by omega)) (ok_at ka h) (ok_at kb (by omega))) rfl rfl sV_X7_120 hx rfl rfl (hO) ⟨by decide, by decide⟩ ⟨by decide, by decide⟩ (Nat.le_of_ble_eq_true rfl) dX7_areAlike_58 ?_
        refine zs_if_eqB (tgt := 68) hE dX7_areAlike_61 (by decide) (fun h7 => ?_) (fun h7 => ?_)
        · refine zs_iconst (v := (nI 0)) hE dX7_areAlike_68 (by decide) ?_
          refine zs_top (v' := .int (zs_b (al_k rs ts (k0 + 1)))) (vb0 (fun w => h7 (al_s.mp w).2)) ?_
          refine zs_istore_n (lo' := [(3, .int (zs_b (al_k rs ts (k0 + 1)))), (4, .int (nI k0)), (0, .ref x), (1, .int (nI a)), (2, .int (nI b))]) hE dX7_areAlike_69 rfl (by decide) rfl ?_
          refine zs_iincN (lo' := [(4, .int (nI (k0 + 1))), (3, .int (zs_b (al_k rs ts (k0 + 1)))), (0, .ref x), (1, .int (nI a)), (2, .int (nI b))]) hE 1 dX7_areAlike_70 rfl (by decide) rfl ?_
          refine zs_goto (tgt := 24) hE dX7_areAlike_73 (by decide) ?_
          refine zs_sub (lo' := [(4, .int (nI (k0 + 1))), (3, .int (zs_b (al_k rs ts (k0 + 1)))), (0, .ref x), (1, .int (nI a)), (2, .int (nI b))]) [0, 1, 2, 3, 4] rfl ?_
          exact ih (k0 + 1) (by omega) (by omega)
        · refine zs_iconst (v := (nI 1)) hE dX7_areAlike_64 (by decide) ?_
          refine zs_goto (tgt := 69) hE dX7_areAlike_65 (by decide) ?_
          refine zs_top (v' := .int (zs_b (al_k rs ts (k0 + 1)))) (vb1 (al_s.mpr ⟨h6, h7⟩)) ?_
          refine zs_istore_n (lo' := [(3, .int (zs_b (al_k rs ts (k0 + 1)))), (4, .int (nI k0)), (0, .ref x), (1, .int (nI a)), (2, .int (nI b))]) hE dX7_areAlike_69 rfl (by decide) rfl ?_
          refine zs_iincN (lo' := [(4, .int (nI (k0 + 1))), (3, .int (zs_b (al_k rs ts (k0 + 1)))), (0, .ref x), (1, .int (nI a)), (2, .int (nI b))]) hE 1 dX7_areAlike_70 rfl (by decide) rfl ?_
          refine zs_goto (tgt := 24) hE dX7_areAlike_73 (by decide) ?_
          refine zs_sub (lo' := [(4, .int (nI (k0 + 1))), (3, .int (zs_b (al_k rs ts (k0 + 1)))), (0, .ref x), (1, .int (nI a)), (2, .int (nI b))]) [0, 1, 2, 3, 4] rfl ?_
          exact ih (k0 + 1) (by omega) (by omega)
  · refine zs_iconst (v := (nI 1)) hE dX7_areAlike_15 (by decide) ?_
    refine zs_goto (tgt := 20) hE dX7_areAlike_16 (by decide) ?_
    refine zs_top (v' := .int (zs_b (al_k rs ts 0))) (vb1 ⟨h1, fun j hj => absurd hj (Nat.not_lt_zero _)⟩) ?_
    refine zs_istore_n (lo' := [(3, .int (zs_b (al_k rs ts 0))), (0, .ref x), (1, .int (nI a)), (2, .int (nI b))]) hE dX7_areAlike_20 rfl (by decide) rfl ?_
    refine zs_iconst (v := (nI 0)) hE dX7_areAlike_21 (by decide) ?_
    refine zs_istore (lo' := [(4, .int (nI 0)), (3, .int (zs_b (al_k rs ts 0))), (0, .ref x), (1, .int (nI a)), (2, .int (nI b))]) hE dX7_areAlike_22 (by decide) rfl ?_
    refine zs_sub (lo' := [(4, .int (nI 0)), (3, .int (zs_b (al_k rs ts 0))), (0, .ref x), (1, .int (nI a)), (2, .int (nI b))]) [0, 1, 2, 3, 4] rfl ?_
    refine zs_ind1 (Hs := fun (k0 : Nat) => s.heap) (ks := fun (k0 : Nat) => 0) (ns := fun (k0 : Nat) => 0) (los := fun (k0 : Nat) => [(4, .int (nI k0)), (3, .int (zs_b (al_k rs ts k0))), (0, .ref x), (1, .int (nI a)), (2, .int (nI b))]) (I := fun (k0 : Nat) => k0 ≤ rs.length) (μ := fun (k0 : Nat) => rs.length - k0) 0 (Nat.zero_le _) (fun k0 hi ih => ?_)
    try dsimp only at hi ih ⊢
    refine zs_iload hE 0 dX7_areAlike_24 rfl ?_
    refine zs_aload_n hE 2 dX7_areAlike_26 rfl rfl ?_
    refine zs_get hE fl_X7_49 hx rfl dX7_areAlike_27 ?_
    refine zs_iload_n hE 3 dX7_areAlike_30 rfl rfl ?_
    refine zs_iald hE r12 (by omega) (by decide) dX7_areAlike_31 ?_
    refine zs_top (v' := .int (nI rs.length)) (by rw [x1]) ?_
    refine zs_icmp_geN (tgt := 76) hE (by omega) (by omega) dX7_areAlike_32 (by decide) (fun h5 => ?_) (fun h => ?_)
    · obtain rfl : k0 = rs.length := by omega
      refine zs_iload_n hE 1 dX7_areAlike_76 rfl rfl ?_
      refine zs_top (v' := .int (zs_b (sp_al rs ts))) (rfl) ?_
      exact zs_zret hE hr (zs_bnar _) (⟨rfl, rfl⟩) (by decide) (by decide) dX7_areAlike_77
    · refine zs_iload_n hE 1 dX7_areAlike_35 rfl rfl ?_
      refine zs_if_eqB (tgt := 68) hE dX7_areAlike_36 (by decide) (fun h6 => ?_) (fun h6 => ?_)
      · refine zs_iconst (v := (nI 0)) hE dX7_areAlike_68 (by decide) ?_
        refine zs_top (v' := .int (zs_b (al_k rs ts (k0 + 1)))) (vb0 (fun w => h6 (al_s.mp w).1)) ?_
        refine zs_istore_n (lo' := [(3, .int (zs_b (al_k rs ts (k0 + 1)))), (4, .int (nI k0)), (0, .ref x), (1, .int (nI a)), (2, .int (nI b))]) hE dX7_areAlike_69 rfl (by decide) rfl ?_
        refine zs_iincN (lo' := [(4, .int (nI (k0 + 1))), (3, .int (zs_b (al_k rs ts (k0 + 1)))), (0, .ref x), (1, .int (nI a)), (2, .int (nI b))]) hE 1 dX7_areAlike_70 rfl (by decide) rfl ?_
        refine zs_goto (tgt := 24) hE dX7_areAlike_73 (by decide) ?_
        refine zs_sub (lo' := [(4, .int (nI (k0 + 1))), (3, .int (zs_b (al_k rs ts (k0 + 1)))), (0, .ref x), (1, .int (nI a)), (2, .int (nI b))]) [0, 1, 2, 3, 4] rfl ?_
        exact ih (k0 + 1) (by omega) (by omega)
      · have hlen := h6.1
        refine zs_aload_n hE 2 dX7_areAlike_39 rfl rfl ?_
        refine zs_iload_n hE 3 dX7_areAlike_40 rfl rfl ?_
        refine zs_iconst (v := (nI 1)) hE dX7_areAlike_41 (by decide) ?_
        refine zs_iaddN hE dX7_areAlike_42 ?_
        refine zs_bipush (v := (nI 10)) hE dX7_areAlike_43 (by decide) ?_
        refine zs_iload hE 0 dX7_areAlike_45 rfl ?_
        refine zs_imulN hE dX7_areAlike_47 ?_
        refine zs_iaddN hE dX7_areAlike_48 ?_
        refine zs_iload_n hE 4 dX7_areAlike_49 rfl rfl ?_
        refine zs_iconst (v := (nI 1)) hE dX7_areAlike_50 (by decide) ?_
        refine zs_iaddN hE dX7_areAlike_51 ?_
        refine zs_bipush (v := (nI 10)) hE dX7_areAlike_52 (by decide) ?_
        refine zs_iload hE 0 dX7_areAlike_54 rfl ?_
        refine zs_imulN hE dX7_areAlike_56 ?_
        refine zs_iaddN hE dX7_areAlike_57 ?_
        refine zs_callVR (av := [.int (nI (a + 1 + (10 * k0))), .int (nI (b + 1 + (10 * k0)))]) (st := []) (b := x) hE (m_X7_areRows D E B l κ x ad sc ar (a + 1 + 10 * k0) (b + 1 + 10 * k0) (rs.getD k0 sp_d0) (ts.getD k0 sp_d0) (by omega) (by omega) (x2 k0 h) (z2 k0 (by omega)) (ok_at ka h) (ok_at kb (by omega))) rfl rfl sV_X7_120 hx rfl rfl (hO) ⟨by decide, by decide⟩ ⟨by decide, by decide⟩ (Nat.le_of_ble_eq_true rfl) dX7_areAlike_58 ?_
        refine zs_if_eqB (tgt := 68) hE dX7_areAlike_61 (by decide) (fun h7 => ?_) (fun h7 => ?_)
        · refine zs_iconst (v := (nI 0)) hE dX7_areAlike_68 (by decide) ?_
          refine zs_top (v' := .int (zs_b (al_k rs ts (k0 + 1)))) (vb0 (fun w => h7 (al_s.mp w).2)) ?_
          refine zs_istore_n (lo' := [(3, .int (zs_b (al_k rs ts (k0 + 1)))), (4, .int (nI k0)), (0, .ref x), (1, .int (nI a)), (2, .int (nI b))]) hE dX7_areAlike_69 rfl (by decide) rfl ?_
          refine zs_iincN (lo' := [(4, .int (nI (k0 + 1))), (3, .int (zs_b (al_k rs ts (k0 + 1)))), (0, .ref x), (1, .int (nI a)), (2, .int (nI b))]) hE 1 dX7_areAlike_70 rfl (by decide) rfl ?_
          refine zs_goto (tgt := 24) hE dX7_areAlike_73 (by decide) ?_
          refine zs_sub (lo' := [(4, .int (nI (k0 + 1))), (3, .int (zs_b (al_k rs ts (k0 + 1)))), (0, .ref x), (1, .int (nI a)), (2, .int (nI b))]) [0, 1, 2, 3, 4] rfl ?_
          exact ih (k0 + 1) (by omega) (by omega)
        · refine zs_iconst (v := (nI 1)) hE dX7_areAlike_64 (by decide) ?_
          refine zs_goto (tgt := 69) hE dX7_areAlike_65 (by decide) ?_
          refine zs_top (v' := .int (zs_b (al_k rs ts (k0 + 1)))) (vb1 (al_s.mpr ⟨h6, h7⟩)) ?_
          refine zs_istore_n (lo' := [(3, .int (zs_b (al_k rs ts (k0 + 1)))), (4, .int (nI k0)), (0, .ref x), (1, .int (nI a)), (2, .int (nI b))]) hE dX7_areAlike_69 rfl (by decide) rfl ?_
          refine zs_iincN (lo' := [(4, .int (nI (k0 + 1))), (3, .int (zs_b (al_k rs ts (k0 + 1)))), (0, .ref x), (1, .int (nI a)), (2, .int (nI b))]) hE 1 dX7_areAlike_70 rfl (by decide) rfl ?_
          refine zs_goto (tgt := 24) hE dX7_areAlike_73 (by decide) ?_
          refine zs_sub (lo' := [(4, .int (nI (k0 + 1))), (3, .int (zs_b (al_k rs ts (k0 + 1)))), (0, .ref x), (1, .int (nI a)), (2, .int (nI b))]) [0, 1, 2, 3, 4] rfl ?_
          exact ih (k0 + 1) (by omega) (by omega)

set_option maxHeartbeats 4000000 in
set_option maxRecDepth 100000 in
theorem m_X7_notesOf (D : va_G) (E : Nat → ClassId) (B : Nat) (l : Launch) (κ : Nat → Nat) (x : Nat) (ad sc : Nat → Nat) (ar : Nat → Nat → Int32) (a : Nat) (rs : sp_Sh) (ha : a + 41 ≤ 52480) (ra : md_s (ar 12) a rs) (ka : sp_ok rs) : zs_Ct D E B l yX7_notesOf cX7_notesOf 4 (some .int) ({ frames := 0, cells := 0, slots := 0, locals := 0 } : Room) [.ref x, .int (nI a)] (fun H => md_O D E κ x ad sc ar H) (zs_N) (zs_ro (.int (nI (sp_no rs)))) := by
  refine zs_ct (by decide) (Nat.le_of_ble_eq_true rfl) (fun p e s m below meth c hE hr hin hp => ?_)
  refine zs_lo (lo' := [(0, .ref x), (1, .int (nI a))]) rfl ?_
  have hO := hp
  obtain ⟨t0, hx, t5, t6, t7, t8, t9, t10, t11, t12, t13, t14, t15, t16, t17, t18, t19, t20, r5, r6, r7, r8, r9, r10, r11, r12, r13, r14, r15, r16, r17, r18, r19, r20⟩ := id hO
  obtain ⟨x1, x2⟩ := ra
  obtain ⟨-, l1, -⟩ := id ka
  refine zs_iconst (v := (nI 0)) hE dX7_notesOf_0 (by decide) ?_
  refine zs_istore_n (lo' := [(2, .int (nI 0)), (0, .ref x), (1, .int (nI a))]) hE dX7_notesOf_1 rfl (by decide) rfl ?_
  refine zs_iconst (v := (nI 0)) hE dX7_notesOf_2 (by decide) ?_
  refine zs_istore_n (lo' := [(3, .int (nI 0)), (2, .int (nI 0)), (0, .ref x), (1, .int (nI a))]) hE dX7_notesOf_3 rfl (by decide) rfl ?_
  refine zs_sub (lo' := [(3, .int (nI 0)), (2, .int (nI 0)), (0, .ref x), (1, .int (nI a))]) [0, 1, 2, 3] rfl ?_
  refine zs_ind1 (Hs := fun (k0 : Nat) => s.heap) (ks := fun (k0 : Nat) => 0) (ns := fun (k0 : Nat) => 0) (los := fun (k0 : Nat) => [(3, .int (nI k0)), (2, .int (nI (sm (fun k => (rs.getD k sp_d0).2.length) k0))), (0, .ref x), (1, .int (nI a))]) (I := fun (k0 : Nat) => k0 ≤ rs.length) (μ := fun (k0 : Nat) => rs.length - k0) 0 (Nat.zero_le _) (fun k0 hi ih => ?_)
  try dsimp only at hi ih ⊢
  refine zs_iload_n hE 0 dX7_notesOf_4 rfl rfl ?_
  refine zs_aload_n hE 2 dX7_notesOf_5 rfl rfl ?_
  refine zs_get hE fl_X7_49 hx rfl dX7_notesOf_6 ?_
  refine zs_iload_n hE 3 dX7_notesOf_9 rfl rfl ?_
  refine zs_iald hE r12 (by omega) (by decide) dX7_notesOf_10 ?_
  refine zs_top (v' := .int (nI rs.length)) (by rw [x1]) ?_
  refine zs_icmp_geN (tgt := 36) hE (by omega) (by omega) dX7_notesOf_11 (by decide) (fun h5 => ?_) (fun h => ?_)
  · obtain rfl : k0 = rs.length := by omega
    refine zs_iload_n hE 1 dX7_notesOf_36 rfl rfl ?_
    exact zs_iret hE hr (⟨rfl, rfl⟩) (by decide) (by decide) dX7_notesOf_37
  · refine zs_iload_n hE 1 dX7_notesOf_14 rfl rfl ?_
    refine zs_aload_n hE 2 dX7_notesOf_15 rfl rfl ?_
    refine zs_get hE fl_X7_49 hx rfl dX7_notesOf_16 ?_
    refine zs_iload_n hE 3 dX7_notesOf_19 rfl rfl ?_
    refine zs_iconst (v := (nI 2)) hE dX7_notesOf_20 (by decide) ?_
    refine zs_iaddN hE dX7_notesOf_21 ?_
    refine zs_bipush (v := (nI 10)) hE dX7_notesOf_22 (by decide) ?_
    refine zs_iload_n hE 0 dX7_notesOf_24 rfl rfl ?_
    refine zs_imulN hE dX7_notesOf_25 ?_
    refine zs_iaddN hE dX7_notesOf_26 ?_
    refine zs_iald hE r12 (by omega) (by decide) dX7_notesOf_27 ?_
    refine zs_top (v' := .int (nI ((rs.getD k0 sp_d0).2.length))) (by rw [show a + 2 + 10 * k0 = a + 1 + 10 * k0 + 1 by omega, (x2 k0 h).2.1]) ?_
    refine zs_iaddN hE dX7_notesOf_28 ?_
    refine zs_istore_n (lo' := [(2, .int (nI (sm (fun k => (rs.getD k sp_d0).2.length) k0 + ((rs.getD k0 sp_d0).2.length)))), (3, .int (nI k0)), (0, .ref x), (1, .int (nI a))]) hE dX7_notesOf_29 rfl (by decide) rfl ?_
    refine zs_iincN (lo' := [(3, .int (nI (k0 + 1))), (2, .int (nI (sm (fun k => (rs.getD k sp_d0).2.length) k0 + ((rs.getD k0 sp_d0).2.length)))), (0, .ref x), (1, .int (nI a))]) hE 1 dX7_notesOf_30 rfl (by decide) rfl ?_
    refine zs_goto (tgt := 4) hE dX7_notesOf_33 (by decide) ?_
    refine zs_sub (lo' := [(3, .int (nI (k0 + 1))), (2, .int (nI (sm (fun k => (rs.getD k sp_d0).2.length) k0 + ((rs.getD k0 sp_d0).2.length)))), (0, .ref x), (1, .int (nI a))]) [0, 1, 2, 3] rfl ?_
    exact ih (k0 + 1) (by omega) (by omega)


/-! the calls that change the state: notes, rules, hearings, marks -/
theorem cs_ne {κ : Nat → Nat} {a b i j : Nat} (h1 : κ a = i) (h2 : κ b = j) (h : i ≠ j) : a ≠ b := fun e => h (by rw [← h1, ← h2, e])
theorem cs_P.mv2 {D : va_G} {E : Nat → ClassId} {κ : Nat → Nat} {H H1 : Heap} {lp : Nat → Option Nat} {S : sp_S} (h : cs_P D E κ H lp S) (h6 : sp_np S ≤ 6) (hk : ∀ q, q < H.size → (κ q = 0 ∨ (100 ≤ κ q ∧ κ q < 200)) → H1[q]? = H[q]?) : cs_P D E κ H1 lp S := fun i hi => by
  obtain ⟨a, r, h1, h2, h3, h4, h5⟩ := h i hi
  exact ⟨a, r, h1, h2, h3, h4.kept (hk _ h4.lt (Or.inl h2)), h5.kept (hk _ h5.lt (Or.inr ⟨by omega, by omega⟩))⟩
theorem op_mk {D : va_G} {E : Nat → ClassId} {κ : Nat → Nat} {S' : sp_S} {x : Nat} {H H1 : Heap} {o : sp_R3} {v : Value} (ho : o = (0, v, S')) (h : cs_to D E κ S' x H H1) : op_Q D E κ x o (some v) H H1 := by
  subst ho
  exact ⟨rfl, rfl, h⟩
theorem cs_to.k {D : va_G} {E : Nat → ClassId} {κ : Nat → Nat} {S' : sp_S} {x : Nat} {H H1 : Heap} (hz : H.size ≤ H1.size) (h : cs_X D E κ S' x H1) : cs_to D E κ S' x H H1 := ⟨hz, κ, h, fun _ _ => rfl⟩
theorem ty_note (S : sp_S) (t : Nat) : (sp_ty (s_note S t)).length = (sp_ty S).length + 1 := by
  show (sp_ty S ++ [t]).length = _
  rw [List.length_append]; rfl
theorem tg_note {S : sp_S} {t : Nat} {tg : Nat → Int32} (h : ∀ j, j < (sp_ty S).length → tg j = nI ((sp_ty S).getD j 0)) : ∀ j, j < (sp_ty (s_note S t)).length → va_up tg (sp_ty S).length (nI t) j = nI ((sp_ty (s_note S t)).getD j 0) := by
  intro j hj
  rw [ty_note] at hj
  show _ = nI ((sp_ty S ++ [t]).getD j 0)
  rcases Nat.lt_or_ge j (sp_ty S).length with w | w
  · rw [va_up_ne _ _ (by omega), h j w, List.getD_eq_getElem?_getD, List.getD_eq_getElem?_getD, List.getElem?_append_left w]
  · rw [show j = (sp_ty S).length by omega, va_up_self, List.getD_eq_getElem?_getD, List.getElem?_append_right (Nat.le_refl _)]; simp
theorem cs_G.up {D : va_G} {E : Nat → ClassId} {κ : Nat → Nat} {H H1 : Heap} {lh : Nat → Option Nat} {S S' : sp_S} (h : cs_G D E κ H lh S) (hn : sp_np S' = sp_np S) (h6 : sp_np S ≤ 6) {i r : Nat} (hi : i < sp_np S) (hr : r < 4)
    (ho : ∀ j q, ¬ (j = i ∧ q = r) → sp_hv S' j q = sp_hv S j q ∧ sp_mk S' j q = sp_mk S j q ∧ sp_ct S' j q = sp_ct S j q)
    (hk : ∀ q, q < H.size → 200 ≤ κ q → κ q < 500 → κ q ≠ 200 + (i * 4 + r) → κ q ≠ 300 + (i * 4 + r) → κ q ≠ 400 + (i * 4 + r) → H1[q]? = H[q]?)
    {a t g : Nat} (hl : lh (i * 4 + r) = some a) (hh : cs_h D E κ H1 (i * 4 + r) a t g (sp_hv S' i r) (sp_mk S' i r) (sp_ct S' i r)) : cs_G D E κ H1 lh S' := by
  refine ⟨fun k k1 k2 => h.1 k (by omega) k2, fun k k4 => ?_⟩
  rw [hn] at k4
  by_cases e : k = i * 4 + r
  · refine ⟨a, t, g, by rw [e]; exact hl, ?_⟩
    rw [e, show (i * 4 + r) / 4 = i by omega, show (i * 4 + r) % 4 = r by omega]
    exact hh
  · obtain ⟨a1, t1, g1, h1, h2⟩ := h.2 k k4
    obtain ⟨w1, w2, w3⟩ := ho (k / 4) (k % 4) (by omega)
    rw [w1, w2, w3]
    have h3 := h2
    obtain ⟨e1, e2, e3, -⟩ := h3
    exact ⟨a1, t1, g1, h1, h2.mv (fun q z w => by
      have b := h6
      rcases w with rfl | rfl | rfl
      · exact hk _ z (by omega) (by omega) (by omega) (by omega) (by omega)
      · exact hk _ z (by omega) (by omega) (by omega) (by omega) (by omega)
      · exact hk _ z (by omega) (by omega) (by omega) (by omega) (by omega))⟩
theorem nar_ru {v : Nat} (h : v = 98 ∨ v = 108 ∨ v = 110) : narrow .char (.int (nI v)) = .int (nI v) := by rcases h with rfl | rfl | rfl <;> rfl
theorem cs_F.i {κ : Nat → Nat} {a i : Nat} (h : κ a = i) (h1 : 0 < i) (h2 : i < 500) : cs_F κ a := ⟨by omega, by omega⟩

set_option maxHeartbeats 4000000 in
set_option maxRecDepth 100000 in
theorem m_X6_note (D : va_G) (E : Nat → ClassId) (B : Nat) (l : Launch) (hl : l.stackTraces = false) (κ : Nat → Nat) (S : sp_S) (x : Nat) (y : Int32) : zs_Cx D E B l yX6_note cX6_note 2 (some .int) ({ frames := 6, cells := 1, slots := 6, locals := 90 } : Room) [.ref x, .int y] (fun H => cs_W D E κ S x H) (cs_F κ) (op_Q D E κ x (o_note S y)) (op_X D E κ x S (o_note S y) ["java/lang/IllegalArgumentException", "java/lang/IllegalStateException"]) := by
  refine zs_cx (by decide) (Nat.le_of_ble_eq_true rfl) (fun p e s m below meth c hE hr htab hp => ?_)
  refine zs_lo (lo' := [(0, .ref x), (1, .int y)]) rfl ?_
  obtain ⟨hX0, hw⟩ := id hp
  obtain ⟨a1, a2, a3, a4, a5, lp, lv, lh, lz, tg, ⟨t0, t1, t2, t3, t4, t5, hx, r1, r2, r3, r4, r5⟩, htg, hP, hV, hG, hZ, hκ⟩ := hX0
  obtain ⟨wN, wP, wV, wA, wH, wZ, wF⟩ := id hw
  obtain ⟨n6, n40, n12, n8, n99⟩ := id wN
  refine zs_iload_n hE 1 dX6_note_0 rfl rfl ?_
  refine zs_if_lt (tgt := 10) hE dX6_note_1 (by decide) (fun h1 => ?_) (fun h1 => ?_)
  · exact zs_throw hE hl htab th_X6_37_91_41 dX6_note_10 dX6_note_13 dX6_note_14 dX6_note_16 dX6_note_19 (by decide) (Nat.le_of_ble_eq_true rfl) (by decide) (by decide) (op_th hp 0 rfl (by rw [o_note, sp_i_lo h1])) (by decide) (by decide)
  · refine zs_iload_n hE 1 dX6_note_4 rfl rfl ?_
    refine zs_bipush (v := (nI 99)) hE dX6_note_5 (by decide) ?_
    refine zs_icmp_le (tgt := 20) hE dX6_note_7 (by decide) (fun h2 => ?_) (fun h2 => ?_)
    · obtain ⟨t, tl, rfl⟩ := sp_dec (n := 100) (by decide) h1 (by rw [Int32.lt_iff_toInt_lt]; rw [Int32.le_iff_toInt_le] at h2; have e63 : (nI 99).toInt = 99 := rfl; have e64 : (nI 100).toInt = 100 := rfl; omega)
      refine zs_aload_n hE 0 dX6_note_20 rfl rfl ?_
      refine zs_get hE fl_X6_93 hx rfl dX6_note_21 ?_
      refine zs_bipush (v := (nI 8)) hE dX6_note_24 (by decide) ?_
      refine zs_icmp_ltN (tgt := 39) hE (by omega) (by decide) dX6_note_26 (by decide) (fun h3 => ?_) (fun h3 => ?_)
      · refine zs_aload_n hE 0 dX6_note_39 rfl rfl ?_
        refine zs_get hE fl_X6_33 hx rfl dX6_note_40 ?_
        refine zs_aload_n hE 0 dX6_note_43 rfl rfl ?_
        refine zs_get hE fl_X6_93 hx rfl dX6_note_44 ?_
        refine zs_iload_n hE 1 dX6_note_47 rfl rfl ?_
        refine zs_iast hE r5 (Or.inl (cs_F.i t5 (by decide) (by decide))) (by omega) (by decide) dX6_note_48 (fun H1 hp1 hz1 ho1 => ?_)
        have hx := zs_pt.kept hx (ho1 _ (cs_ne t0 t5 (by decide)))
        have r1 := zs_pt.kept r1 (ho1 _ (cs_ne t1 t5 (by decide)))
        have r2 := zs_pt.kept r2 (ho1 _ (cs_ne t2 t5 (by decide)))
        have r3 := zs_pt.kept r3 (ho1 _ (cs_ne t3 t5 (by decide)))
        have r4 := zs_pt.kept r4 (ho1 _ (cs_ne t4 t5 (by decide)))
        refine zs_aload_n hE 0 dX6_note_49 rfl rfl ?_
        refine zs_dup hE dX6_note_50 rfl ?_
        refine zs_get hE fl_X6_93 hx rfl dX6_note_51 ?_
        refine zs_iconst (v := (nI 1)) hE dX6_note_54 (by decide) ?_
        refine zs_iaddN hE dX6_note_55 ?_
        refine zs_put (v := .int (nI ((sp_ty S).length + 1))) hE fl_X6_93 hx (Or.inl (cs_F.i t0 (by decide) (by decide))) (rfl) (rfl) (Nat.le_of_ble_eq_true rfl) dX6_note_56 (fun H2 hp2 hz2 ho2 => ?_)
        have r1 := zs_pt.kept r1 (ho2 _ (cs_ne t1 t0 (by decide)))
        have r2 := zs_pt.kept r2 (ho2 _ (cs_ne t2 t0 (by decide)))
        have r3 := zs_pt.kept r3 (ho2 _ (cs_ne t3 t0 (by decide)))
        have r4 := zs_pt.kept r4 (ho2 _ (cs_ne t4 t0 (by decide)))
        have hp1 := zs_pt.kept hp1 (ho2 _ (cs_ne t5 t0 (by decide)))
        have hp2 : zs_pt D x (.inr (6, [.ref a1, .int (nI (sp_np S)), .ref a2, .int (nI (sp_nv S)), .ref a3, .ref a4, .int (nI (sp_nz S)), .ref a5, .int (nI ((sp_ty S).length + 1))])) H2 := hp2
        refine zs_aload_n hE 0 dX6_note_59 rfl rfl ?_
        refine zs_get hE fl_X6_93 hp2 rfl dX6_note_60 ?_
        have hk : ∀ q, q < s.heap.size → κ q ≠ 6 → κ q ≠ 1 → H2[q]? = s.heap[q]? := fun q z w0 w1 => (ho2 q (fun e => w1 (e ▸ t0))).trans (ho1 q (fun e => w0 (e ▸ t5)))
        exact zs_iretX hE hr (op_mk (by rw [o_note, sp_i_in tl (by decide)]; simp only []; rw [pI_f (by omega)]) (cs_to.k (by omega) (S' := s_note S t) ⟨a1, a2, a3, a4, a5, lp, lv, lh, lz, va_up tg (sp_ty S).length (nI t), ⟨t0, t1, t2, t3, t4, t5, (by rw [ty_note]; exact hp2), r1, r2, r3, r4, hp1⟩, tg_note htg, hP.mv2 n6 (fun q z w => hk q z (by omega) (by omega)), hV.mv (fun q z w => hk q z (by omega) (by omega)), hG.mv (fun q z w w2 => hk q z (by omega) (by omega)) n6, hZ.mv (fun q z w => hk q z (by omega) (by omega)), fun q w => hκ q (by omega)⟩)) (by decide) (by decide) dX6_note_63
      · exact zs_throw hE hl htab th_X6_51_96_55 dX6_note_29 dX6_note_32 dX6_note_33 dX6_note_35 dX6_note_38 (by decide) (Nat.le_of_ble_eq_true rfl) (by decide) (by decide) (op_th hp 1 rfl (by rw [o_note, sp_i_in tl (by decide)]; simp only []; rw [pI_t (by omega)])) (by decide) (by decide)
    · exact zs_throw hE hl htab th_X6_37_91_41 dX6_note_10 dX6_note_13 dX6_note_14 dX6_note_16 dX6_note_19 (by decide) (Nat.le_of_ble_eq_true rfl) (by decide) (by decide) (op_th hp 0 rfl (by rw [o_note, sp_i_hi (by decide) (by rw [Int32.le_iff_toInt_le]; rw [Int32.le_iff_toInt_le] at h2; have e63 : (nI 99).toInt = 99 := rfl; have e64 : (nI 100).toInt = 100 := rfl; omega)])) (by decide) (by decide)

set_option maxHeartbeats 4000000 in
set_option maxRecDepth 100000 in
theorem m_X6_wipe (D : va_G) (E : Nat → ClassId) (B : Nat) (l : Launch) (κ : Nat → Nat) (S : sp_S) (x : Nat) : zs_Ct D E B l yX6_wipe cX6_wipe 2 (some .int) ({ frames := 0, cells := 0, slots := 0, locals := 0 } : Room) [.ref x] (fun H => cs_W D E κ S x H) (cs_F κ) (op_Q D E κ x (o_wipe S)) := by
  refine zs_ct (by decide) (Nat.le_of_ble_eq_true rfl) (fun p e s m below meth c hE hr hin hp => ?_)
  refine zs_lo (lo' := [(0, .ref x)]) rfl ?_
  obtain ⟨hX0, hw⟩ := id hp
  obtain ⟨a1, a2, a3, a4, a5, lp, lv, lh, lz, tg, ⟨t0, t1, t2, t3, t4, t5, hx, r1, r2, r3, r4, r5⟩, htg, hP, hV, hG, hZ, hκ⟩ := hX0
  obtain ⟨wN, wP, wV, wA, wH, wZ, wF⟩ := id hw
  obtain ⟨n6, n40, n12, n8, n99⟩ := id wN
  refine zs_aload_n hE 0 dX6_wipe_0 rfl rfl ?_
  refine zs_get hE fl_X6_93 hx rfl dX6_wipe_1 ?_
  refine zs_istore_n (lo' := [(1, .int (nI ((sp_ty S).length))), (0, .ref x)]) hE dX6_wipe_4 rfl (by decide) rfl ?_
  refine zs_aload_n hE 1 dX6_wipe_5 rfl rfl ?_
  refine zs_iconst (v := (nI 0)) hE dX6_wipe_6 (by decide) ?_
  refine zs_put (v := .int (nI 0)) hE fl_X6_93 hx (Or.inl (cs_F.i t0 (by decide) (by decide))) (rfl) (rfl) (Nat.le_of_ble_eq_true rfl) dX6_wipe_7 (fun H1 hp1 hz1 ho1 => ?_)
  have r1 := zs_pt.kept r1 (ho1 _ (cs_ne t1 t0 (by decide)))
  have r2 := zs_pt.kept r2 (ho1 _ (cs_ne t2 t0 (by decide)))
  have r3 := zs_pt.kept r3 (ho1 _ (cs_ne t3 t0 (by decide)))
  have r4 := zs_pt.kept r4 (ho1 _ (cs_ne t4 t0 (by decide)))
  have r5 := zs_pt.kept r5 (ho1 _ (cs_ne t5 t0 (by decide)))
  have hp1 : zs_pt D x (.inr (6, [.ref a1, .int (nI (sp_np S)), .ref a2, .int (nI (sp_nv S)), .ref a3, .ref a4, .int (nI (sp_nz S)), .ref a5, .int (nI 0)])) H1 := hp1
  refine zs_iload_n hE 0 dX6_wipe_10 rfl rfl ?_
  have hk : ∀ q, q < s.heap.size → κ q ≠ 1 → H1[q]? = s.heap[q]? := fun q z w0 => ho1 q (fun e => w0 (e ▸ t0))
  exact zs_iret hE hr (op_mk (rfl) (cs_to.k (by omega) (S' := s_wipe S) ⟨a1, a2, a3, a4, a5, lp, lv, lh, lz, tg, ⟨t0, t1, t2, t3, t4, t5, hp1, r1, r2, r3, r4, r5⟩, fun j hj => absurd hj (Nat.not_lt_zero _), hP.mv2 n6 (fun q z w => hk q z (by omega)), hV.mv (fun q z w => hk q z (by omega)), hG.mv (fun q z w w2 => hk q z (by omega)) n6, hZ.mv (fun q z w => hk q z (by omega)), fun q w => hκ q (by omega)⟩)) (by decide) (by decide) dX6_wipe_11

set_option maxHeartbeats 4000000 in
set_option maxRecDepth 100000 in
theorem m_X6_rule (D : va_G) (E : Nat → ClassId) (B : Nat) (l : Launch) (hl : l.stackTraces = false) (κ : Nat → Nat) (S : sp_S) (x : Nat) (y z w : Int32) : zs_Cx D E B l yX6_rule cX6_rule 6 (some .char) ({ frames := 6, cells := 1, slots := 6, locals := 90 } : Room) [.ref x, .int y, .int z, .int w] (fun H => cs_W D E κ S x H) (cs_F κ) (op_Q D E κ x (o_rule S y z w)) (op_X D E κ x S (o_rule S y z w) ["java/lang/IndexOutOfBoundsException", "java/lang/IllegalArgumentException"]) := by
  refine zs_cx (by decide) (Nat.le_of_ble_eq_true rfl) (fun p e s m below meth c hE hr htab hp => ?_)
  refine zs_lo (lo' := [(0, .ref x), (1, .int y), (2, .int z), (3, .int w)]) rfl ?_
  obtain ⟨hX0, hw⟩ := id hp
  obtain ⟨a1, a2, a3, a4, a5, lp, lv, lh, lz, tg, ⟨t0, t1, t2, t3, t4, t5, hx, r1, r2, r3, r4, r5⟩, htg, hP, hV, hG, hZ, hκ⟩ := hX0
  obtain ⟨wN, wP, wV, wA, wH, wZ, wF⟩ := id hw
  obtain ⟨n6, n40, n12, n8, n99⟩ := id wN
  refine zs_aload_n hE 0 dX6_rule_0 rfl rfl ?_
  refine zs_iload_n hE 1 dX6_rule_1 rfl rfl ?_
  refine zs_callVR (av := [.int y]) (st := []) (b := x) hE (m_X6_pieceAt D E B l x a1 (sp_np S) lp y .null .null (.ref a2) (.int (nI (sp_nv S))) (.ref a3) (.ref a4) (.int (nI (sp_nz S))) (.ref a5) (.int (nI (sp_ty S).length)) n6) rfl rfl sV_X6_70 hx rfl rfl (⟨hx, r1⟩) ⟨by decide, by decide⟩ ⟨by decide, by decide⟩ (Nat.le_of_ble_eq_true rfl) dX6_rule_2 ?_
  refine zs_astoreq (lo' := [(4, va_rf (sp_at y (sp_np S) lp)), (0, .ref x), (1, .int y), (2, .int z), (3, .int w)]) hE dX6_rule_5 (by decide) rfl ?_
  refine zs_aloadq hE 0 dX6_rule_7 rfl ?_
  refine zs_ifnull (tgt := 21) hE dX6_rule_9 (by decide) (fun h1 => ?_) (fun o1 h1 => ?_)
  · exact zs_throw hE hl htab th_X6_74_144_78 dX6_rule_21 dX6_rule_24 dX6_rule_25 dX6_rule_27 dX6_rule_30 (by decide) (Nat.le_of_ble_eq_true rfl) (by decide) (by decide) (op_th hp 0 rfl (by rw [o_rule]; cases e : sp_i y (sp_np S) with | none => rfl | some i => (obtain ⟨a, r, e1, -⟩ := hP i (sp_i_lt e).1; rw [sp_at_yes e, e1] at h1; cases h1))) (by decide) (by decide)
  · obtain ⟨i, ei⟩ : ∃ i, sp_i y (sp_np S) = some i := by cases w : sp_i y (sp_np S) with | none => (rw [sp_at_no w] at h1; cases h1) | some j => exact ⟨j, rfl⟩
    obtain ⟨il, -⟩ := sp_i_lt ei
    obtain ⟨-, -, -, p4, -, -⟩ := wP.1 i il
    obtain ⟨pa, pr, pe, t6, t7, ph, pq⟩ := hP i il
    refine zs_lo (lo' := [(4, .ref pa), (0, .ref x), (1, .int y), (2, .int z), (3, .int w)]) (by rw [sp_at_yes ei, pe]; rfl) ?_
    refine zs_aload hE 0 dX6_rule_12 rfl ?_
    refine zs_iload_n hE 3 dX6_rule_14 rfl rfl ?_
    refine zs_callVR (av := [.int z]) (st := []) (b := pa) hE (m_X1_hasPart D E B l pa (sp_pa S i) z (.int (nI (sp_fi S i))) (.ref pr) p4) rfl rfl sV_X6_141 ph rfl rfl (ph) ⟨by decide, by decide⟩ ⟨by decide, by decide⟩ (Nat.le_of_ble_eq_true rfl) dX6_rule_15 ?_
    refine zs_if_neB (tgt := 31) hE dX6_rule_18 (by decide) (fun h2 => ?_) (fun h2 => ?_)
    · obtain ⟨q, eq⟩ : ∃ e, sp_i z (sp_pa S i) = some e := by cases w : sp_i z (sp_pa S i) with | none => exact absurd w h2 | some j => exact ⟨j, rfl⟩
      obtain ⟨ql, rfl⟩ := sp_i_lt eq
      refine zs_iload_n hE 4 dX6_rule_31 rfl rfl ?_
      refine zs_bipush (v := (nI 108)) hE dX6_rule_32 (by decide) ?_
      refine zs_icmp_eq (tgt := 59) hE dX6_rule_34 (by decide) (fun h108 => ?_) (fun h108 => ?_)
      · subst h108
        refine zs_aload hE 0 dX6_rule_59 rfl ?_
        refine zs_get hE fl_X6_148 ph rfl dX6_rule_61 ?_
        refine zs_iload_n hE 3 dX6_rule_64 rfl rfl ?_
        refine zs_cald hE pq (by omega) (by decide) dX6_rule_65 ?_
        refine zs_istore (lo' := [(5, .int (nI (sp_ru S i q))), (4, .ref pa), (0, .ref x), (1, .int y), (2, .int (nI q)), (3, .int (nI 108))]) hE dX6_rule_66 (by decide) rfl ?_
        refine zs_aload hE 1 dX6_rule_68 rfl ?_
        refine zs_get hE fl_X6_148 ph rfl dX6_rule_70 ?_
        refine zs_iload_n hE 4 dX6_rule_73 rfl rfl ?_
        refine zs_iload_n hE 5 dX6_rule_74 rfl rfl ?_
        refine zs_cast hE pq (Or.inl (cs_F.i t7 (by omega) (by omega))) (by omega) (by decide) dX6_rule_75 (fun H1 hp1 hz1 ho1 => ?_)
        have hx := zs_pt.kept hx (ho1 _ (cs_ne t0 t7 (by omega)))
        have r1 := zs_pt.kept r1 (ho1 _ (cs_ne t1 t7 (by omega)))
        have r2 := zs_pt.kept r2 (ho1 _ (cs_ne t2 t7 (by omega)))
        have r3 := zs_pt.kept r3 (ho1 _ (cs_ne t3 t7 (by omega)))
        have r4 := zs_pt.kept r4 (ho1 _ (cs_ne t4 t7 (by omega)))
        have r5 := zs_pt.kept r5 (ho1 _ (cs_ne t5 t7 (by omega)))
        have ph := zs_pt.kept ph (ho1 _ (cs_ne t6 t7 (by omega)))
        refine zs_iload hE 0 dX6_rule_76 rfl ?_
        have hk : ∀ q, q < s.heap.size → κ q ≠ 100 + i → H1[q]? = s.heap[q]? := fun q z w0 => ho1 q (fun e => w0 (e ▸ t7))
        exact zs_zretX hE hr (nar_ru (wP.2 i q)) (op_mk (by rw [o_rule, ei]; simp only []; rw [eq]; simp only []; rw [pI_f (by decide), sp_n_nI (by decide)]) (cs_to.k (by omega) (S' := s_rule S i q 108) ⟨a1, a2, a3, a4, a5, lp, lv, lh, lz, tg, ⟨t0, t1, t2, t3, t4, t5, hx, r1, r2, r3, r4, r5⟩, htg, fun j hj => by
                  by_cases e : j = i
                  · subst e
                    exact ⟨pa, pr, pe, t6, t7, ph, hp1.congA (fun k hk2 => by
                      show _ = nI (if j = j ∧ k = q then 108 else sp_ru S j k)
                      by_cases e2 : k = q
                      · rw [e2, va_up_self, if_pos ⟨rfl, rfl⟩]; rfl
                      · rw [va_up_ne _ _ e2, if_neg (fun w => e2 w.2)])⟩
                  · obtain ⟨pb, pc2, g1, g2, g3, g4, g5⟩ := hP j hj
                    have j6 : j < sp_np S := hj
                    exact ⟨pb, pc2, g1, g2, g3, g4.kept (hk _ g4.lt (by omega)), (g5.kept (hk _ g5.lt (by omega))).congA (fun k hk2 => by
                      show _ = nI (if j = i ∧ k = q then 108 else sp_ru S j k)
                      rw [if_neg (fun w => e w.1)])⟩, hV.mv (fun q z w => hk q z (by omega)), hG.mv (fun q z w w2 => hk q z (by omega)) n6, hZ.mv (fun q z w => hk q z (by omega)), fun q w => hκ q (by omega)⟩)) (by decide) (by decide) dX6_rule_78
      · refine zs_iload_n hE 4 dX6_rule_37 rfl rfl ?_
        refine zs_bipush (v := (nI 110)) hE dX6_rule_38 (by decide) ?_
        refine zs_icmp_eq (tgt := 59) hE dX6_rule_40 (by decide) (fun h110 => ?_) (fun h110 => ?_)
        · subst h110
          refine zs_aload hE 0 dX6_rule_59 rfl ?_
          refine zs_get hE fl_X6_148 ph rfl dX6_rule_61 ?_
          refine zs_iload_n hE 3 dX6_rule_64 rfl rfl ?_
          refine zs_cald hE pq (by omega) (by decide) dX6_rule_65 ?_
          refine zs_istore (lo' := [(5, .int (nI (sp_ru S i q))), (4, .ref pa), (0, .ref x), (1, .int y), (2, .int (nI q)), (3, .int (nI 110))]) hE dX6_rule_66 (by decide) rfl ?_
          refine zs_aload hE 1 dX6_rule_68 rfl ?_
          refine zs_get hE fl_X6_148 ph rfl dX6_rule_70 ?_
          refine zs_iload_n hE 4 dX6_rule_73 rfl rfl ?_
          refine zs_iload_n hE 5 dX6_rule_74 rfl rfl ?_
          refine zs_cast hE pq (Or.inl (cs_F.i t7 (by omega) (by omega))) (by omega) (by decide) dX6_rule_75 (fun H2 hp2 hz2 ho2 => ?_)
          have hx := zs_pt.kept hx (ho2 _ (cs_ne t0 t7 (by omega)))
          have r1 := zs_pt.kept r1 (ho2 _ (cs_ne t1 t7 (by omega)))
          have r2 := zs_pt.kept r2 (ho2 _ (cs_ne t2 t7 (by omega)))
          have r3 := zs_pt.kept r3 (ho2 _ (cs_ne t3 t7 (by omega)))
          have r4 := zs_pt.kept r4 (ho2 _ (cs_ne t4 t7 (by omega)))
          have r5 := zs_pt.kept r5 (ho2 _ (cs_ne t5 t7 (by omega)))
          have ph := zs_pt.kept ph (ho2 _ (cs_ne t6 t7 (by omega)))
          refine zs_iload hE 0 dX6_rule_76 rfl ?_
          have hk : ∀ q, q < s.heap.size → κ q ≠ 100 + i → H2[q]? = s.heap[q]? := fun q z w0 => ho2 q (fun e => w0 (e ▸ t7))
          exact zs_zretX hE hr (nar_ru (wP.2 i q)) (op_mk (by rw [o_rule, ei]; simp only []; rw [eq]; simp only []; rw [pI_f (by decide), sp_n_nI (by decide)]) (cs_to.k (by omega) (S' := s_rule S i q 110) ⟨a1, a2, a3, a4, a5, lp, lv, lh, lz, tg, ⟨t0, t1, t2, t3, t4, t5, hx, r1, r2, r3, r4, r5⟩, htg, fun j hj => by
                      by_cases e : j = i
                      · subst e
                        exact ⟨pa, pr, pe, t6, t7, ph, hp2.congA (fun k hk2 => by
                          show _ = nI (if j = j ∧ k = q then 110 else sp_ru S j k)
                          by_cases e2 : k = q
                          · rw [e2, va_up_self, if_pos ⟨rfl, rfl⟩]; rfl
                          · rw [va_up_ne _ _ e2, if_neg (fun w => e2 w.2)])⟩
                      · obtain ⟨pb, pc2, g1, g2, g3, g4, g5⟩ := hP j hj
                        have j6 : j < sp_np S := hj
                        exact ⟨pb, pc2, g1, g2, g3, g4.kept (hk _ g4.lt (by omega)), (g5.kept (hk _ g5.lt (by omega))).congA (fun k hk2 => by
                          show _ = nI (if j = i ∧ k = q then 110 else sp_ru S j k)
                          rw [if_neg (fun w => e w.1)])⟩, hV.mv (fun q z w => hk q z (by omega)), hG.mv (fun q z w w2 => hk q z (by omega)) n6, hZ.mv (fun q z w => hk q z (by omega)), fun q w => hκ q (by omega)⟩)) (by decide) (by decide) dX6_rule_78
        · refine zs_iload_n hE 4 dX6_rule_43 rfl rfl ?_
          refine zs_bipush (v := (nI 98)) hE dX6_rule_44 (by decide) ?_
          refine zs_icmp_eq (tgt := 59) hE dX6_rule_46 (by decide) (fun h98 => ?_) (fun h98 => ?_)
          · subst h98
            refine zs_aload hE 0 dX6_rule_59 rfl ?_
            refine zs_get hE fl_X6_148 ph rfl dX6_rule_61 ?_
            refine zs_iload_n hE 3 dX6_rule_64 rfl rfl ?_
            refine zs_cald hE pq (by omega) (by decide) dX6_rule_65 ?_
            refine zs_istore (lo' := [(5, .int (nI (sp_ru S i q))), (4, .ref pa), (0, .ref x), (1, .int y), (2, .int (nI q)), (3, .int (nI 98))]) hE dX6_rule_66 (by decide) rfl ?_
            refine zs_aload hE 1 dX6_rule_68 rfl ?_
            refine zs_get hE fl_X6_148 ph rfl dX6_rule_70 ?_
            refine zs_iload_n hE 4 dX6_rule_73 rfl rfl ?_
            refine zs_iload_n hE 5 dX6_rule_74 rfl rfl ?_
            refine zs_cast hE pq (Or.inl (cs_F.i t7 (by omega) (by omega))) (by omega) (by decide) dX6_rule_75 (fun H3 hp3 hz3 ho3 => ?_)
            have hx := zs_pt.kept hx (ho3 _ (cs_ne t0 t7 (by omega)))
            have r1 := zs_pt.kept r1 (ho3 _ (cs_ne t1 t7 (by omega)))
            have r2 := zs_pt.kept r2 (ho3 _ (cs_ne t2 t7 (by omega)))
            have r3 := zs_pt.kept r3 (ho3 _ (cs_ne t3 t7 (by omega)))
            have r4 := zs_pt.kept r4 (ho3 _ (cs_ne t4 t7 (by omega)))
            have r5 := zs_pt.kept r5 (ho3 _ (cs_ne t5 t7 (by omega)))
            have ph := zs_pt.kept ph (ho3 _ (cs_ne t6 t7 (by omega)))
            refine zs_iload hE 0 dX6_rule_76 rfl ?_
            have hk : ∀ q, q < s.heap.size → κ q ≠ 100 + i → H3[q]? = s.heap[q]? := fun q z w0 => ho3 q (fun e => w0 (e ▸ t7))
            exact zs_zretX hE hr (nar_ru (wP.2 i q)) (op_mk (by rw [o_rule, ei]; simp only []; rw [eq]; simp only []; rw [pI_f (by decide), sp_n_nI (by decide)]) (cs_to.k (by omega) (S' := s_rule S i q 98) ⟨a1, a2, a3, a4, a5, lp, lv, lh, lz, tg, ⟨t0, t1, t2, t3, t4, t5, hx, r1, r2, r3, r4, r5⟩, htg, fun j hj => by
                          by_cases e : j = i
                          · subst e
                            exact ⟨pa, pr, pe, t6, t7, ph, hp3.congA (fun k hk2 => by
                              show _ = nI (if j = j ∧ k = q then 98 else sp_ru S j k)
                              by_cases e2 : k = q
                              · rw [e2, va_up_self, if_pos ⟨rfl, rfl⟩]; rfl
                              · rw [va_up_ne _ _ e2, if_neg (fun w => e2 w.2)])⟩
                          · obtain ⟨pb, pc2, g1, g2, g3, g4, g5⟩ := hP j hj
                            have j6 : j < sp_np S := hj
                            exact ⟨pb, pc2, g1, g2, g3, g4.kept (hk _ g4.lt (by omega)), (g5.kept (hk _ g5.lt (by omega))).congA (fun k hk2 => by
                              show _ = nI (if j = i ∧ k = q then 98 else sp_ru S j k)
                              rw [if_neg (fun w => e w.1)])⟩, hV.mv (fun q z w => hk q z (by omega)), hG.mv (fun q z w w2 => hk q z (by omega)) n6, hZ.mv (fun q z w => hk q z (by omega)), fun q w => hκ q (by omega)⟩)) (by decide) (by decide) dX6_rule_78
          · exact zs_throw hE hl htab th_X6_37_146_41 dX6_rule_49 dX6_rule_52 dX6_rule_53 dX6_rule_55 dX6_rule_58 (by decide) (Nat.le_of_ble_eq_true rfl) (by decide) (by decide) (op_th hp 1 rfl (by rw [o_rule, ei]; simp only []; rw [eq]; simp only []; rw [pI_t ⟨h108, h110, h98⟩])) (by decide) (by decide)
    · exact zs_throw hE hl htab th_X6_74_144_78 dX6_rule_21 dX6_rule_24 dX6_rule_25 dX6_rule_27 dX6_rule_30 (by decide) (Nat.le_of_ble_eq_true rfl) (by decide) (by decide) (op_th hp 0 rfl (by rw [o_rule, ei]; simp only []; rw [Classical.not_not.mp h2])) (by decide) (by decide)

theorem hv_eq {a v : Nat} (ha : a < 2 ^ 30) (hv : v < 2 ^ 30) : nI a - 1 = nI v ↔ a = v + 1 := by
  rw [← Int32.toInt_inj, nI_mi (by omega), nI_toInt (by omega)]; omega
set_option maxHeartbeats 4000000 in
set_option maxRecDepth 100000 in
theorem m_X6_hear (D : va_G) (E : Nat → ClassId) (B : Nat) (l : Launch) (hl : l.stackTraces = false) (κ : Nat → Nat) (S : sp_S) (x : Nat) (y z : Int32) : zs_Cx D E B l yX6_hear cX6_hear 6 (some .int) ({ frames := 6, cells := 1, slots := 6, locals := 90 } : Room) [.ref x, .int y, .int z] (fun H => cs_W D E κ S x H) (cs_F κ) (op_Q D E κ x (o_hear S y z)) (op_X D E κ x S (o_hear S y z) ["java/lang/IndexOutOfBoundsException"]) := by
  refine zs_cx (by decide) (Nat.le_of_ble_eq_true rfl) (fun p e s m below meth c hE hr htab hp => ?_)
  refine zs_lo (lo' := [(0, .ref x), (1, .int y), (2, .int z)]) rfl ?_
  obtain ⟨hX0, hw⟩ := id hp
  obtain ⟨a1, a2, a3, a4, a5, lp, lv, lh, lz, tg, ⟨t0, t1, t2, t3, t4, t5, hx, r1, r2, r3, r4, r5⟩, htg, hP, hV, hG, hZ, hκ⟩ := hX0
  obtain ⟨wN, wP, wV, wA, wH, wZ, wF⟩ := id hw
  obtain ⟨n6, n40, n12, n8, n99⟩ := id wN
  refine zs_aload_n hE 0 dX6_hear_0 rfl rfl ?_
  refine zs_iload_n hE 2 dX6_hear_1 rfl rfl ?_
  refine zs_callVR (av := [.int z]) (st := []) (b := x) hE (m_X6_versionAt D E B l x a2 (sp_nv S) lv z (.ref a1) (.int (nI (sp_np S))) .null .null (.ref a3) (.ref a4) (.int (nI (sp_nz S))) (.ref a5) (.int (nI (sp_ty S).length)) n40) rfl rfl sV_X6_82 hx rfl rfl (⟨hx, r2⟩) ⟨by decide, by decide⟩ ⟨by decide, by decide⟩ (Nat.le_of_ble_eq_true rfl) dX6_hear_2 ?_
  refine zs_astore_nq (lo' := [(3, va_rf (sp_at z (sp_nv S) lv)), (0, .ref x), (1, .int y), (2, .int z)]) hE dX6_hear_5 rfl (by decide) rfl ?_
  refine zs_aload_nq hE 0 dX6_hear_6 rfl rfl ?_
  refine zs_ifnonnull (tgt := 14) hE dX6_hear_7 (by decide) (fun o1 h1 => ?_) (fun h1 => ?_)
  · obtain ⟨v, ev⟩ : ∃ i0, sp_i z (sp_nv S) = some i0 := by cases w : sp_i z (sp_nv S) with | none => (rw [sp_at_no w] at h1; cases h1) | some j0 => exact ⟨j0, rfl⟩
    obtain ⟨va, vae, vav⟩ := hV.yes ev
    obtain ⟨y0, y1, y2, y3, yh, yf, y4, ⟨y5, y6⟩, y7⟩ := id vav
    refine zs_lo (lo' := [(3, .ref va), (0, .ref x), (1, .int y), (2, .int z)]) (by rw [vae]; rfl) ?_
    have vl := (sp_i_lt ev).1
    obtain ⟨vpl, -⟩ := wV v vl
    refine zs_aload_n hE 1 dX6_hear_14 rfl rfl ?_
    refine zs_iload_n hE 2 dX6_hear_15 rfl rfl ?_
    refine zs_aload_n hE 0 dX6_hear_16 rfl rfl ?_
    refine zs_get hE fl_X6_88 y5 rfl dX6_hear_17 ?_
    refine zs_callVR (av := [.int y, .int (nI (sp_vp S v))]) (st := []) (b := x) hE (m_X6_hearingAt D E B l x a3 (sp_np S) lh y (nI (sp_vp S v)) (.ref a1) (.ref a2) (.int (nI (sp_nv S))) (.ref a4) (.int (nI (sp_nz S))) (.ref a5) (.int (nI (sp_ty S).length)) n6) rfl rfl sV_X6_208 hx rfl rfl (⟨hx, r3⟩) ⟨by decide, by decide⟩ ⟨by decide, by decide⟩ (Nat.le_of_ble_eq_true rfl) dX6_hear_20 ?_
    refine zs_astoreq (lo' := [(4, va_rf (sp_ath y (nI (sp_vp S v)) (sp_np S) lh)), (3, .ref va), (0, .ref x), (1, .int y), (2, .int z)]) hE dX6_hear_23 (by decide) rfl ?_
    refine zs_aloadq hE 0 dX6_hear_25 rfl ?_
    refine zs_ifnonnull (tgt := 40) hE dX6_hear_27 (by decide) (fun o2 h1x => ?_) (fun h1 => ?_)
    · have h1 := h1x
      obtain ⟨r, i, ha, ht, hg, er, ei, r4l, il, eh, hh⟩ : ∃ r i a t g, sp_i y 4 = some r ∧ sp_i (nI (sp_vp S v)) (sp_np S) = some i ∧ r < 4 ∧ i < sp_np S ∧ sp_ath y (nI (sp_vp S v)) (sp_np S) lh = some a ∧ cs_h D E κ s.heap (i * 4 + r) a t g (sp_hv S i r) (sp_mk S i r) (sp_ct S i r) := by rcases hG.c n6 y (nI (sp_vp S v)) with ⟨-, e⟩ | ⟨r, -, -, e⟩ | e; (rw [e] at h1; cases h1); (rw [e] at h1; cases h1); exact e
      obtain ⟨t6, t7, t8, hb, hc, hd⟩ := id hh
      refine zs_lo (lo' := [(4, .ref ha), (3, .ref va), (0, .ref x), (1, .int y), (2, .int z)]) (by rw [eh]; rfl) ?_
      obtain rfl : sp_vp S v = i := by rw [sp_i_in vpl (by omega)] at ei; exact Option.some.inj ei
      have hvb := (wH (sp_vp S v) r).2.1
      obtain ⟨-, rfl⟩ := sp_i_lt ev
      refine zs_aload hE 0 dX6_hear_40 rfl ?_
      refine zs_get hE fl_X6_214 hb rfl dX6_hear_42 ?_
      refine zs_istore (lo' := [(5, .int (nI (sp_hv S (sp_vp S v) r) - 1)), (4, .ref ha), (3, .ref va), (0, .ref x), (1, .int y), (2, .int (nI v))]) hE dX6_hear_45 (by decide) rfl ?_
      refine zs_iload hE 0 dX6_hear_47 rfl ?_
      refine zs_iload_n hE 5 dX6_hear_49 rfl rfl ?_
      refine zs_icmp_eq (tgt := 59) hE dX6_hear_50 (by decide) (fun h3 => ?_) (fun h3 => ?_)
      · refine zs_iload hE 0 dX6_hear_59 rfl ?_
        exact zs_iretX hE hr (op_ro hp.1 (by rw [o_hear, ev]; simp only []; rw [er]; simp only []; rw [s_hear, if_pos ((hv_eq (by omega) (by omega)).mp h3)])) (by decide) (by decide) dX6_hear_61
      · refine zs_aload hE 1 dX6_hear_53 rfl ?_
        refine zs_iload_n hE 5 dX6_hear_55 rfl rfl ?_
        refine zs_callV (av := [.int (nI v)]) (st := []) hE (m_X0_startWith D E B l ha ht hg _ (nI v) _ _ (cs_ne t7 t6 (by omega)) (cs_ne t8 t6 (by omega)) (cs_ne t7 t8 (by omega))) sV_X6_217 hb rfl rfl (⟨hb, hc, hd⟩) ⟨by decide, by decide⟩ ⟨by decide, by decide⟩ (fun q w => Or.inl (by rcases w with rfl | rfl | rfl; exact cs_F.i t6 (by omega) (by omega); exact cs_F.i t7 (by omega) (by omega); exact cs_F.i t8 (by omega) (by omega))) (Nat.le_of_ble_eq_true rfl) dX6_hear_56 (fun v1 H1 hv1 hz1 hk1 => ?_)
        obtain ⟨rfl, cz, c0, c1, c2⟩ := hv1
        refine zs_widen (k' := 0) (n' := 0) (by decide) (by decide) ?_
        have hx := zs_pt.kept hx (hk1 _ (zs_pt.lt hx) (fun w => by rcases w with w | w | w <;> rw [w] at t0 <;> omega))
        have r1 := zs_pt.kept r1 (hk1 _ (zs_pt.lt r1) (fun w => by rcases w with w | w | w <;> rw [w] at t1 <;> omega))
        have r2 := zs_pt.kept r2 (hk1 _ (zs_pt.lt r2) (fun w => by rcases w with w | w | w <;> rw [w] at t2 <;> omega))
        have r3 := zs_pt.kept r3 (hk1 _ (zs_pt.lt r3) (fun w => by rcases w with w | w | w <;> rw [w] at t3 <;> omega))
        have r4 := zs_pt.kept r4 (hk1 _ (zs_pt.lt r4) (fun w => by rcases w with w | w | w <;> rw [w] at t4 <;> omega))
        have r5 := zs_pt.kept r5 (hk1 _ (zs_pt.lt r5) (fun w => by rcases w with w | w | w <;> rw [w] at t5 <;> omega))
        have hk : ∀ q, q < s.heap.size → κ q ≠ 200 + (sp_vp S v * 4 + r) → κ q ≠ 300 + (sp_vp S v * 4 + r) → κ q ≠ 400 + (sp_vp S v * 4 + r) → H1[q]? = s.heap[q]? := fun q z w0 w1 w2 => hk1 q z (fun w => by rcases w with rfl | rfl | rfl; exact w0 t6; exact w1 t7; exact w2 t8)
        refine zs_iload hE 0 dX6_hear_59 rfl ?_
        exact zs_iretX hE hr (op_mk (by rw [o_hear, ev]; simp only []; rw [er]; simp only []; rw [s_hear, if_neg (fun w => h3 ((hv_eq (by omega) (by omega)).mpr w))]) (cs_to.k (by omega) (S' := s_hear0 S (sp_vp S v) r v) ⟨a1, a2, a3, a4, a5, lp, lv, lh, lz, tg, ⟨t0, t1, t2, t3, t4, t5, hx, r1, r2, r3, r4, r5⟩, htg, hP.mv2 n6 (fun q z w => hk q z (by omega) (by omega) (by omega)), hV.mv (fun q z w => hk q z (by omega) (by omega) (by omega)), hG.up rfl n6 vpl r4l (fun j q w => ⟨if_neg w, funext fun k => if_neg w, funext fun k => if_neg w⟩) (fun q z _ _ w0 w1 w2 => hk q z w0 w1 w2) (by rw [← eh, sp_ath, er, Option.bind_some, ei, Option.bind_some]) ⟨t6, t7, t8, (by rw [show sp_hv (s_hear0 S (sp_vp S v) r v) (sp_vp S v) r = v + 1 from if_pos ⟨rfl, rfl⟩, nI_pred]; exact c0), c1.congA (fun k _ => by rw [show sp_mk (s_hear0 S (sp_vp S v) r v) (sp_vp S v) r k = 0 from if_pos ⟨rfl, rfl⟩]; rfl), c2.congA (fun k _ => by rw [show sp_ct (s_hear0 S (sp_vp S v) r v) (sp_vp S v) r k = 0 from if_pos ⟨rfl, rfl⟩]; rfl)⟩, hZ.mv (fun q z w => hk q z (by omega) (by omega) (by omega)), fun q w => hκ q (by omega)⟩)) (by decide) (by decide) dX6_hear_61
    · exact zs_throw hE hl htab th_X6_74_212_78 dX6_hear_30 dX6_hear_33 dX6_hear_34 dX6_hear_36 dX6_hear_39 (by decide) (Nat.le_of_ble_eq_true rfl) (by decide) (by decide) (op_th hp 0 rfl (by rw [o_hear, ev]; simp only []; rcases hG.c n6 y (nI (sp_vp S v)) with ⟨e, -⟩ | ⟨r, e, e2, -⟩ | ⟨r, i, a, t, g, -, -, -, -, e, -⟩; (rw [e]); (rw [sp_i_in vpl (by omega)] at e2; cases e2); (rw [e] at h1; cases h1))) (by decide) (by decide)
  · refine zs_nullq hE dX6_hear_10 ?_
    refine zs_goto (tgt := 23) hE dX6_hear_11 (by decide) ?_
    refine zs_astoreq (lo' := [(4, va_rf none), (3, va_rf (sp_at z (sp_nv S) lv)), (0, .ref x), (1, .int y), (2, .int z)]) hE dX6_hear_23 (by decide) (by generalize sp_at z (sp_nv S) lv = o9; cases o9 <;> rfl) ?_
    refine zs_aloadq hE 0 dX6_hear_25 rfl ?_
    refine zs_ifnonnull (tgt := 40) hE dX6_hear_27 (by decide) (fun o3 h3 => by cases h3) (fun _ => ?_)
    exact zs_throw hE hl htab th_X6_74_212_78 dX6_hear_30 dX6_hear_33 dX6_hear_34 dX6_hear_36 dX6_hear_39 (by decide) (Nat.le_of_ble_eq_true rfl) (by decide) (by decide) (op_th hp 0 rfl (by rw [o_hear]; cases e : sp_i z (sp_nv S) with | none => rfl | some i => (obtain ⟨a, e1, -⟩ := hV.yes e; rw [e1] at h1; cases h1))) (by decide) (by decide)

set_option maxHeartbeats 4000000 in
set_option maxRecDepth 100000 in
theorem m_X6_mark (D : va_G) (E : Nat → ClassId) (B : Nat) (l : Launch) (hl : l.stackTraces = false) (κ : Nat → Nat) (S : sp_S) (x : Nat) (y z w t : Int32) : zs_Cx D E B l yX6_mark cX6_mark 7 (some .int) ({ frames := 6, cells := 1, slots := 6, locals := 90 } : Room) [.ref x, .int y, .int z, .int w, .int t] (fun H => cs_W D E κ S x H) (cs_F κ) (op_Q D E κ x (o_mark S y z w t)) (op_X D E κ x S (o_mark S y z w t) ["java/lang/IndexOutOfBoundsException", "java/lang/IllegalArgumentException", "java/lang/UnsupportedOperationException"]) := by
  refine zs_cx (by decide) (Nat.le_of_ble_eq_true rfl) (fun p e s m below meth c hE hr htab hp => ?_)
  refine zs_lo (lo' := [(0, .ref x), (1, .int y), (2, .int z), (3, .int w), (4, .int t)]) rfl ?_
  obtain ⟨hX0, hw⟩ := id hp
  obtain ⟨a1, a2, a3, a4, a5, lp, lv, lh, lz, tg, ⟨t0, t1, t2, t3, t4, t5, hx, r1, r2, r3, r4, r5⟩, htg, hP, hV, hG, hZ, hκ⟩ := hX0
  obtain ⟨wN, wP, wV, wA, wH, wZ, wF⟩ := id hw
  obtain ⟨n6, n40, n12, n8, n99⟩ := id wN
  refine zs_aload_n hE 0 dX6_mark_0 rfl rfl ?_
  refine zs_iload_n hE 2 dX6_mark_1 rfl rfl ?_
  refine zs_iload_n hE 3 dX6_mark_2 rfl rfl ?_
  refine zs_callVR (av := [.int z, .int w]) (st := []) (b := x) hE (m_X6_hearingAt D E B l x a3 (sp_np S) lh z w (.ref a1) (.ref a2) (.int (nI (sp_nv S))) (.ref a4) (.int (nI (sp_nz S))) (.ref a5) (.int (nI (sp_ty S).length)) n6) rfl rfl sV_X6_208 hx rfl rfl (⟨hx, r3⟩) ⟨by decide, by decide⟩ ⟨by decide, by decide⟩ (Nat.le_of_ble_eq_true rfl) dX6_mark_3 ?_
  refine zs_astoreq (lo' := [(5, va_rf (sp_ath z w (sp_np S) lh)), (0, .ref x), (1, .int y), (2, .int z), (3, .int w), (4, .int t)]) hE dX6_mark_6 (by decide) rfl ?_
  refine zs_aloadq hE 0 dX6_mark_8 rfl ?_
  refine zs_ifnull (tgt := 20) hE dX6_mark_10 (by decide) (fun h1 => ?_) (fun o1 h1 => ?_)
  · exact zs_throw hE hl htab th_X6_74_224_78 dX6_mark_20 dX6_mark_23 dX6_mark_24 dX6_mark_26 dX6_mark_29 (by decide) (Nat.le_of_ble_eq_true rfl) (by decide) (by decide) (op_th hp 0 rfl (by rw [o_mark]; rcases hG.c n6 z w with ⟨e, -⟩ | ⟨r, e, e2, -⟩ | ⟨r, i, a, t, g, -, -, -, -, e, -⟩; (rw [e]); (rw [e]; simp only []; rw [e2]); (rw [e] at h1; cases h1))) (by decide) (by decide)
  · obtain ⟨r, i, ha, ht, hg, er, ei, r4l, il, eh, hh⟩ : ∃ r i a t g, sp_i z 4 = some r ∧ sp_i w (sp_np S) = some i ∧ r < 4 ∧ i < sp_np S ∧ sp_ath z w (sp_np S) lh = some a ∧ cs_h D E κ s.heap (i * 4 + r) a t g (sp_hv S i r) (sp_mk S i r) (sp_ct S i r) := by rcases hG.c n6 z w with ⟨-, e⟩ | ⟨r, -, -, e⟩ | e; (rw [e] at h1; cases h1); (rw [e] at h1; cases h1); exact e
    obtain ⟨t6, t7, t8, hb, hc, hd⟩ := id hh
    refine zs_lo (lo' := [(5, .ref ha), (0, .ref x), (1, .int y), (2, .int z), (3, .int w), (4, .int t)]) (by rw [eh]; rfl) ?_
    refine zs_iload_n hE 2 dX6_mark_13 rfl rfl ?_
    refine zs_callSR (av := [.int y]) (st := []) hE (m_X6_isJuror D E B l y) rfl rfl sS_X6_221 (trivial) ⟨by decide, by decide⟩ ⟨by decide, by decide⟩ (Nat.le_of_ble_eq_true rfl) dX6_mark_14 ?_
    refine zs_if_neB (tgt := 30) hE dX6_mark_17 (by decide) (fun h2 => ?_) (fun h2 => ?_)
    · obtain ⟨j, ej⟩ : ∃ e, sp_i y 5 = some e := by cases w : sp_i y 5 with | none => exact absurd w h2 | some j => exact ⟨j, rfl⟩
      obtain ⟨jl, rfl⟩ := sp_i_lt ej
      refine zs_iload hE 5 dX6_mark_30 rfl ?_
      refine zs_if_lt (tgt := 42) hE dX6_mark_32 (by decide) (fun h3 => ?_) (fun h3 => ?_)
      · exact zs_throw hE hl htab th_X6_37_226_41 dX6_mark_42 dX6_mark_45 dX6_mark_46 dX6_mark_48 dX6_mark_51 (by decide) (Nat.le_of_ble_eq_true rfl) (by decide) (by decide) (op_th hp 1 rfl (by rw [o_mark, er]; simp only []; rw [ei]; simp only []; rw [ej]; simp only []; rw [sp_i_lo h3])) (by decide) (by decide)
      · refine zs_iload hE 5 dX6_mark_35 rfl ?_
        refine zs_bipush (v := (nI 20)) hE dX6_mark_37 (by decide) ?_
        refine zs_icmp_le (tgt := 52) hE dX6_mark_39 (by decide) (fun h4 => ?_) (fun h4 => ?_)
        · obtain ⟨u, ul, rfl⟩ := sp_dec (n := 21) (by decide) h3 (by rw [Int32.lt_iff_toInt_lt]; rw [Int32.le_iff_toInt_le] at h4; have e63 : (nI 20).toInt = 20 := rfl; have e64 : (nI 21).toInt = 21 := rfl; omega)
          refine zs_aload hE 0 dX6_mark_52 rfl ?_
          refine zs_get hE fl_X6_214 hb rfl dX6_mark_54 ?_
          refine zs_iconst (v := (-1)) hE dX6_mark_57 (by decide) ?_
          have hvb := (wH i r).2.1
          refine zs_icmp_ne (tgt := 71) hE dX6_mark_58 (by decide) (fun h5 => ?_) (fun h5 => ?_)
          · have hv0 : sp_hv S i r ≠ 0 := fun w => h5 ((nI_m1 (by omega)).mpr w)
            refine zs_aload hE 0 dX6_mark_71 rfl ?_
            refine zs_get hE fl_X6_230 hb rfl dX6_mark_73 ?_
            refine zs_iload_n hE 2 dX6_mark_76 rfl rfl ?_
            refine zs_iald hE hc (by omega) (by decide) dX6_mark_77 ?_
            refine zs_istore (lo' := [(6, .int (nI (sp_mk S i r j) - 1)), (5, .ref ha), (0, .ref x), (1, .int (nI j)), (2, .int z), (3, .int w), (4, .int (nI u))]) hE dX6_mark_78 (by decide) rfl ?_
            refine zs_aload hE 1 dX6_mark_80 rfl ?_
            refine zs_get hE fl_X6_230 hb rfl dX6_mark_82 ?_
            refine zs_iload_n hE 3 dX6_mark_85 rfl rfl ?_
            refine zs_iload hE 6 dX6_mark_86 rfl ?_
            refine zs_iast hE hc (Or.inl (cs_F.i t7 (by omega) (by omega))) (by omega) (by decide) dX6_mark_88 (fun H1 hp1 hz1 ho1 => ?_)
            have hx := zs_pt.kept hx (ho1 _ (cs_ne t0 t7 (by omega)))
            have r1 := zs_pt.kept r1 (ho1 _ (cs_ne t1 t7 (by omega)))
            have r2 := zs_pt.kept r2 (ho1 _ (cs_ne t2 t7 (by omega)))
            have r3 := zs_pt.kept r3 (ho1 _ (cs_ne t3 t7 (by omega)))
            have r4 := zs_pt.kept r4 (ho1 _ (cs_ne t4 t7 (by omega)))
            have r5 := zs_pt.kept r5 (ho1 _ (cs_ne t5 t7 (by omega)))
            have hb := zs_pt.kept hb (ho1 _ (cs_ne t6 t7 (by omega)))
            have hd := zs_pt.kept hd (ho1 _ (cs_ne t8 t7 (by omega)))
            refine zs_aload hE 1 dX6_mark_89 rfl ?_
            refine zs_get hE fl_X6_233 hb rfl dX6_mark_91 ?_
            refine zs_iload_n hE 3 dX6_mark_94 rfl rfl ?_
            refine zs_iload hE 6 dX6_mark_95 rfl ?_
            refine zs_iast hE hd (Or.inl (cs_F.i t8 (by omega) (by omega))) (by omega) (by decide) dX6_mark_97 (fun H2 hp2 hz2 ho2 => ?_)
            have hx := zs_pt.kept hx (ho2 _ (cs_ne t0 t8 (by omega)))
            have r1 := zs_pt.kept r1 (ho2 _ (cs_ne t1 t8 (by omega)))
            have r2 := zs_pt.kept r2 (ho2 _ (cs_ne t2 t8 (by omega)))
            have r3 := zs_pt.kept r3 (ho2 _ (cs_ne t3 t8 (by omega)))
            have r4 := zs_pt.kept r4 (ho2 _ (cs_ne t4 t8 (by omega)))
            have r5 := zs_pt.kept r5 (ho2 _ (cs_ne t5 t8 (by omega)))
            have hb := zs_pt.kept hb (ho2 _ (cs_ne t6 t8 (by omega)))
            have hp1 := zs_pt.kept hp1 (ho2 _ (cs_ne t7 t8 (by omega)))
            refine zs_iload hE 0 dX6_mark_98 rfl ?_
            have hk : ∀ q, q < s.heap.size → κ q ≠ 300 + (i * 4 + r) → κ q ≠ 400 + (i * 4 + r) → H2[q]? = s.heap[q]? := fun q z w0 w1 => (ho2 q (fun e => w1 (e ▸ t8))).trans (ho1 q (fun e => w0 (e ▸ t7)))
            exact zs_iretX hE hr (op_mk (by rw [o_mark, er]; simp only []; rw [ei]; simp only []; rw [ej]; simp only []; rw [sp_i_in ul (by decide)]; simp only []; rw [pI_f hv0]) (cs_to.k (by omega) (S' := s_mark S i r j (u + 1)) ⟨a1, a2, a3, a4, a5, lp, lv, lh, lz, tg, ⟨t0, t1, t2, t3, t4, t5, hx, r1, r2, r3, r4, r5⟩, htg, hP.mv2 n6 (fun q z w => hk q z (by omega) (by omega)), hV.mv (fun q z w => hk q z (by omega) (by omega)), hG.up rfl n6 il r4l (fun j2 q w => ⟨rfl, funext fun k => if_neg (fun e => w ⟨e.1, e.2.1⟩), funext fun k => if_neg (fun e => w ⟨e.1, e.2.1⟩)⟩) (fun q z _ _ w0 w1 w2 => hk q z w1 w2) (by rw [← eh, sp_ath, er, Option.bind_some, ei, Option.bind_some]) ⟨t6, t7, t8, hb, hp1.congA (fun k _ => by show _ = nI (if i = i ∧ r = r ∧ k = j then u + 1 else sp_mk S i r k) - 1; by_cases e2 : k = j; rw [e2, va_up_self, if_pos ⟨rfl, rfl, rfl⟩, nI_pred]; rw [va_up_ne _ _ e2, if_neg (fun w => e2 w.2.2)]), hp2.congA (fun k _ => by show _ = nI (if i = i ∧ r = r ∧ k = j then u + 1 else sp_ct S i r k) - 1; by_cases e2 : k = j; rw [e2, va_up_self, if_pos ⟨rfl, rfl, rfl⟩, nI_pred]; rw [va_up_ne _ _ e2, if_neg (fun w => e2 w.2.2)])⟩, hZ.mv (fun q z w => hk q z (by omega) (by omega)), fun q w => hκ q (by omega)⟩)) (by decide) (by decide) dX6_mark_100
          · exact zs_throw hE hl htab th_X6_160_228_164 dX6_mark_61 dX6_mark_64 dX6_mark_65 dX6_mark_67 dX6_mark_70 (by decide) (Nat.le_of_ble_eq_true rfl) (by decide) (by decide) (op_th hp 2 rfl (by rw [o_mark, er]; simp only []; rw [ei]; simp only []; rw [ej]; simp only []; rw [sp_i_in ul (by decide)]; simp only []; rw [pI_t ((nI_m1 (by omega)).mp h5)])) (by decide) (by decide)
        · exact zs_throw hE hl htab th_X6_37_226_41 dX6_mark_42 dX6_mark_45 dX6_mark_46 dX6_mark_48 dX6_mark_51 (by decide) (Nat.le_of_ble_eq_true rfl) (by decide) (by decide) (op_th hp 1 rfl (by rw [o_mark, er]; simp only []; rw [ei]; simp only []; rw [ej]; simp only []; rw [sp_i_hi (by decide) (by rw [Int32.le_iff_toInt_le]; rw [Int32.le_iff_toInt_le] at h4; have e63 : (nI 20).toInt = 20 := rfl; have e64 : (nI 21).toInt = 21 := rfl; omega)])) (by decide) (by decide)
    · exact zs_throw hE hl htab th_X6_74_224_78 dX6_mark_20 dX6_mark_23 dX6_mark_24 dX6_mark_26 dX6_mark_29 (by decide) (Nat.le_of_ble_eq_true rfl) (by decide) (by decide) (op_th hp 0 rfl (by rw [o_mark, er]; simp only []; rw [ei]; simp only []; rw [Classical.not_not.mp h2])) (by decide) (by decide)

set_option maxHeartbeats 4000000 in
set_option maxRecDepth 100000 in
theorem m_X6_affirm (D : va_G) (E : Nat → ClassId) (B : Nat) (l : Launch) (hl : l.stackTraces = false) (κ : Nat → Nat) (S : sp_S) (x : Nat) (y z w : Int32) : zs_Cx D E B l yX6_affirm cX6_affirm 6 (some .int) ({ frames := 6, cells := 1, slots := 6, locals := 90 } : Room) [.ref x, .int y, .int z, .int w] (fun H => cs_W D E κ S x H) (cs_F κ) (op_Q D E κ x (o_affirm S y z w)) (op_X D E κ x S (o_affirm S y z w) ["java/lang/IndexOutOfBoundsException", "java/util/NoSuchElementException"]) := by
  refine zs_cx (by decide) (Nat.le_of_ble_eq_true rfl) (fun p e s m below meth c hE hr htab hp => ?_)
  refine zs_lo (lo' := [(0, .ref x), (1, .int y), (2, .int z), (3, .int w)]) rfl ?_
  obtain ⟨hX0, hw⟩ := id hp
  obtain ⟨a1, a2, a3, a4, a5, lp, lv, lh, lz, tg, ⟨t0, t1, t2, t3, t4, t5, hx, r1, r2, r3, r4, r5⟩, htg, hP, hV, hG, hZ, hκ⟩ := hX0
  obtain ⟨wN, wP, wV, wA, wH, wZ, wF⟩ := id hw
  obtain ⟨n6, n40, n12, n8, n99⟩ := id wN
  refine zs_aload_n hE 0 dX6_affirm_0 rfl rfl ?_
  refine zs_iload_n hE 2 dX6_affirm_1 rfl rfl ?_
  refine zs_iload_n hE 3 dX6_affirm_2 rfl rfl ?_
  refine zs_callVR (av := [.int z, .int w]) (st := []) (b := x) hE (m_X6_hearingAt D E B l x a3 (sp_np S) lh z w (.ref a1) (.ref a2) (.int (nI (sp_nv S))) (.ref a4) (.int (nI (sp_nz S))) (.ref a5) (.int (nI (sp_ty S).length)) n6) rfl rfl sV_X6_208 hx rfl rfl (⟨hx, r3⟩) ⟨by decide, by decide⟩ ⟨by decide, by decide⟩ (Nat.le_of_ble_eq_true rfl) dX6_affirm_3 ?_
  refine zs_astoreq (lo' := [(4, va_rf (sp_ath z w (sp_np S) lh)), (0, .ref x), (1, .int y), (2, .int z), (3, .int w)]) hE dX6_affirm_6 (by decide) rfl ?_
  refine zs_aloadq hE 0 dX6_affirm_8 rfl ?_
  refine zs_ifnull (tgt := 20) hE dX6_affirm_10 (by decide) (fun h1 => ?_) (fun o1 h1 => ?_)
  · exact zs_throw hE hl htab th_X6_74_224_78 dX6_affirm_20 dX6_affirm_23 dX6_affirm_24 dX6_affirm_26 dX6_affirm_29 (by decide) (Nat.le_of_ble_eq_true rfl) (by decide) (by decide) (op_th hp 0 rfl (by rw [o_affirm]; rcases hG.c n6 z w with ⟨e, -⟩ | ⟨r, e, e2, -⟩ | ⟨r, i, a, t, g, -, -, -, -, e, -⟩; (rw [e]); (rw [e]; simp only []; rw [e2]); (rw [e] at h1; cases h1))) (by decide) (by decide)
  · obtain ⟨r, i, ha, ht, hg, er, ei, r4l, il, eh, hh⟩ : ∃ r i a t g, sp_i z 4 = some r ∧ sp_i w (sp_np S) = some i ∧ r < 4 ∧ i < sp_np S ∧ sp_ath z w (sp_np S) lh = some a ∧ cs_h D E κ s.heap (i * 4 + r) a t g (sp_hv S i r) (sp_mk S i r) (sp_ct S i r) := by rcases hG.c n6 z w with ⟨-, e⟩ | ⟨r, -, -, e⟩ | e; (rw [e] at h1; cases h1); (rw [e] at h1; cases h1); exact e
    obtain ⟨t6, t7, t8, hb, hc, hd⟩ := id hh
    refine zs_lo (lo' := [(4, .ref ha), (0, .ref x), (1, .int y), (2, .int z), (3, .int w)]) (by rw [eh]; rfl) ?_
    refine zs_iload_n hE 2 dX6_affirm_13 rfl rfl ?_
    refine zs_callSR (av := [.int y]) (st := []) hE (m_X6_isJuror D E B l y) rfl rfl sS_X6_221 (trivial) ⟨by decide, by decide⟩ ⟨by decide, by decide⟩ (Nat.le_of_ble_eq_true rfl) dX6_affirm_14 ?_
    refine zs_if_neB (tgt := 30) hE dX6_affirm_17 (by decide) (fun h2 => ?_) (fun h2 => ?_)
    · obtain ⟨j, ej⟩ : ∃ e, sp_i y 5 = some e := by cases w : sp_i y 5 with | none => exact absurd w h2 | some j => exact ⟨j, rfl⟩
      obtain ⟨jl, rfl⟩ := sp_i_lt ej
      obtain ⟨mkb, -⟩ := (wH i r).1 j
      have ctb := sp_ctb wH i r j jl
      refine zs_aload hE 0 dX6_affirm_30 rfl ?_
      refine zs_get hE fl_X6_230 hb rfl dX6_affirm_32 ?_
      refine zs_iload_n hE 2 dX6_affirm_35 rfl rfl ?_
      refine zs_iald hE hc (by omega) (by decide) dX6_affirm_36 ?_
      refine zs_istore (lo' := [(5, .int (nI (sp_mk S i r j) - 1)), (4, .ref ha), (0, .ref x), (1, .int (nI j)), (2, .int z), (3, .int w)]) hE dX6_affirm_37 (by decide) rfl ?_
      refine zs_iload hE 0 dX6_affirm_39 rfl ?_
      refine zs_iconst (v := (-1)) hE dX6_affirm_41 (by decide) ?_
      refine zs_icmp_eq (tgt := 56) hE dX6_affirm_42 (by decide) (fun h3 => ?_) (fun h3 => ?_)
      · exact zs_throwN hE hl htab th_X6_190_236_194 dX6_affirm_56 dX6_affirm_59 dX6_affirm_60 dX6_affirm_62 dX6_affirm_65 (by decide) (Nat.le_of_ble_eq_true rfl) (by decide) (by decide) (op_th hp 1 rfl (by rw [o_affirm, er]; simp only []; rw [ei]; simp only []; rw [ej]; simp only []; rw [pI_t (Or.inl ((nI_m1 (by omega)).mp h3))])) (by decide) (by decide)
      · have mk0 : sp_mk S i r j ≠ 0 := fun w => h3 ((nI_m1 (by omega)).mpr w)
        refine zs_aload hE 1 dX6_affirm_45 rfl ?_
        refine zs_get hE fl_X6_233 hb rfl dX6_affirm_47 ?_
        refine zs_iload_n hE 3 dX6_affirm_50 rfl rfl ?_
        refine zs_iald hE hd (by omega) (by decide) dX6_affirm_51 ?_
        refine zs_iconst (v := (-1)) hE dX6_affirm_52 (by decide) ?_
        refine zs_icmp_eq (tgt := 66) hE dX6_affirm_53 (by decide) (fun h4 => ?_) (fun h4 => ?_)
        · have ct0 : sp_ct S i r j = 0 := (nI_m1 (by omega)).mp h4
          refine zs_aload hE 1 dX6_affirm_66 rfl ?_
          refine zs_get hE fl_X6_233 hb rfl dX6_affirm_68 ?_
          refine zs_iload_n hE 3 dX6_affirm_71 rfl rfl ?_
          refine zs_iload hE 0 dX6_affirm_72 rfl ?_
          refine zs_iast hE hd (Or.inl (cs_F.i t8 (by omega) (by omega))) (by omega) (by decide) dX6_affirm_74 (fun H1 hp1 hz1 ho1 => ?_)
          have hx := zs_pt.kept hx (ho1 _ (cs_ne t0 t8 (by omega)))
          have r1 := zs_pt.kept r1 (ho1 _ (cs_ne t1 t8 (by omega)))
          have r2 := zs_pt.kept r2 (ho1 _ (cs_ne t2 t8 (by omega)))
          have r3 := zs_pt.kept r3 (ho1 _ (cs_ne t3 t8 (by omega)))
          have r4 := zs_pt.kept r4 (ho1 _ (cs_ne t4 t8 (by omega)))
          have r5 := zs_pt.kept r5 (ho1 _ (cs_ne t5 t8 (by omega)))
          have hb := zs_pt.kept hb (ho1 _ (cs_ne t6 t8 (by omega)))
          have hc := zs_pt.kept hc (ho1 _ (cs_ne t7 t8 (by omega)))
          refine zs_iload hE 0 dX6_affirm_75 rfl ?_
          have hk : ∀ q, q < s.heap.size → κ q ≠ 400 + (i * 4 + r) → H1[q]? = s.heap[q]? := fun q z w0 => ho1 q (fun e => w0 (e ▸ t8))
          exact zs_iretX hE hr (op_mk (by rw [o_affirm, er]; simp only []; rw [ei]; simp only []; rw [ej]; simp only []; rw [pI_f (by omega)]) (cs_to.k (by omega) (S' := s_mark S i r j (sp_mk S i r j)) ⟨a1, a2, a3, a4, a5, lp, lv, lh, lz, tg, ⟨t0, t1, t2, t3, t4, t5, hx, r1, r2, r3, r4, r5⟩, htg, hP.mv2 n6 (fun q z w => hk q z (by omega)), hV.mv (fun q z w => hk q z (by omega)), hG.up rfl n6 il r4l (fun j2 q w => ⟨rfl, funext fun k => if_neg (fun e => w ⟨e.1, e.2.1⟩), funext fun k => if_neg (fun e => w ⟨e.1, e.2.1⟩)⟩) (fun q z _ _ w0 w1 w2 => hk q z w2) (by rw [← eh, sp_ath, er, Option.bind_some, ei, Option.bind_some]) ⟨t6, t7, t8, hb, hc.congA (fun k _ => by show _ = nI (if i = i ∧ r = r ∧ k = j then sp_mk S i r j else sp_mk S i r k) - 1; by_cases e2 : k = j; rw [e2, if_pos ⟨rfl, rfl, rfl⟩]; rw [if_neg (fun w => e2 w.2.2)]), hp1.congA (fun k _ => by show _ = nI (if i = i ∧ r = r ∧ k = j then sp_mk S i r j else sp_ct S i r k) - 1; by_cases e2 : k = j; rw [e2, va_up_self, if_pos ⟨rfl, rfl, rfl⟩]; rw [va_up_ne _ _ e2, if_neg (fun w => e2 w.2.2)])⟩, hZ.mv (fun q z w => hk q z (by omega)), fun q w => hκ q (by omega)⟩)) (by decide) (by decide) dX6_affirm_77
        · exact zs_throwN hE hl htab th_X6_190_236_194 dX6_affirm_56 dX6_affirm_59 dX6_affirm_60 dX6_affirm_62 dX6_affirm_65 (by decide) (Nat.le_of_ble_eq_true rfl) (by decide) (by decide) (op_th hp 1 rfl (by rw [o_affirm, er]; simp only []; rw [ei]; simp only []; rw [ej]; simp only []; rw [pI_t (Or.inr (fun w => h4 ((nI_m1 (by omega)).mpr w)))])) (by decide) (by decide)
    · exact zs_throw hE hl htab th_X6_74_224_78 dX6_affirm_20 dX6_affirm_23 dX6_affirm_24 dX6_affirm_26 dX6_affirm_29 (by decide) (Nat.le_of_ble_eq_true rfl) (by decide) (by decide) (op_th hp 0 rfl (by rw [o_affirm, er]; simp only []; rw [ei]; simp only []; rw [Classical.not_not.mp h2])) (by decide) (by decide)

set_option maxHeartbeats 4000000 in
set_option maxRecDepth 100000 in
theorem m_X6_noteAt (D : va_G) (E : Nat → ClassId) (B : Nat) (l : Launch) (hl : l.stackTraces = false) (κ : Nat → Nat) (S : sp_S) (x : Nat) (y b q w u : Int32) : zs_Cx D E B l yX6_noteAt cX6_noteAt 8 (some .int) ({ frames := 6, cells := 1, slots := 6, locals := 90 } : Room) [.ref x, .int y, .int b, .int q, .int w, .int u] (fun H => cs_W D E κ S x H) (cs_F κ) (op_Q D E κ x (o_noteAt S y b q w u)) (op_X D E κ x S (o_noteAt S y b q w u) ["java/lang/IndexOutOfBoundsException", "java/util/NoSuchElementException"]) := by
  refine zs_cx (by decide) (Nat.le_of_ble_eq_true rfl) (fun p e s m below meth c hE hr htab hp => ?_)
  refine zs_lo (lo' := [(0, .ref x), (1, .int y), (2, .int b), (3, .int q), (4, .int w), (5, .int u)]) rfl ?_
  obtain ⟨hX0, hw⟩ := id hp
  obtain ⟨a1, a2, a3, a4, a5, lp, lv, lh, lz, tg, ⟨t0, t1, t2, t3, t4, t5, hx, r1, r2, r3, r4, r5⟩, htg, hP, hV, hG, hZ, hκ⟩ := hX0
  obtain ⟨wN, wP, wV, wA, wH, wZ, wF⟩ := id hw
  obtain ⟨n6, n40, n12, n8, n99⟩ := id wN
  refine zs_aload_n hE 0 dX6_noteAt_0 rfl rfl ?_
  refine zs_iload_n hE 1 dX6_noteAt_1 rfl rfl ?_
  refine zs_iload_n hE 2 dX6_noteAt_2 rfl rfl ?_
  refine zs_iload_n hE 3 dX6_noteAt_3 rfl rfl ?_
  refine zs_callV (av := [.int y, .int b, .int q]) (st := []) hE (m_X6_sheafAt D E B l κ S x y b q) sV_X6_175 hx rfl rfl (hp) ⟨by decide, by decide⟩ ⟨by decide, by decide⟩ (fun _ w => w.elim) (Nat.le_of_ble_eq_true rfl) dX6_noteAt_4 (fun v1 H1 hv1 hz1 hk1 => ?_)
  obtain ⟨he, os, rfl, ho⟩ := hv1; subst he
  refine zs_widen (k' := 0) (n' := 0) (by decide) (by decide) ?_
  have hx := zs_pt.kept hx (hk1 _ (zs_pt.lt hx) (fun w => w.elim))
  have r1 := zs_pt.kept r1 (hk1 _ (zs_pt.lt r1) (fun w => w.elim))
  have r2 := zs_pt.kept r2 (hk1 _ (zs_pt.lt r2) (fun w => w.elim))
  have r3 := zs_pt.kept r3 (hk1 _ (zs_pt.lt r3) (fun w => w.elim))
  have r4 := zs_pt.kept r4 (hk1 _ (zs_pt.lt r4) (fun w => w.elim))
  have r5 := zs_pt.kept r5 (hk1 _ (zs_pt.lt r5) (fun w => w.elim))
  refine zs_astoreq (lo' := [(6, va_rf os), (0, .ref x), (1, .int y), (2, .int b), (3, .int q), (4, .int w), (5, .int u)]) hE dX6_noteAt_7 (by decide) rfl ?_
  refine zs_aloadq hE 0 dX6_noteAt_9 rfl ?_
  refine zs_ifnonnull (tgt := 24) hE dX6_noteAt_11 (by decide) (fun o1 h1 => ?_) (fun h1 => ?_)
  · obtain ⟨rs, ers⟩ : ∃ rs, sp_sh S y b q = some rs := by cases w : sp_sh S y b q with | none => (rw [ho.1 w] at h1; cases h1) | some rs => exact ⟨rs, rfl⟩
    obtain ⟨sa, es, hs⟩ := ho.2 rs ers
    refine zs_lo (lo' := [(6, .ref sa), (0, .ref x), (1, .int y), (2, .int b), (3, .int q), (4, .int w), (5, .int u)]) (by rw [es]; rfl) ?_
    obtain ⟨xh, xf, x0, x1, x2, x3⟩ := hs.s0
    refine zs_aload hE 0 dX6_noteAt_24 rfl ?_
    refine zs_iload hE 5 dX6_noteAt_26 rfl ?_
    refine zs_callVR (av := [.int w]) (st := []) (b := sa) hE (m_X4_rowAt D E B l sa xh rs.length xf w x0) rfl rfl sV_X6_183 x1 rfl rfl (⟨x1, x2⟩) ⟨by decide, by decide⟩ ⟨by decide, by decide⟩ (Nat.le_of_ble_eq_true rfl) dX6_noteAt_28 ?_
    refine zs_astoreq (lo' := [(7, va_rf (sp_at w rs.length xf)), (6, .ref sa), (0, .ref x), (1, .int y), (2, .int b), (3, .int q), (4, .int w), (5, .int u)]) hE dX6_noteAt_31 (by decide) rfl ?_
    refine zs_aloadq hE 0 dX6_noteAt_33 rfl ?_
    refine zs_ifnull (tgt := 54) hE dX6_noteAt_35 (by decide) (fun h2 => ?_) (fun o2 h2 => ?_)
    · exact zs_throwN hE hl htab th_X6_190_192_194 dX6_noteAt_54 dX6_noteAt_57 dX6_noteAt_58 dX6_noteAt_60 dX6_noteAt_63 (by decide) (Nat.le_of_ble_eq_true rfl) (by decide) (by decide) (op_th hp 1 rfl (by rw [o_noteAt, ers]; simp only []; cases e : sp_i w rs.length with | none => rfl | some k => (obtain ⟨b9, e1, -⟩ := x3 k (sp_i_lt e).1; rw [sp_at_yes e, e1] at h2; cases h2))) (by decide) (by decide)
    · obtain ⟨k, ek⟩ : ∃ k, sp_i w rs.length = some k := by cases e : sp_i w rs.length with | none => (rw [sp_at_no e] at h2; cases h2) | some k => exact ⟨k, rfl⟩
      obtain ⟨b2, b2e, b2r⟩ := x3 k (sp_i_lt ek).1
      obtain ⟨⟨y0, y1, y2⟩, y3, yn, y4, y5, y6⟩ := b2r
      refine zs_lo (lo' := [(7, .ref b2), (6, .ref sa), (0, .ref x), (1, .int y), (2, .int b), (3, .int q), (4, .int w), (5, .int u)]) (by rw [sp_at_yes ek, b2e]; rfl) ?_
      refine zs_iload hE 7 dX6_noteAt_38 rfl ?_
      refine zs_if_lt (tgt := 54) hE dX6_noteAt_40 (by decide) (fun h3 => ?_) (fun h3 => ?_)
      · exact zs_throwN hE hl htab th_X6_190_192_194 dX6_noteAt_54 dX6_noteAt_57 dX6_noteAt_58 dX6_noteAt_60 dX6_noteAt_63 (by decide) (Nat.le_of_ble_eq_true rfl) (by decide) (by decide) (op_th hp 1 rfl (by rw [o_noteAt, ers]; simp only []; rw [ek]; simp only []; rw [sp_i_lo h3])) (by decide) (by decide)
      · refine zs_iload hE 7 dX6_noteAt_43 rfl ?_
        refine zs_aload hE 0 dX6_noteAt_45 rfl ?_
        refine zs_get hE fl_X6_187 y5 rfl dX6_noteAt_47 ?_
        refine zs_alen hE y6 rfl dX6_noteAt_50 ?_
        refine zs_icmp_lt (tgt := 64) hE dX6_noteAt_51 (by decide) (fun h4 => ?_) (fun h4 => ?_)
        · obtain ⟨p9, pl, rfl⟩ := sp_dec (by omega) h3 h4
          refine zs_aload hE 0 dX6_noteAt_64 rfl ?_
          refine zs_get hE fl_X6_187 y5 rfl dX6_noteAt_66 ?_
          refine zs_iload hE 7 dX6_noteAt_69 rfl ?_
          refine zs_iald hE y6 (by omega) (by omega) dX6_noteAt_71 ?_
          exact zs_iretX hE hr (op_ro hp.1 (by rw [o_noteAt, ers]; simp only []; rw [ek]; simp only []; rw [sp_i_in pl (by omega)])) (by decide) (by decide) dX6_noteAt_72
        · exact zs_throwN hE hl htab th_X6_190_192_194 dX6_noteAt_54 dX6_noteAt_57 dX6_noteAt_58 dX6_noteAt_60 dX6_noteAt_63 (by decide) (Nat.le_of_ble_eq_true rfl) (by decide) (by decide) (op_th hp 1 rfl (by rw [o_noteAt, ers]; simp only []; rw [ek]; simp only []; rw [sp_i_hi (by omega) (sp_nlt_le h4)])) (by decide) (by decide)
  · exact zs_throw hE hl htab th_X6_74_102_78 dX6_noteAt_14 dX6_noteAt_17 dX6_noteAt_18 dX6_noteAt_20 dX6_noteAt_23 (by decide) (Nat.le_of_ble_eq_true rfl) (by decide) (by decide) (op_th hp 0 rfl (by rw [o_noteAt]; cases e : sp_sh S y b q with | none => rfl | some rs => (obtain ⟨a, e1, -⟩ := ho.2 rs e; rw [e1] at h1; cases h1))) (by decide) (by decide)

set_option maxHeartbeats 4000000 in
set_option maxRecDepth 100000 in
theorem m_X6_writer (D : va_G) (E : Nat → ClassId) (B : Nat) (l : Launch) (hl : l.stackTraces = false) (κ : Nat → Nat) (S : sp_S) (x : Nat) (y b q w : Int32) : zs_Cx D E B l yX6_writer cX6_writer 7 (some .int) ({ frames := 6, cells := 1, slots := 6, locals := 90 } : Room) [.ref x, .int y, .int b, .int q, .int w] (fun H => cs_W D E κ S x H) (cs_F κ) (op_Q D E κ x (o_writer S y b q w)) (op_X D E κ x S (o_writer S y b q w) ["java/lang/IndexOutOfBoundsException", "java/util/NoSuchElementException"]) := by
  refine zs_cx (by decide) (Nat.le_of_ble_eq_true rfl) (fun p e s m below meth c hE hr htab hp => ?_)
  refine zs_lo (lo' := [(0, .ref x), (1, .int y), (2, .int b), (3, .int q), (4, .int w)]) rfl ?_
  obtain ⟨hX0, hw⟩ := id hp
  obtain ⟨a1, a2, a3, a4, a5, lp, lv, lh, lz, tg, ⟨t0, t1, t2, t3, t4, t5, hx, r1, r2, r3, r4, r5⟩, htg, hP, hV, hG, hZ, hκ⟩ := hX0
  obtain ⟨wN, wP, wV, wA, wH, wZ, wF⟩ := id hw
  obtain ⟨n6, n40, n12, n8, n99⟩ := id wN
  refine zs_aload_n hE 0 dX6_writer_0 rfl rfl ?_
  refine zs_iload_n hE 1 dX6_writer_1 rfl rfl ?_
  refine zs_iload_n hE 2 dX6_writer_2 rfl rfl ?_
  refine zs_iload_n hE 3 dX6_writer_3 rfl rfl ?_
  refine zs_callV (av := [.int y, .int b, .int q]) (st := []) hE (m_X6_sheafAt D E B l κ S x y b q) sV_X6_175 hx rfl rfl (hp) ⟨by decide, by decide⟩ ⟨by decide, by decide⟩ (fun _ w => w.elim) (Nat.le_of_ble_eq_true rfl) dX6_writer_4 (fun v1 H1 hv1 hz1 hk1 => ?_)
  obtain ⟨he, os, rfl, ho⟩ := hv1; subst he
  refine zs_widen (k' := 0) (n' := 0) (by decide) (by decide) ?_
  have hx := zs_pt.kept hx (hk1 _ (zs_pt.lt hx) (fun w => w.elim))
  have r1 := zs_pt.kept r1 (hk1 _ (zs_pt.lt r1) (fun w => w.elim))
  have r2 := zs_pt.kept r2 (hk1 _ (zs_pt.lt r2) (fun w => w.elim))
  have r3 := zs_pt.kept r3 (hk1 _ (zs_pt.lt r3) (fun w => w.elim))
  have r4 := zs_pt.kept r4 (hk1 _ (zs_pt.lt r4) (fun w => w.elim))
  have r5 := zs_pt.kept r5 (hk1 _ (zs_pt.lt r5) (fun w => w.elim))
  refine zs_astoreq (lo' := [(5, va_rf os), (0, .ref x), (1, .int y), (2, .int b), (3, .int q), (4, .int w)]) hE dX6_writer_7 (by decide) rfl ?_
  refine zs_aloadq hE 0 dX6_writer_9 rfl ?_
  refine zs_ifnonnull (tgt := 24) hE dX6_writer_11 (by decide) (fun o1 h1 => ?_) (fun h1 => ?_)
  · obtain ⟨rs, ers⟩ : ∃ rs, sp_sh S y b q = some rs := by cases w : sp_sh S y b q with | none => (rw [ho.1 w] at h1; cases h1) | some rs => exact ⟨rs, rfl⟩
    obtain ⟨sa, es, hs⟩ := ho.2 rs ers
    refine zs_lo (lo' := [(5, .ref sa), (0, .ref x), (1, .int y), (2, .int b), (3, .int q), (4, .int w)]) (by rw [es]; rfl) ?_
    obtain ⟨xh, xf, x0, x1, x2, x3⟩ := hs.s0
    refine zs_aload hE 0 dX6_writer_24 rfl ?_
    refine zs_iload hE 5 dX6_writer_26 rfl ?_
    refine zs_callVR (av := [.int w]) (st := []) (b := sa) hE (m_X4_rowAt D E B l sa xh rs.length xf w x0) rfl rfl sV_X6_183 x1 rfl rfl (⟨x1, x2⟩) ⟨by decide, by decide⟩ ⟨by decide, by decide⟩ (Nat.le_of_ble_eq_true rfl) dX6_writer_28 ?_
    refine zs_astoreq (lo' := [(6, va_rf (sp_at w rs.length xf)), (5, .ref sa), (0, .ref x), (1, .int y), (2, .int b), (3, .int q), (4, .int w)]) hE dX6_writer_31 (by decide) rfl ?_
    refine zs_aloadq hE 0 dX6_writer_33 rfl ?_
    refine zs_ifnonnull (tgt := 48) hE dX6_writer_35 (by decide) (fun o2 h2 => ?_) (fun h2 => ?_)
    · obtain ⟨k, ek⟩ : ∃ k, sp_i w rs.length = some k := by cases e : sp_i w rs.length with | none => (rw [sp_at_no e] at h2; cases h2) | some k => exact ⟨k, rfl⟩
      obtain ⟨b2, b2e, b2r⟩ := x3 k (sp_i_lt ek).1
      obtain ⟨⟨y0, y1, y2⟩, y3, yn, y4, y5, y6⟩ := b2r
      refine zs_lo (lo' := [(6, .ref b2), (5, .ref sa), (0, .ref x), (1, .int y), (2, .int b), (3, .int q), (4, .int w)]) (by rw [sp_at_yes ek, b2e]; rfl) ?_
      refine zs_aload hE 0 dX6_writer_48 rfl ?_
      refine zs_get hE fl_X6_197 y5 rfl dX6_writer_50 ?_
      exact zs_iretX hE hr (op_ro hp.1 (by rw [o_writer, ers]; simp only []; rw [ek])) (by decide) (by decide) dX6_writer_53
    · exact zs_throwN hE hl htab th_X6_190_195_194 dX6_writer_38 dX6_writer_41 dX6_writer_42 dX6_writer_44 dX6_writer_47 (by decide) (Nat.le_of_ble_eq_true rfl) (by decide) (by decide) (op_th hp 1 rfl (by rw [o_writer, ers]; simp only []; cases e : sp_i w rs.length with | none => rfl | some k => (obtain ⟨b9, e1, -⟩ := x3 k (sp_i_lt e).1; rw [sp_at_yes e, e1] at h2; cases h2))) (by decide) (by decide)
  · exact zs_throw hE hl htab th_X6_74_102_78 dX6_writer_14 dX6_writer_17 dX6_writer_18 dX6_writer_20 dX6_writer_23 (by decide) (Nat.le_of_ble_eq_true rfl) (by decide) (by decide) (op_th hp 0 rfl (by rw [o_writer]; cases e : sp_sh S y b q with | none => rfl | some rs => (obtain ⟨a, e1, -⟩ := ho.2 rs e; rw [e1] at h1; cases h1))) (by decide) (by decide)


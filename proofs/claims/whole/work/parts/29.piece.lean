/-! piece -/
theorem cs_P.add {D : va_G} {E : Nat → ClassId} {κ κ' : Nat → Nat} {H H1 : Heap} {lp : Nat → Option Nat} {S S' : sp_S} (h : cs_P D E κ H lp S) (h6 : sp_np S ≤ 6) (hk : ∀ q, q < H.size → (κ q = 0 ∨ (100 ≤ κ q ∧ κ q < 200)) → H1[q]? = H[q]?) (hκ : ∀ q, q < H.size → κ' q = κ q) (hn : sp_np S' = sp_np S + 1)
    (ho : ∀ i, i < sp_np S → sp_fi S' i = sp_fi S i ∧ sp_pa S' i = sp_pa S i ∧ ∀ q, sp_ru S' i q = sp_ru S i q) {a r : Nat} (k1 : κ' a = 0) (k2 : κ' r = 100 + sp_np S) (p1 : zs_pt D a (.inr (1, [.int (nI (sp_fi S' (sp_np S))), .int (nI (sp_pa S' (sp_np S))), .ref r])) H1) (p2 : zs_pt D r (.inl (E 1, 4, .inl (fun q => nI (sp_ru S' (sp_np S) q)))) H1) : cs_P D E κ' H1 (va_up lp (sp_np S) (some a)) S' := by
  intro i hi
  rw [hn] at hi
  by_cases e : i = sp_np S
  · subst e; exact ⟨a, r, va_up_self _ _ _, k1, k2, p1, p2⟩
  · obtain ⟨b, t, h1, h2, h3, h4, h5⟩ := h i (by omega)
    obtain ⟨e1, e2, e3⟩ := ho i (by omega)
    rw [e1, e2]
    exact ⟨b, t, by rw [va_up_ne _ _ e]; exact h1, (hκ _ h4.lt).trans h2, (hκ _ h5.lt).trans h3, h4.kept (hk _ h4.lt (Or.inl h2)), (h5.kept (hk _ h5.lt (Or.inr ⟨by omega, by omega⟩))).congA (fun q _ => by rw [e3])⟩
theorem cs_Z.kk {D : va_G} {E : Nat → ClassId} {κ κ' : Nat → Nat} {H H1 : Heap} {lz : Nat → Option Nat} {S S' : sp_S} (h : cs_Z D E κ H lz S) (hk : ∀ q, q < H.size → κ q = 0 → H1[q]? = H[q]?) (hκ : ∀ q, q < H.size → κ' q = κ q) (hs : S'.2.2.2 = S.2.2.2) : cs_Z D E κ' H1 lz S' := by
  have e1 : sp_nz S' = sp_nz S := by unfold sp_nz; rw [hs]
  have e2 : sp_zv S' = sp_zv S := by unfold sp_zv; rw [hs]
  have e3 : sp_zc S' = sp_zc S := by unfold sp_zc; rw [hs]
  have e4 : sp_zs S' = sp_zs S := by unfold sp_zs; rw [hs]
  intro z hz
  rw [e1] at hz
  obtain ⟨a, g, h1, h2, h3, h4, h5⟩ := h z hz
  rw [e2, e3, e4]
  exact ⟨a, g, h1, (hκ _ h4.lt).trans h2, (hκ _ h5.lt).trans h3, h4.kept (hk _ h4.lt h2), h5.kept (hk _ h5.lt h3)⟩
/-- the new hearings, the first n of them -/
def cs_g (D : va_G) (E : Nat → ClassId) (κ : Nat → Nat) (H : Heap) (lh : Nat → Option Nat) (np n : Nat) : Prop := ∀ r, r < n → ∃ a t g : Nat, lh (np * 4 + r) = some a ∧ cs_h D E κ H (np * 4 + r) a t g 0 (fun _ => 0) (fun _ => 0)
theorem cs_h.kk {D : va_G} {E : Nat → ClassId} {κ κ' : Nat → Nat} {H H1 : Heap} {k a t g hv : Nat} {mk ct : Nat → Nat} (h : cs_h D E κ H k a t g hv mk ct) (hκ : ∀ q, q < H.size → κ' q = κ q) (hk : ∀ q, q < H.size → 200 ≤ κ q → H1[q]? = H[q]?) : cs_h D E κ' H1 k a t g hv mk ct := by
  obtain ⟨h1, h2, h3, h4, h5, h6⟩ := h
  exact ⟨(hκ _ h4.lt).trans h1, (hκ _ h5.lt).trans h2, (hκ _ h6.lt).trans h3, h4.kept (hk _ h4.lt (by omega)), h5.kept (hk _ h5.lt (by omega)), h6.kept (hk _ h6.lt (by omega))⟩
theorem sl_pc {S : sp_S} {b q : Nat} (j : Nat) : sp_sl (s_piece S b q) (sp_nv S) j = if j / 4 < b ∧ j % 4 < q then some [(0, [])] else none := by
  have e1 : sp_vp (s_piece S b q) (sp_nv S) = sp_np S := va_up_self _ _ _
  have e2 : sp_sv (s_piece S b q) (sp_nv S) = fun _ => [(0, [])] := va_up_self _ _ _
  have e3 : sp_ba (s_piece S b q) (sp_np S) = b := va_up_self _ _ _
  have e4 : sp_pa (s_piece S b q) (sp_np S) = q := va_up_self _ _ _
  unfold sp_sl
  rw [e1, e2, e3, e4]

set_option maxHeartbeats 4000000 in
set_option maxRecDepth 100000 in
theorem m_X6_piece (D : va_G) (E : Nat → ClassId) (B : Nat) (l : Launch) (hl : l.stackTraces = false) (κ : Nat → Nat) (S : sp_S) (x : Nat) (y z : Int32) : zs_Cx D E B l yX6_piece cX6_piece 6 (some .int) ({ frames := 6, cells := 24, slots := 128, locals := 106 } : Room) [.ref x, .int y, .int z] (fun H => cs_W D E κ S x H) (cs_F κ) (op_Q D E κ x (o_piece S y z)) (op_X D E κ x S (o_piece S y z) ["java/lang/IllegalArgumentException", "java/lang/IllegalStateException"]) := by
  refine zs_cx (by decide) (Nat.le_of_ble_eq_true rfl) (fun p e s m below meth c hE hr htab hp => ?_)
  refine zs_lo (lo' := [(0, .ref x), (1, .int y), (2, .int z)]) rfl ?_
  obtain ⟨hX0, hw⟩ := id hp
  obtain ⟨a1, a2, a3, a4, a5, lp, lv, lh, lz, tg, ⟨t0, t1, t2, t3, t4, t5, hx, r1, r2, r3, r4, r5⟩, htg, hP, hV, hG, hZ, hκ⟩ := hX0
  obtain ⟨wN, wP, wV, wA, wH, wZ, wF⟩ := id hw
  obtain ⟨n6, n40, n12, n8, n99⟩ := id wN
  refine zs_iload_n hE 1 dX6_piece_0 rfl rfl ?_
  refine zs_iconst (v := (nI 1)) hE dX6_piece_1 (by decide) ?_
  refine zs_icmp_lt (tgt := 21) hE dX6_piece_2 (by decide) (fun h1 => ?_) (fun h1 => ?_)
  · exact zs_throw hE hl htab th_X6_37_39_41 dX6_piece_21 dX6_piece_24 dX6_piece_25 dX6_piece_27 dX6_piece_30 (by decide) (Nat.le_of_ble_eq_true rfl) (by decide) (by decide) (op_th hp 0 rfl (by rw [o_piece, pI_t ((Or.inl h1) : y < 1 ∨ 8 < y ∨ z < 1 ∨ 4 < z)])) (by decide) (by decide)
  · refine zs_iload_n hE 1 dX6_piece_5 rfl rfl ?_
    refine zs_bipush (v := (nI 8)) hE dX6_piece_6 (by decide) ?_
    refine zs_icmp_gt (tgt := 21) hE dX6_piece_8 (by decide) (fun h2 => ?_) (fun h2 => ?_)
    · exact zs_throw hE hl htab th_X6_37_39_41 dX6_piece_21 dX6_piece_24 dX6_piece_25 dX6_piece_27 dX6_piece_30 (by decide) (Nat.le_of_ble_eq_true rfl) (by decide) (by decide) (op_th hp 0 rfl (by rw [o_piece, pI_t ((Or.inr (Or.inl h2)) : y < 1 ∨ 8 < y ∨ z < 1 ∨ 4 < z)])) (by decide) (by decide)
    · refine zs_iload_n hE 2 dX6_piece_11 rfl rfl ?_
      refine zs_iconst (v := (nI 1)) hE dX6_piece_12 (by decide) ?_
      refine zs_icmp_lt (tgt := 21) hE dX6_piece_13 (by decide) (fun h3 => ?_) (fun h3 => ?_)
      · exact zs_throw hE hl htab th_X6_37_39_41 dX6_piece_21 dX6_piece_24 dX6_piece_25 dX6_piece_27 dX6_piece_30 (by decide) (Nat.le_of_ble_eq_true rfl) (by decide) (by decide) (op_th hp 0 rfl (by rw [o_piece, pI_t ((Or.inr (Or.inr (Or.inl h3))) : y < 1 ∨ 8 < y ∨ z < 1 ∨ 4 < z)])) (by decide) (by decide)
      · refine zs_iload_n hE 2 dX6_piece_16 rfl rfl ?_
        refine zs_iconst (v := (nI 4)) hE dX6_piece_17 (by decide) ?_
        refine zs_icmp_le (tgt := 31) hE dX6_piece_18 (by decide) (fun h4 => ?_) (fun h4 => ?_)
        · have hno : ¬ (y < 1 ∨ 8 < y ∨ z < 1 ∨ 4 < z) := fun w => by rcases w with w | w | w | w; exact h1 w; exact h2 w; exact h3 w; (rw [Int32.lt_iff_toInt_lt] at w; rw [Int32.le_iff_toInt_le] at h4; have c4 : (nI 4).toInt = 4 := rfl; have c5 : (4 : Int32).toInt = 4 := rfl; omega)
          obtain ⟨b, bl, rfl⟩ := sp_dec (n := 9) (x := y) (by decide) (by rw [Int32.lt_iff_toInt_lt] at h1 ⊢; have c0 : (0 : Int32).toInt = 0 := rfl; have c1 : (nI 1).toInt = 1 := rfl; have c8 : (nI 8).toInt = 8 := rfl; have c9 : (nI 9).toInt = 9 := rfl; have c4 : (nI 4).toInt = 4 := rfl; have c5 : (nI 5).toInt = 5 := rfl; omega) (by rw [Int32.lt_iff_toInt_lt] at h2 ⊢; have c0 : (0 : Int32).toInt = 0 := rfl; have c1 : (nI 1).toInt = 1 := rfl; have c8 : (nI 8).toInt = 8 := rfl; have c9 : (nI 9).toInt = 9 := rfl; have c4 : (nI 4).toInt = 4 := rfl; have c5 : (nI 5).toInt = 5 := rfl; omega)
          obtain ⟨q, ql, rfl⟩ := sp_dec (n := 5) (x := z) (by decide) (by rw [Int32.lt_iff_toInt_lt] at h3 ⊢; have c0 : (0 : Int32).toInt = 0 := rfl; have c1 : (nI 1).toInt = 1 := rfl; have c8 : (nI 8).toInt = 8 := rfl; have c9 : (nI 9).toInt = 9 := rfl; have c4 : (nI 4).toInt = 4 := rfl; have c5 : (nI 5).toInt = 5 := rfl; omega) (by rw [Int32.lt_iff_toInt_lt]; rw [Int32.le_iff_toInt_le] at h4; have c0 : (0 : Int32).toInt = 0 := rfl; have c1 : (nI 1).toInt = 1 := rfl; have c8 : (nI 8).toInt = 8 := rfl; have c9 : (nI 9).toInt = 9 := rfl; have c4 : (nI 4).toInt = 4 := rfl; have c5 : (nI 5).toInt = 5 := rfl; omega)
          refine zs_aload_n hE 0 dX6_piece_31 rfl rfl ?_
          refine zs_get hE fl_X6_44 hx rfl dX6_piece_32 ?_
          refine zs_bipush (v := (nI 6)) hE dX6_piece_35 (by decide) ?_
          refine zs_icmp_geN (tgt := 49) hE (by omega) (by decide) dX6_piece_37 (by decide) (fun h5 => ?_) (fun h5 => ?_)
          · exact zs_throw hE hl htab th_X6_51_53_55 dX6_piece_49 dX6_piece_52 dX6_piece_53 dX6_piece_55 dX6_piece_58 (by decide) (Nat.le_of_ble_eq_true rfl) (by decide) (by decide) (op_th hp 1 rfl (by rw [o_piece, pI_f hno, pI_t (Or.inl h5)])) (by decide) (by decide)
          · refine zs_aload_n hE 0 dX6_piece_40 rfl rfl ?_
            refine zs_get hE fl_X6_48 hx rfl dX6_piece_41 ?_
            refine zs_bipush (v := (nI 40)) hE dX6_piece_44 (by decide) ?_
            refine zs_icmp_ltN (tgt := 59) hE (by omega) (by decide) dX6_piece_46 (by decide) (fun h6 => ?_) (fun h6 => ?_)
            · refine zs_aload_n hE 0 dX6_piece_59 rfl rfl ?_
              refine zs_get hE fl_X6_44 hx rfl dX6_piece_60 ?_
              refine zs_istore_n (lo' := [(3, .int (nI (sp_np S))), (0, .ref x), (1, .int (nI b)), (2, .int (nI q))]) hE dX6_piece_63 rfl (by decide) rfl ?_
              have lx0 := hx.lt
              have la1 := r1.lt
              have la2 := r2.lt
              have la3 := r3.lt
              have la4 := r4.lt
              have la5 := r5.lt
              refine zs_new (fs := [.int 0, .int 0, .long 0, .int 0, .null]) hE nl_X6_15 (fun j hj => by rcases (show j = 0 ∨ j = 1 ∨ j = 2 ∨ j = 3 ∨ j = 4 by omega) with rfl | rfl | rfl | rfl | rfl <;> rfl) (by decide) (by decide) dX6_piece_64 (fun q1 H1 hq1 hp1 hz1 ho1 => ?_)
              refine zs_widen (k' := 1) (n' := 5) (by omega) (by omega) ?_
              have ne2 : x ≠ q1 := by have := zs_pt.lt hx; omega
              have hx := zs_pt.kept hx (ho1 _ (zs_pt.lt hx))
              have ne3 : a1 ≠ q1 := by have := zs_pt.lt r1; omega
              have r1 := zs_pt.kept r1 (ho1 _ (zs_pt.lt r1))
              have ne4 : a2 ≠ q1 := by have := zs_pt.lt r2; omega
              have r2 := zs_pt.kept r2 (ho1 _ (zs_pt.lt r2))
              have ne5 : a3 ≠ q1 := by have := zs_pt.lt r3; omega
              have r3 := zs_pt.kept r3 (ho1 _ (zs_pt.lt r3))
              have ne6 : a4 ≠ q1 := by have := zs_pt.lt r4; omega
              have r4 := zs_pt.kept r4 (ho1 _ (zs_pt.lt r4))
              have ne7 : a5 ≠ q1 := by have := zs_pt.lt r5; omega
              have r5 := zs_pt.kept r5 (ho1 _ (zs_pt.lt r5))
              refine zs_dup hE dX6_piece_67 rfl ?_
              refine zs_aload_n hE 1 dX6_piece_68 rfl rfl ?_
              refine zs_get hE fl_X6_48 hx rfl dX6_piece_69 ?_
              refine zs_iload_n hE 0 dX6_piece_72 rfl rfl ?_
              refine zs_lconst (v := (0 : Int64)) hE dX6_piece_73 (by decide) ?_
              refine zs_iconst (v := (-1)) hE dX6_piece_74 (by decide) ?_
              refine zs_top2 (v' := .long (lN 0)) (rfl) ?_
              refine zs_callI (ret := none) (av := [.int (nI (sp_nv S)), .int (nI (sp_np S)), .long (lN 0), .int (-1)]) (st := [.ref q1]) hE (m_X5_init D E B l q1 (sp_nv S) (sp_np S) 0 (-1) h6) sI_X6_56 (hp1) ⟨by decide, by decide⟩ ⟨by decide, by decide⟩ (fun z w => Or.inr (by omega)) (Nat.le_of_ble_eq_true rfl) dX6_piece_75 (fun v8 H8 hv8 hz8 hk8 => ?_)
              obtain ⟨rfl, nh, nhe, cz, c1⟩ := hv8
              refine zs_widen (k' := 2) (n' := 37) (by decide) (by decide) ?_
              have hx := zs_pt.kept hx (hk8 _ (zs_pt.lt hx) (by omega))
              have r1 := zs_pt.kept r1 (hk8 _ (zs_pt.lt r1) (by omega))
              have r2 := zs_pt.kept r2 (hk8 _ (zs_pt.lt r2) (by omega))
              have r3 := zs_pt.kept r3 (hk8 _ (zs_pt.lt r3) (by omega))
              have r4 := zs_pt.kept r4 (hk8 _ (zs_pt.lt r4) (by omega))
              have r5 := zs_pt.kept r5 (hk8 _ (zs_pt.lt r5) (by omega))
              obtain ⟨c5, c6⟩ := id c1
              have ho1 : ∀ z, z < s.heap.size → H8[z]? = s.heap[z]? := fun z w => (hk8 z (by omega) (fun w2 => by omega)).trans (ho1 z w)
              refine zs_astore (lo' := [(4, .ref q1), (3, .int (nI (sp_np S))), (0, .ref x), (1, .int (nI b)), (2, .int (nI q))]) hE dX6_piece_78 (by decide) rfl ?_
              refine zs_aload hE 0 dX6_piece_80 rfl ?_
              refine zs_iload_n hE 3 dX6_piece_82 rfl rfl ?_
              refine zs_iload_n hE 4 dX6_piece_83 rfl rfl ?_
              refine zs_callV (av := [.int (nI b), .int (nI q)]) (st := []) hE (m_X5_fillEmpty D E B l κ q1 nh (sp_nv S) (sp_np S) (0 ||| 2 ^ sp_nv S) b q (-1) (by omega) (by omega) (by omega)) sV_X6_59 c5 rfl rfl (⟨⟨c5, c6⟩, fun z w => hκ z (by omega)⟩) ⟨by decide, by decide⟩ ⟨by decide, by decide⟩ (fun z w => Or.inr (by omega)) (Nat.le_of_ble_eq_true rfl) dX6_piece_84 (fun v9 H9 hv9 hz9 hk9 => ?_)
              obtain ⟨rfl, f1, d1, d2⟩ := hv9
              refine zs_widen (k' := 6) (n' := 45) (by decide) (by decide) ?_
              have hx := zs_pt.kept hx (hk9 _ (zs_pt.lt hx) (by omega))
              have r1 := zs_pt.kept r1 (hk9 _ (zs_pt.lt r1) (by omega))
              have r2 := zs_pt.kept r2 (hk9 _ (zs_pt.lt r2) (by omega))
              have r3 := zs_pt.kept r3 (hk9 _ (zs_pt.lt r3) (by omega))
              have r4 := zs_pt.kept r4 (hk9 _ (zs_pt.lt r4) (by omega))
              have r5 := zs_pt.kept r5 (hk9 _ (zs_pt.lt r5) (by omega))
              obtain ⟨d5, d6⟩ := id d1
              have ho2 : ∀ z, z < s.heap.size → H9[z]? = s.heap[z]? := fun z w => (hk9 z (by omega) (fun w2 => by omega)).trans (ho1 z w)
              have lN9 := d5.lt
              have lh9 := d6.lt
              refine zs_aload_n hE 2 dX6_piece_87 rfl rfl ?_
              refine zs_get hE fl_X6_11 hx rfl dX6_piece_88 ?_
              refine zs_iload_n hE 1 dX6_piece_91 rfl rfl ?_
              refine zs_new (fs := [.int 0, .int 0, .null]) hE nl_X6_9 (fun j hj => by rcases (show j = 0 ∨ j = 1 ∨ j = 2 by omega) with rfl | rfl | rfl <;> rfl) (by decide) (by decide) dX6_piece_92 (fun q10 H10 hq10 hp10 hz10 ho10 => ?_)
              refine zs_widen (k' := 7) (n' := 48) (by omega) (by omega) ?_
              have ne11 : x ≠ q10 := by have := zs_pt.lt hx; omega
              have hx := zs_pt.kept hx (ho10 _ (zs_pt.lt hx))
              have ne12 : a1 ≠ q10 := by have := zs_pt.lt r1; omega
              have r1 := zs_pt.kept r1 (ho10 _ (zs_pt.lt r1))
              have ne13 : a2 ≠ q10 := by have := zs_pt.lt r2; omega
              have r2 := zs_pt.kept r2 (ho10 _ (zs_pt.lt r2))
              have ne14 : a3 ≠ q10 := by have := zs_pt.lt r3; omega
              have r3 := zs_pt.kept r3 (ho10 _ (zs_pt.lt r3))
              have ne15 : a4 ≠ q10 := by have := zs_pt.lt r4; omega
              have r4 := zs_pt.kept r4 (ho10 _ (zs_pt.lt r4))
              have ne16 : a5 ≠ q10 := by have := zs_pt.lt r5; omega
              have r5 := zs_pt.kept r5 (ho10 _ (zs_pt.lt r5))
              have ne17 : q1 ≠ q10 := by have := zs_pt.lt d5; omega
              have d5 := zs_pt.kept d5 (ho10 _ (zs_pt.lt d5))
              have ne18 : nh ≠ q10 := by have := zs_pt.lt d6; omega
              have d6 := zs_pt.kept d6 (ho10 _ (zs_pt.lt d6))
              refine zs_dup hE dX6_piece_95 rfl ?_
              refine zs_aload_n hE 2 dX6_piece_96 rfl rfl ?_
              refine zs_get hE fl_X6_48 hx rfl dX6_piece_97 ?_
              refine zs_iload_n hE 4 dX6_piece_100 rfl rfl ?_
              refine zs_callI (ret := none) (av := [.int (nI (sp_nv S)), .int (nI q)]) (st := [.ref q10, .int (nI (sp_np S)), .ref a1]) hE (m_X1_init D E B l q10 (sp_nv S) q) sI_X6_63 (hp10) ⟨by decide, by decide⟩ ⟨by decide, by decide⟩ (fun z w => Or.inr (by omega)) (Nat.le_of_ble_eq_true rfl) dX6_piece_101 (fun v19 H19 hv19 hz19 hk19 => ?_)
              obtain ⟨rfl, ra, rae, ez, e1, e2⟩ := hv19
              refine zs_widen (k' := 8) (n' := 52) (by decide) (by decide) ?_
              have hx := zs_pt.kept hx (hk19 _ (zs_pt.lt hx) (by omega))
              have r1 := zs_pt.kept r1 (hk19 _ (zs_pt.lt r1) (by omega))
              have r2 := zs_pt.kept r2 (hk19 _ (zs_pt.lt r2) (by omega))
              have r3 := zs_pt.kept r3 (hk19 _ (zs_pt.lt r3) (by omega))
              have r4 := zs_pt.kept r4 (hk19 _ (zs_pt.lt r4) (by omega))
              have r5 := zs_pt.kept r5 (hk19 _ (zs_pt.lt r5) (by omega))
              have d5 := zs_pt.kept d5 (hk19 _ (zs_pt.lt d5) (by omega))
              have d6 := zs_pt.kept d6 (hk19 _ (zs_pt.lt d6) (by omega))
              refine zs_aast hE r1 rfl e1 rfl (Or.inl (cs_F.i t1 (by decide) (by decide))) (by omega) (by decide) dX6_piece_104 (fun H20 hp20 hz20 ho20 => ?_)
              have hx := zs_pt.kept hx (ho20 _ (cs_ne t0 t1 (by decide)))
              have r2 := zs_pt.kept r2 (ho20 _ (cs_ne t2 t1 (by decide)))
              have r3 := zs_pt.kept r3 (ho20 _ (cs_ne t3 t1 (by decide)))
              have r4 := zs_pt.kept r4 (ho20 _ (cs_ne t4 t1 (by decide)))
              have r5 := zs_pt.kept r5 (ho20 _ (cs_ne t5 t1 (by decide)))
              have d5 := zs_pt.kept d5 (ho20 _ (by omega))
              have d6 := zs_pt.kept d6 (ho20 _ (by omega))
              have e1 := zs_pt.kept e1 (ho20 _ (by omega))
              have e2 := zs_pt.kept e2 (ho20 _ (by omega))
              have ho3 : ∀ z, z < H9.size → z ≠ a1 → H20[z]? = H9[z]? := fun z w w2 => (ho20 z w2).trans ((hk19 z (by omega) (by omega)).trans (ho10 z w))
              refine zs_iconst (v := (nI 0)) hE dX6_piece_105 (by decide) ?_
              refine zs_istore (lo' := [(5, .int (nI 0)), (4, .ref q1), (3, .int (nI (sp_np S))), (0, .ref x), (1, .int (nI b)), (2, .int (nI q))]) hE dX6_piece_106 (by decide) rfl ?_
              have hs3 : ∀ z, z < s.heap.size → κ z ≠ 2 → H20[z]? = s.heap[z]? := fun z w w2 => (ho3 z (by omega) (fun e => w2 (e ▸ t1))).trans (ho2 z w)
              have Bx := hx
              have Ba1 := hp20
              have Ba2 := r2
              have Ba3 := r3
              have Ba4 := r4
              have Ba5 := r5
              have Bq1 := d5
              have Bnh := d6
              have Bq10 := e1
              have Bra := e2
              have szB : H20.size = H9.size + 2 := by omega
              have d5s : zs_pt D q1 _ H9 := d1.1
              have d6s : zs_pt D nh _ H9 := d1.2
              refine zs_sub (lo' := [(5, .int (nI 0)), (0, .ref x), (3, .int (nI (sp_np S))), (4, .ref q1)]) [0, 3, 2, 1] rfl ?_
              refine zs_ind4 (Hs := fun (r : Nat) (K : Heap) (lg : Nat → Option Nat) (kq : Nat → Nat) => K) (ks := fun (r : Nat) (K : Heap) (lg : Nat → Option Nat) (kq : Nat → Nat) => 8 + 3 * r) (ns := fun (r : Nat) (K : Heap) (lg : Nat → Option Nat) (kq : Nat → Nat) => 52 + 13 * r) (los := fun (r : Nat) (K : Heap) (lg : Nat → Option Nat) (kq : Nat → Nat) => [(5, .int (nI r)), (0, .ref x), (3, .int (nI (sp_np S))), (4, .ref q1)]) (I := fun (r : Nat) (K : Heap) (lg : Nat → Option Nat) (kq : Nat → Nat) => r ≤ 4 ∧ K.size = H20.size + 3 * r ∧ (∀ z, z < H20.size → z ≠ a3 → K[z]? = H20[z]?) ∧ zs_pt D a3 (.inl (E 7, 24, .inr (.inr (.inr (.inr lg))))) K ∧ (∀ j, j < sp_np S * 4 ∨ sp_np S * 4 + r ≤ j → lg j = lh j) ∧ (∀ z, z < H20.size → kq z = va_up κ ra (100 + sp_np S) z) ∧ (∀ z, K.size ≤ z → kq z = 0) ∧ cs_g D E kq K lg (sp_np S) r) (μ := fun (r : Nat) (K : Heap) (lg : Nat → Option Nat) (kq : Nat → Nat) => 4 - r) 0 H20 lh (va_up κ ra (100 + sp_np S)) (⟨Nat.zero_le _, rfl, fun _ _ _ => rfl, r3, fun _ _ => rfl, fun _ _ => rfl, fun z w => by rw [va_up_ne _ _ (by omega)]; exact hκ z (by omega), fun u ul => absurd ul (Nat.not_lt_zero _)⟩) (fun r K lg kq hi ih => ?_)
              try dsimp only at hi ih ⊢
              obtain ⟨r4l, kz, ko, k3, kl, kk1, kk2, kg⟩ := hi
              have Cx := Bx.kept (ko _ (Bx).lt (cs_ne t0 t3 (by decide)))
              have Ca1 := Ba1.kept (ko _ (Ba1).lt (cs_ne t1 t3 (by decide)))
              have Ca2 := Ba2.kept (ko _ (Ba2).lt (cs_ne t2 t3 (by decide)))
              have Ca4 := Ba4.kept (ko _ (Ba4).lt (cs_ne t4 t3 (by decide)))
              have Ca5 := Ba5.kept (ko _ (Ba5).lt (cs_ne t5 t3 (by decide)))
              have Cq1 := Bq1.kept (ko _ (Bq1).lt (by omega))
              have Cnh := Bnh.kept (ko _ (Bnh).lt (by omega))
              have Cq10 := Bq10.kept (ko _ (Bq10).lt (by omega))
              have Cra := Bra.kept (ko _ (Bra).lt (by omega))
              refine zs_iload hE 0 dX6_piece_108 rfl ?_
              refine zs_iconst (v := (nI 4)) hE dX6_piece_110 (by decide) ?_
              refine zs_icmp_geN (tgt := 138) hE (by omega) (by decide) dX6_piece_111 (by decide) (fun h7 => ?_) (fun h => ?_)
              · refine zs_widen (k' := 24) (n' := 128) (by omega) (by omega) ?_
                obtain rfl : r = 4 := by omega
                refine zs_aload_n hE 1 dX6_piece_138 rfl rfl ?_
                refine zs_dup hE dX6_piece_139 rfl ?_
                refine zs_get hE fl_X6_44 Cx rfl dX6_piece_140 ?_
                refine zs_iconst (v := (nI 1)) hE dX6_piece_143 (by decide) ?_
                refine zs_iaddN hE dX6_piece_144 ?_
                refine zs_put (v := .int (nI (sp_np S + 1))) hE fl_X6_44 Cx (Or.inl (cs_F.i t0 (by decide) (by decide))) (rfl) (rfl) (Nat.le_of_ble_eq_true rfl) dX6_piece_145 (fun H21 hp21 hz21 ho21 => ?_)
                have Ca1 := zs_pt.kept Ca1 (ho21 _ (cs_ne t1 t0 (by decide)))
                have Ca2 := zs_pt.kept Ca2 (ho21 _ (cs_ne t2 t0 (by decide)))
                have Ca4 := zs_pt.kept Ca4 (ho21 _ (cs_ne t4 t0 (by decide)))
                have Ca5 := zs_pt.kept Ca5 (ho21 _ (cs_ne t5 t0 (by decide)))
                have Cq1 := zs_pt.kept Cq1 (ho21 _ (show _ ≠ x by omega))
                have Cnh := zs_pt.kept Cnh (ho21 _ (show _ ≠ x by omega))
                have Cq10 := zs_pt.kept Cq10 (ho21 _ (show _ ≠ x by omega))
                have Cra := zs_pt.kept Cra (ho21 _ (show _ ≠ x by omega))
                have k3 := zs_pt.kept k3 (ho21 _ (cs_ne t3 t0 (by decide)))
                have hp21 : zs_pt D x (.inr (6, [.ref a1, .int (nI (sp_np S + 1)), .ref a2, .int (nI (sp_nv S)), .ref a3, .ref a4, .int (nI (sp_nz S)), .ref a5, .int (nI ((sp_ty S).length))])) H21 := hp21
                refine zs_aload_n hE 1 dX6_piece_148 rfl rfl ?_
                refine zs_aload hE 3 dX6_piece_149 rfl ?_
                refine zs_callV (av := [.ref q1]) (st := []) hE (m_X6_keep D E B l x a2 q1 (sp_nv S) lv _ (.ref a1) (.int (nI (sp_np S + 1))) (.ref a3) (.ref a4) (.int (nI (sp_nz S))) (.ref a5) (.int (nI (sp_ty S).length)) h6 (cs_ne t0 t2 (by decide))) sV_X6_66 hp21 rfl rfl (⟨hp21, Ca2, Cq1⟩) ⟨by decide, by decide⟩ ⟨by decide, by decide⟩ (fun z w => Or.inl (by rcases w with rfl | rfl; exact cs_F.i t0 (by decide) (by decide); exact cs_F.i t2 (by decide) (by decide))) (Nat.le_of_ble_eq_true rfl) dX6_piece_151 (fun v22 H22 hv22 hz22 hk22 => ?_)
                obtain ⟨rfl, fz, kx, ka⟩ := hv22
                refine zs_widen (k' := 24) (n' := 128) (by decide) (by decide) ?_
                have Ca1 := zs_pt.kept Ca1 (hk22 _ (zs_pt.lt Ca1) (fun w => by rcases w with w | w; exact (cs_ne t1 t0 (by decide)) w; exact (cs_ne t1 t2 (by decide)) w))
                have Ca4 := zs_pt.kept Ca4 (hk22 _ (zs_pt.lt Ca4) (fun w => by rcases w with w | w; exact (cs_ne t4 t0 (by decide)) w; exact (cs_ne t4 t2 (by decide)) w))
                have Ca5 := zs_pt.kept Ca5 (hk22 _ (zs_pt.lt Ca5) (fun w => by rcases w with w | w; exact (cs_ne t5 t0 (by decide)) w; exact (cs_ne t5 t2 (by decide)) w))
                have Cq1 := zs_pt.kept Cq1 (hk22 _ (zs_pt.lt Cq1) (fun w => by rcases w with w | w; exact (show _ ≠ x by omega) w; exact (show _ ≠ a2 by omega) w))
                have Cnh := zs_pt.kept Cnh (hk22 _ (zs_pt.lt Cnh) (fun w => by rcases w with w | w; exact (show _ ≠ x by omega) w; exact (show _ ≠ a2 by omega) w))
                have Cq10 := zs_pt.kept Cq10 (hk22 _ (zs_pt.lt Cq10) (fun w => by rcases w with w | w; exact (show _ ≠ x by omega) w; exact (show _ ≠ a2 by omega) w))
                have Cra := zs_pt.kept Cra (hk22 _ (zs_pt.lt Cra) (fun w => by rcases w with w | w; exact (show _ ≠ x by omega) w; exact (show _ ≠ a2 by omega) w))
                have k3 := zs_pt.kept k3 (hk22 _ (zs_pt.lt k3) (fun w => by rcases w with w | w; exact (cs_ne t3 t0 (by decide)) w; exact (cs_ne t3 t2 (by decide)) w))
                have hkK : ∀ z, z < K.size → z ≠ x → z ≠ a2 → H22[z]? = K[z]? := fun z w w0 w2 => (hk22 z (by omega) (fun w3 => by rcases w3 with w3 | w3; exact w0 w3; exact w2 w3)).trans (ho21 z w0)
                have hk : ∀ z, z < s.heap.size → κ z ≠ 1 → κ z ≠ 2 → κ z ≠ 3 → κ z ≠ 4 → H22[z]? = s.heap[z]? := fun z w w0 w1 w2 w3 => (hkK z (by omega) (fun e => w0 (e ▸ t0)) (fun e => w2 (e ▸ t2))).trans ((ko z (by omega) (fun e => w3 (e ▸ t3))).trans (hs3 z w w1))
                have kq0 : ∀ z, z < s.heap.size → kq z = κ z := fun z w => by rw [kk1 z (by omega), va_up_ne _ _ (by omega)]
                have kq9 : ∀ z, s.heap.size ≤ z → z < H20.size → z ≠ ra → kq z = 0 := fun z w w2 w3 => by rw [kk1 z w2, va_up_ne _ _ w3]; exact hκ z w
                have kqz : ∀ z, z < H9.size → κ z = 0 → kq z = 0 := fun z w w2 => by rw [kk1 z (by omega), va_up_ne _ _ (by omega)]; exact w2
                have kpz : ∀ z, z < H9.size → κ z = 0 → H22[z]? = H9[z]? := fun z w w2 => (hkK z (by omega) (cs_ne w2 t0 (by decide)) (cs_ne w2 t2 (by decide))).trans ((ko z (by omega) (cs_ne w2 t3 (by decide))).trans (ho3 z w (cs_ne w2 t1 (by decide))))
                have v8 : cs_ver D E κ H9 q1 (sp_nv S) (sp_np S) (0 ||| 2 ^ sp_nv S) (-1) (fun j => if j / 4 < b ∧ j % 4 < q then some [(0, [])] else none) := ⟨hκ _ (by omega), h6, by omega, by rw [Nat.zero_or]; exact Nat.pow_lt_pow_right (by decide) h6, nh, f1, hκ _ (by omega), ⟨d5s, d6s⟩, d2⟩
                have nv9 : cs_ver D E kq H22 q1 (sp_nv S) (sp_vp (s_piece S b q) (sp_nv S)) (sp_am (s_piece S b q) (sp_nv S)) (sp_wfr (s_piece S b q) (sp_nv S)) (sp_sl (s_piece S b q) (sp_nv S)) := by
                                  have e1 : sp_vp (s_piece S b q) (sp_nv S) = sp_np S := va_up_self _ _ _
                                  have e2 : sp_am (s_piece S b q) (sp_nv S) = 2 ^ sp_nv S := va_up_self _ _ _
                                  have e3 : sp_wfr (s_piece S b q) (sp_nv S) = -1 := by
                                    have e4 : sp_q2 (s_piece S b q) (sp_nv S) = 0 := va_up_self _ _ _
                                    have e5 : sp_q1 (s_piece S b q) (sp_nv S) = 0 := va_up_self _ _ _
                                    rw [sp_wfr, e4, e5, if_pos rfl]; rfl
                                  have e6 : sp_sl (s_piece S b q) (sp_nv S) = fun j => if j / 4 < b ∧ j % 4 < q then some [(0, [])] else none := funext fun j => sl_pc j
                                  rw [e1, e2, e3, e6]
                                  have := v8.kk kpz kqz
                                  rw [Nat.zero_or] at this
                                  exact this
                refine zs_iload_n hE 2 dX6_piece_154 rfl rfl ?_
                have hGn : cs_G D E kq H22 lg (s_piece S b q) := by
                                  refine ⟨fun k w1 w2 => ?_, fun k w1 => ?_⟩
                                  · have w1 : 4 * (sp_np S + 1) ≤ k := w1
                                    rw [kl k (Or.inr (by omega))]; exact hG.1 k (by omega) w2
                                  · have w1 : k < 4 * (sp_np S + 1) := w1
                                    by_cases w3 : k < 4 * sp_np S
                                    · obtain ⟨a9, t9, g9, u1, u2⟩ := hG.2 k w3
                                      exact ⟨a9, t9, g9, by rw [kl k (Or.inl (by omega))]; exact u1, u2.kk kq0 (fun z z1 z2 => hk z z1 (by omega) (by omega) (by omega) (by omega))⟩
                                    · obtain ⟨a9, t9, g9, u1, u2⟩ := kg (k - sp_np S * 4) (by omega)
                                      rw [show sp_np S * 4 + (k - sp_np S * 4) = k by omega] at u1 u2
                                      have i9 : k / 4 = sp_np S := by omega
                                      have m0 : sp_mk S (k / 4) (k % 4) = fun _ => 0 := funext fun j => sp_mk0 wH _ _ (by omega)
                                      have c0 : sp_ct S (k / 4) (k % 4) = fun _ => 0 := funext fun j => sp_ct0 wH _ _ (by omega)
                                      have h0 : sp_hv S (k / 4) (k % 4) = 0 := (wH _ _).2.2.2 (by omega)
                                      refine ⟨a9, t9, g9, u1, ?_⟩
                                      show cs_h D E kq _ k a9 t9 g9 (sp_hv S (k / 4) (k % 4)) (sp_mk S (k / 4) (k % 4)) (sp_ct S (k / 4) (k % 4))
                                      rw [m0, c0, h0]
                                      obtain ⟨s1, s2, s3, s4, s5, s6⟩ := u2
                                      have bx := kq0 x lx0
                                      have ba := kq0 a2 la2
                                      exact ⟨s1, s2, s3, s4.kept (hkK _ s4.lt (fun e => by rw [e] at s1; omega) (fun e => by rw [e] at s1; omega)), s5.kept (hkK _ s5.lt (fun e => by rw [e] at s2; omega) (fun e => by rw [e] at s2; omega)), s6.kept (hkK _ s6.lt (fun e => by rw [e] at s3; omega) (fun e => by rw [e] at s3; omega))⟩
                exact zs_iretX hE hr (op_mk (S' := s_piece S b q) (by rw [o_piece, pI_f hno, pI_f (by omega), sp_n_nI (by omega), sp_n_nI (by omega)]) ⟨by omega, kq, ⟨a1, a2, a3, a4, a5, va_up lp (sp_np S) (some q10), va_up lv (sp_nv S) (some q1), lg, lz, tg, ⟨(kq0 _ lx0).trans t0, (kq0 _ la1).trans t1, (kq0 _ la2).trans t2, (kq0 _ la3).trans t3, (kq0 _ la4).trans t4, (kq0 _ la5).trans t5, kx, Ca1, ka, k3, Ca4, Ca5⟩, htg, cs_P.add (S' := s_piece S b q) hP n6 (fun z w w2 => hk z w (by omega) (by omega) (by omega) (by omega)) kq0 rfl (fun i il => ⟨va_up_ne _ _ (by omega), va_up_ne _ _ (by omega), fun k => if_neg (by omega)⟩) (kq9 q10 (by omega) (by omega) (by omega)) (by rw [kk1 _ (by omega), va_up_self]) (by rw [show sp_fi (s_piece S b q) (sp_np S) = sp_nv S from va_up_self _ _ _, show sp_pa (s_piece S b q) (sp_np S) = q from va_up_self _ _ _]; exact Cq10) (Cra.congA (fun k _ => by rw [show sp_ru (s_piece S b q) (sp_np S) k = 98 from if_pos rfl])), cs_V.add (S' := s_piece S b q) hV (fun z w w2 => hk z w (by omega) (by omega) (by omega) (by omega)) (fun z w w2 => (kq0 z w).trans w2) rfl (fun u ul => ⟨va_up_ne _ _ (by omega), va_up_ne _ _ (by omega), by rw [sp_wfr, sp_wfr, show sp_q2 (s_piece S b q) u = sp_q2 S u from va_up_ne _ _ (by omega), show sp_q1 (s_piece S b q) u = sp_q1 S u from va_up_ne _ _ (by omega)], sl_eq (S' := s_piece S b q) (va_up_ne _ _ (by omega)) (va_up_ne _ _ (by have := (wV u ul).1; omega)) (va_up_ne _ _ (by have := (wV u ul).1; omega)) (va_up_ne _ _ (by omega))⟩) nv9, hGn, hZ.kk (fun z w w2 => hk z w (by omega) (by omega) (by omega) (by omega)) kq0 rfl, fun z w => kk2 z (by omega)⟩, kq0⟩) (by decide) (by decide) dX6_piece_155
              · refine zs_aload_n hE 1 dX6_piece_114 rfl rfl ?_
                refine zs_get hE fl_X6_23 Cx rfl dX6_piece_115 ?_
                refine zs_iload_n hE 2 dX6_piece_118 rfl rfl ?_
                refine zs_iconst (v := (nI 4)) hE dX6_piece_119 (by decide) ?_
                refine zs_imulN hE dX6_piece_120 ?_
                refine zs_iload hE 0 dX6_piece_121 rfl ?_
                refine zs_iaddN hE dX6_piece_123 ?_
                refine zs_new (fs := [.int 0, .null, .null]) hE nl_X6_21 (fun j hj => by rcases (show j = 0 ∨ j = 1 ∨ j = 2 by omega) with rfl | rfl | rfl <;> rfl) (by show 8 + 3 * r + 1 ≤ 24; omega) (by show 52 + 13 * r + 3 ≤ 128; omega) dX6_piece_124 (fun q23 H23 hq23 hp23 hz23 ho23 => ?_)
                refine zs_widen (k' := 8 + 3 * r + 1) (n' := 52 + 13 * r + 3) (by omega) (by omega) ?_
                have ne24 : x ≠ q23 := by have := zs_pt.lt Cx; omega
                have Cx := zs_pt.kept Cx (ho23 _ (zs_pt.lt Cx))
                have ne25 : a1 ≠ q23 := by have := zs_pt.lt Ca1; omega
                have Ca1 := zs_pt.kept Ca1 (ho23 _ (zs_pt.lt Ca1))
                have ne26 : a2 ≠ q23 := by have := zs_pt.lt Ca2; omega
                have Ca2 := zs_pt.kept Ca2 (ho23 _ (zs_pt.lt Ca2))
                have ne27 : a4 ≠ q23 := by have := zs_pt.lt Ca4; omega
                have Ca4 := zs_pt.kept Ca4 (ho23 _ (zs_pt.lt Ca4))
                have ne28 : a5 ≠ q23 := by have := zs_pt.lt Ca5; omega
                have Ca5 := zs_pt.kept Ca5 (ho23 _ (zs_pt.lt Ca5))
                have ne29 : q1 ≠ q23 := by have := zs_pt.lt Cq1; omega
                have Cq1 := zs_pt.kept Cq1 (ho23 _ (zs_pt.lt Cq1))
                have ne30 : nh ≠ q23 := by have := zs_pt.lt Cnh; omega
                have Cnh := zs_pt.kept Cnh (ho23 _ (zs_pt.lt Cnh))
                have ne31 : q10 ≠ q23 := by have := zs_pt.lt Cq10; omega
                have Cq10 := zs_pt.kept Cq10 (ho23 _ (zs_pt.lt Cq10))
                have ne32 : ra ≠ q23 := by have := zs_pt.lt Cra; omega
                have Cra := zs_pt.kept Cra (ho23 _ (zs_pt.lt Cra))
                have ne33 : a3 ≠ q23 := by have := zs_pt.lt k3; omega
                have k3 := zs_pt.kept k3 (ho23 _ (zs_pt.lt k3))
                refine zs_dup hE dX6_piece_127 rfl ?_
                refine zs_callI (ret := none) (av := []) (st := [.ref q23, .int (nI ((sp_np S) * 4 + r)), .ref a3]) hE (m_X0_init D E B l q23) sI_X6_65 (hp23) ⟨by decide, by decide⟩ ⟨show 8 + 3 * r + 1 + 2 ≤ 24 by omega, show 52 + 13 * r + 3 + 10 ≤ 128 by omega⟩ (fun z w => Or.inr (by omega)) (Nat.le_of_ble_eq_true rfl) dX6_piece_128 (fun v34 H34 hv34 hz34 hk34 => ?_)
                obtain ⟨rfl, ta, ga, tae, gae, fz, f2, f3, f4⟩ := hv34
                refine zs_widen (k' := 8 + 3 * r + 1 + 2) (n' := 52 + 13 * r + 3 + 10) (show 8 + 3 * r + 1 + 2 ≤ 8 + 3 * r + 1 + 2 by omega) (show 52 + 13 * r + 3 + 10 ≤ 52 + 13 * r + 3 + 10 by omega) ?_
                have k3 := zs_pt.kept k3 (hk34 _ (zs_pt.lt k3) (by have := la3; omega))
                refine zs_aast hE k3 rfl f2 rfl (Or.inl (cs_F.i t3 (by decide) (by decide))) (show sp_np S * 4 + r < 24 by omega) (by decide) dX6_piece_131 (fun H35 hp35 hz35 ho35 => ?_)
                have f2 := zs_pt.kept f2 (ho35 _ (show _ ≠ a3 by omega))
                have f3 := zs_pt.kept f3 (ho35 _ (show _ ≠ a3 by omega))
                have f4 := zs_pt.kept f4 (ho35 _ (show _ ≠ a3 by omega))
                refine zs_iincN (lo' := [(5, .int (nI (r + 1))), (0, .ref x), (3, .int (nI (sp_np S))), (4, .ref q1)]) hE 0 dX6_piece_132 rfl (by decide) rfl ?_
                refine zs_goto (tgt := 108) hE dX6_piece_135 (by decide) ?_
                refine zs_widen (k' := 8 + 3 * (r + 1)) (n' := 52 + 13 * (r + 1)) (by omega) (by omega) ?_
                have kqu : ∀ z, z < K.size → (va_up (va_up (va_up kq q23 (200 + (sp_np S * 4 + r))) ta (300 + (sp_np S * 4 + r))) ga (400 + (sp_np S * 4 + r))) z = kq z := fun z w => by rw [va_up_ne _ _ (by omega), va_up_ne _ _ (by omega), va_up_ne _ _ (by omega)]
                have up9 : ∀ z, z < K.size → z ≠ a3 → H35[z]? = K[z]? := fun z w w2 => (ho35 z w2).trans ((hk34 z (by omega) (by omega)).trans (ho23 z w))
                refine zs_sub (lo' := [(5, .int (nI (r + 1))), (0, .ref x), (3, .int (nI (sp_np S))), (4, .ref q1)]) [0, 1, 2, 3] rfl ?_
                exact ih (r + 1) H35 (va_up lg (sp_np S * 4 + r) (some q23)) (va_up (va_up (va_up kq q23 (200 + (sp_np S * 4 + r))) ta (300 + (sp_np S * 4 + r))) ga (400 + (sp_np S * 4 + r))) (⟨by omega, by omega, fun z w w2 => (up9 z (by omega) w2).trans (ko z w w2), hp35, fun j w => by rw [va_up_ne _ _ (by omega)]; exact kl j (by omega), fun z w => (kqu z (by omega)).trans (kk1 z w), fun z w => by rw [va_up_ne _ _ (by omega), va_up_ne _ _ (by omega), va_up_ne _ _ (by omega)]; exact kk2 z (by omega), fun u ul => by
                                  by_cases e9 : u = r
                                  · subst e9
                                    exact ⟨q23, ta, ga, va_up_self _ _ _, by rw [va_up_ne _ _ (by omega), va_up_ne _ _ (by omega), va_up_self], by rw [va_up_ne _ _ (by omega), va_up_self], va_up_self _ _ _, f2, f3, f4⟩
                                  · obtain ⟨a9, t9, g9, u1, u2⟩ := kg u (by omega)
                                    have b3 := kk1 a3 (by omega)
                                    rw [va_up_ne _ _ (by omega), t3] at b3
                                    exact ⟨a9, t9, g9, by rw [va_up_ne _ _ (by omega)]; exact u1, u2.kk kqu (fun z w w2 => up9 z w (fun e => by rw [e] at w2; omega))⟩⟩) (by omega)
            · exact zs_throw hE hl htab th_X6_51_53_55 dX6_piece_49 dX6_piece_52 dX6_piece_53 dX6_piece_55 dX6_piece_58 (by decide) (Nat.le_of_ble_eq_true rfl) (by decide) (by decide) (op_th hp 1 rfl (by rw [o_piece, pI_f hno, pI_t (Or.inr (by omega))])) (by decide) (by decide)
        · exact zs_throw hE hl htab th_X6_37_39_41 dX6_piece_21 dX6_piece_24 dX6_piece_25 dX6_piece_27 dX6_piece_30 (by decide) (Nat.le_of_ble_eq_true rfl) (by decide) (by decide) (op_th hp 0 rfl (by rw [o_piece, pI_t ((Or.inr (Or.inr (Or.inr (sp_le_lt h4)))) : y < 1 ∨ 8 < y ∨ z < 1 ∨ 4 < z)])) (by decide) (by decide)


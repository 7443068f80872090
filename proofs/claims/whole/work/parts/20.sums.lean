/-! sums over the hearings; the bases; soundness -/
def sp_mt (S : sp_S) : Nat := sm (fun k => sc_n (sp_mk S (k / 4) (k % 4)) 5) 24
def sp_mc (S : sp_S) : Nat := sm (fun k => sc_n (sp_ct S (k / 4) (k % 4)) 5) 24
def sp_ms (S : sp_S) : Nat := sm (fun k => sc_s (sp_ct S (k / 4) (k % 4)) 5) 24
theorem sp_mkb {S : sp_S} (h : sw_H S) (i r : Nat) : ∀ j, j < 5 → sp_mk S i r j ≤ 21 := fun j _ => ((h i r).1 j).1
theorem sp_mk0 {S : sp_S} (h : sw_H S) {i : Nat} (r j : Nat) (hi : sp_np S ≤ i) : sp_mk S i r j = 0 := ((h i r).1 j).2.2.2 hi
theorem sp_ct0 {S : sp_S} (h : sw_H S) {i : Nat} (r j : Nat) (hi : sp_np S ≤ i) : sp_ct S i r j = 0 := by
  have h1 := ((h i r).1 j).2.1
  have h2 := sp_mk0 h r j hi
  omega
theorem sc_n00 {g : Nat → Nat} (h : ∀ j, g j = 0) (n : Nat) : sc_n g n = 0 := sm_zero (fun j _ => by rw [if_pos (h j)])
theorem sc_s00 {g : Nat → Nat} (h : ∀ j, g j = 0) (n : Nat) : sc_s g n = 0 := sm_zero (fun j _ => by rw [h j])

set_option maxHeartbeats 4000000 in
set_option maxRecDepth 100000 in
theorem m_X6_marksTold (D : va_G) (E : Nat → ClassId) (B : Nat) (l : Launch) (κ : Nat → Nat) (S : sp_S) (x : Nat) : zs_Ct D E B l yX6_marksTold cX6_marksTold 4 (some .int) ({ frames := 1, cells := 0, slots := 0, locals := 25 } : Room) [.ref x] (fun H => cs_W D E κ S x H) (zs_N) (zs_ro (.int (nI (sp_mt S)))) := by
  refine zs_ct (by decide) (Nat.le_of_ble_eq_true rfl) (fun p e s m below meth c hE hr hin hp => ?_)
  refine zs_lo (lo' := [(0, .ref x)]) rfl ?_
  obtain ⟨hX0, hw⟩ := id hp
  obtain ⟨a1, a2, a3, a4, a5, lp, lv, lh, lz, tg, ⟨t0, t1, t2, t3, t4, t5, hx, r1, r2, r3, r4, r5⟩, htg, hP, hV, hG, hZ, hκ⟩ := hX0
  obtain ⟨wN, wP, wV, wA, wH, wZ, wF⟩ := id hw
  obtain ⟨n6, n40, n12, n8, n99⟩ := id wN
  refine zs_iconst (v := (nI 0)) hE dX6_marksTold_0 (by decide) ?_
  refine zs_istore_n (lo' := [(1, .int (nI 0)), (0, .ref x)]) hE dX6_marksTold_1 rfl (by decide) rfl ?_
  refine zs_iconst (v := (nI 0)) hE dX6_marksTold_2 (by decide) ?_
  refine zs_istore_n (lo' := [(2, .int (nI 0)), (1, .int (nI 0)), (0, .ref x)]) hE dX6_marksTold_3 rfl (by decide) rfl ?_
  refine zs_sub (lo' := [(2, .int (nI 0)), (1, .int (nI 0)), (0, .ref x)]) [0, 1, 2] rfl ?_
  refine zs_ind1 (Hs := fun (k : Nat) => s.heap) (ks := fun (k : Nat) => 0) (ns := fun (k : Nat) => 0) (los := fun (k : Nat) => [(2, .int (nI k)), (1, .int (nI (sm (fun k => sc_n (sp_mk S (k / 4) (k % 4)) 5) (k)))), (0, .ref x)]) (I := fun (k : Nat) => k ≤ 24) (μ := fun (k : Nat) => 24 - k) 0 (Nat.zero_le _) (fun k hi ih => ?_)
  try dsimp only at hi ih ⊢
  refine zs_iload_n hE 0 dX6_marksTold_4 rfl rfl ?_
  refine zs_aload_n hE 2 dX6_marksTold_5 rfl rfl ?_
  refine zs_get hE fl_X6_23 hx rfl dX6_marksTold_6 ?_
  refine zs_alen hE r3 rfl dX6_marksTold_9 ?_
  refine zs_icmp_geN (tgt := 40) hE (by omega) (by decide) dX6_marksTold_10 (by decide) (fun h7 => ?_) (fun h => ?_)
  · obtain rfl : k = 24 := by omega
    refine zs_iload_n hE 1 dX6_marksTold_40 rfl rfl ?_
    exact zs_iret hE hr (⟨rfl, rfl⟩) (by decide) (by decide) dX6_marksTold_41
  · refine zs_aload_n hE 2 dX6_marksTold_13 rfl rfl ?_
    refine zs_get hE fl_X6_23 hx rfl dX6_marksTold_14 ?_
    refine zs_iload_n hE 0 dX6_marksTold_17 rfl rfl ?_
    refine zs_aald hE r3 rfl (by omega) (by decide) dX6_marksTold_18 ?_
    refine zs_astore_nq (lo' := [(3, va_rf (lh k)), (2, .int (nI k)), (1, .int (nI (sm (fun k => sc_n (sp_mk S (k / 4) (k % 4)) 5) (k)))), (0, .ref x)]) hE dX6_marksTold_19 rfl (by decide) rfl ?_
    refine zs_aload_nq hE 0 dX6_marksTold_20 rfl rfl ?_
    refine zs_ifnull (tgt := 34) hE dX6_marksTold_21 (by decide) (fun h5 => ?_) (fun o5 h5 => ?_)
    · have hk4 : sp_np S ≤ k / 4 := by apply Classical.byContradiction; intro w; obtain ⟨q, -, -, e, -⟩ := hG.2 k (by omega); rw [h5] at e; cases e
      refine zs_iincN (lo' := [(2, .int (nI (k + 1))), (3, va_rf (lh k)), (1, .int (nI (sm (fun k => sc_n (sp_mk S (k / 4) (k % 4)) 5) (k)))), (0, .ref x)]) hE 1 dX6_marksTold_34 rfl (by decide) rfl ?_
      refine zs_goto (tgt := 4) hE dX6_marksTold_37 (by decide) ?_
      refine zs_sub (lo' := [(2, .int (nI (k + 1))), (1, .int (nI (sm (fun k => sc_n (sp_mk S (k / 4) (k % 4)) 5) (k)))), (0, .ref x)]) [0, 2, 3] rfl ?_
      refine zs_lo (lo' := [(2, .int (nI (k + 1))), (1, .int (nI (sm (fun k => sc_n (sp_mk S (k / 4) (k % 4)) 5) (k + 1)))), (0, .ref x)]) (by rw [show sm (fun k => sc_n (sp_mk S (k / 4) (k % 4)) 5) (k + 1) = sm (fun k => sc_n (sp_mk S (k / 4) (k % 4)) 5) k + (fun k => sc_n (sp_mk S (k / 4) (k % 4)) 5) k from rfl]; simp only []; rw [sc_n00 (sp_mk0 wH _ · hk4)]; rfl) ?_
      refine zs_sub (lo' := [(2, .int (nI (k + 1))), (1, .int (nI (sm (fun k => sc_n (sp_mk S (k / 4) (k % 4)) 5) (k + 1)))), (0, .ref x)]) [0, 1, 2] rfl ?_
      exact ih (k + 1) (by omega) (by omega)
    · have hk4 : k < 4 * sp_np S := by apply Classical.byContradiction; intro w; rw [hG.1 k (by omega) h] at h5; cases h5
      obtain ⟨ha, ht, hg, hl, ⟨-, -, -, hb, hc, hd⟩⟩ := hG.2 k hk4
      refine zs_lo (lo' := [(3, .ref ha), (2, .int (nI k)), (1, .int (nI (sm (fun k => sc_n (sp_mk S (k / 4) (k % 4)) 5) (k)))), (0, .ref x)]) (by rw [hl]; rfl) ?_
      refine zs_iload_n hE 2 dX6_marksTold_24 rfl rfl ?_
      refine zs_aload_n hE 0 dX6_marksTold_25 rfl rfl ?_
      refine zs_get hE fl_X6_230 hb rfl dX6_marksTold_26 ?_
      refine zs_callSR (av := [.ref ht]) (st := [.int (nI (sm (fun k => sc_n (sp_mk S (k / 4) (k % 4)) 5) (k)))]) hE (m_X6_countOf D E B l ht (sp_mk S (k / 4) (k % 4)) (sp_mkb wH _ _)) rfl rfl sS_X6_321 (hc) ⟨by decide, by decide⟩ ⟨by decide, by decide⟩ (Nat.le_of_ble_eq_true rfl) dX6_marksTold_29 ?_
      refine zs_iaddN hE dX6_marksTold_32 ?_
      refine zs_istore_n (lo' := [(1, .int (nI (sm (fun k => sc_n (sp_mk S (k / 4) (k % 4)) 5) (k) + (sc_n (sp_mk S (k / 4) (k % 4)) 5)))), (3, .ref ha), (2, .int (nI k)), (0, .ref x)]) hE dX6_marksTold_33 rfl (by decide) rfl ?_
      refine zs_iincN (lo' := [(2, .int (nI (k + 1))), (1, .int (nI (sm (fun k => sc_n (sp_mk S (k / 4) (k % 4)) 5) (k) + (sc_n (sp_mk S (k / 4) (k % 4)) 5)))), (3, .ref ha), (0, .ref x)]) hE 2 dX6_marksTold_34 rfl (by decide) rfl ?_
      refine zs_goto (tgt := 4) hE dX6_marksTold_37 (by decide) ?_
      refine zs_sub (lo' := [(2, .int (nI (k + 1))), (1, .int (nI (sm (fun k => sc_n (sp_mk S (k / 4) (k % 4)) 5) (k) + (sc_n (sp_mk S (k / 4) (k % 4)) 5)))), (0, .ref x)]) [0, 1, 3] rfl ?_
      exact ih (k + 1) (by omega) (by omega)

set_option maxHeartbeats 4000000 in
set_option maxRecDepth 100000 in
theorem m_X6_marksCounted (D : va_G) (E : Nat → ClassId) (B : Nat) (l : Launch) (κ : Nat → Nat) (S : sp_S) (x : Nat) : zs_Ct D E B l yX6_marksCounted cX6_marksCounted 4 (some .int) ({ frames := 1, cells := 0, slots := 0, locals := 25 } : Room) [.ref x] (fun H => cs_W D E κ S x H) (zs_N) (zs_ro (.int (nI (sp_mc S)))) := by
  refine zs_ct (by decide) (Nat.le_of_ble_eq_true rfl) (fun p e s m below meth c hE hr hin hp => ?_)
  refine zs_lo (lo' := [(0, .ref x)]) rfl ?_
  obtain ⟨hX0, hw⟩ := id hp
  obtain ⟨a1, a2, a3, a4, a5, lp, lv, lh, lz, tg, ⟨t0, t1, t2, t3, t4, t5, hx, r1, r2, r3, r4, r5⟩, htg, hP, hV, hG, hZ, hκ⟩ := hX0
  obtain ⟨wN, wP, wV, wA, wH, wZ, wF⟩ := id hw
  obtain ⟨n6, n40, n12, n8, n99⟩ := id wN
  refine zs_iconst (v := (nI 0)) hE dX6_marksCounted_0 (by decide) ?_
  refine zs_istore_n (lo' := [(1, .int (nI 0)), (0, .ref x)]) hE dX6_marksCounted_1 rfl (by decide) rfl ?_
  refine zs_iconst (v := (nI 0)) hE dX6_marksCounted_2 (by decide) ?_
  refine zs_istore_n (lo' := [(2, .int (nI 0)), (1, .int (nI 0)), (0, .ref x)]) hE dX6_marksCounted_3 rfl (by decide) rfl ?_
  refine zs_sub (lo' := [(2, .int (nI 0)), (1, .int (nI 0)), (0, .ref x)]) [0, 1, 2] rfl ?_
  refine zs_ind1 (Hs := fun (k : Nat) => s.heap) (ks := fun (k : Nat) => 0) (ns := fun (k : Nat) => 0) (los := fun (k : Nat) => [(2, .int (nI k)), (1, .int (nI (sm (fun k => sc_n (sp_ct S (k / 4) (k % 4)) 5) (k)))), (0, .ref x)]) (I := fun (k : Nat) => k ≤ 24) (μ := fun (k : Nat) => 24 - k) 0 (Nat.zero_le _) (fun k hi ih => ?_)
  try dsimp only at hi ih ⊢
  refine zs_iload_n hE 0 dX6_marksCounted_4 rfl rfl ?_
  refine zs_aload_n hE 2 dX6_marksCounted_5 rfl rfl ?_
  refine zs_get hE fl_X6_23 hx rfl dX6_marksCounted_6 ?_
  refine zs_alen hE r3 rfl dX6_marksCounted_9 ?_
  refine zs_icmp_geN (tgt := 40) hE (by omega) (by decide) dX6_marksCounted_10 (by decide) (fun h7 => ?_) (fun h => ?_)
  · obtain rfl : k = 24 := by omega
    refine zs_iload_n hE 1 dX6_marksCounted_40 rfl rfl ?_
    exact zs_iret hE hr (⟨rfl, rfl⟩) (by decide) (by decide) dX6_marksCounted_41
  · refine zs_aload_n hE 2 dX6_marksCounted_13 rfl rfl ?_
    refine zs_get hE fl_X6_23 hx rfl dX6_marksCounted_14 ?_
    refine zs_iload_n hE 0 dX6_marksCounted_17 rfl rfl ?_
    refine zs_aald hE r3 rfl (by omega) (by decide) dX6_marksCounted_18 ?_
    refine zs_astore_nq (lo' := [(3, va_rf (lh k)), (2, .int (nI k)), (1, .int (nI (sm (fun k => sc_n (sp_ct S (k / 4) (k % 4)) 5) (k)))), (0, .ref x)]) hE dX6_marksCounted_19 rfl (by decide) rfl ?_
    refine zs_aload_nq hE 0 dX6_marksCounted_20 rfl rfl ?_
    refine zs_ifnull (tgt := 34) hE dX6_marksCounted_21 (by decide) (fun h5 => ?_) (fun o5 h5 => ?_)
    · have hk4 : sp_np S ≤ k / 4 := by apply Classical.byContradiction; intro w; obtain ⟨q, -, -, e, -⟩ := hG.2 k (by omega); rw [h5] at e; cases e
      refine zs_iincN (lo' := [(2, .int (nI (k + 1))), (3, va_rf (lh k)), (1, .int (nI (sm (fun k => sc_n (sp_ct S (k / 4) (k % 4)) 5) (k)))), (0, .ref x)]) hE 1 dX6_marksCounted_34 rfl (by decide) rfl ?_
      refine zs_goto (tgt := 4) hE dX6_marksCounted_37 (by decide) ?_
      refine zs_sub (lo' := [(2, .int (nI (k + 1))), (1, .int (nI (sm (fun k => sc_n (sp_ct S (k / 4) (k % 4)) 5) (k)))), (0, .ref x)]) [0, 2, 3] rfl ?_
      refine zs_lo (lo' := [(2, .int (nI (k + 1))), (1, .int (nI (sm (fun k => sc_n (sp_ct S (k / 4) (k % 4)) 5) (k + 1)))), (0, .ref x)]) (by rw [show sm (fun k => sc_n (sp_ct S (k / 4) (k % 4)) 5) (k + 1) = sm (fun k => sc_n (sp_ct S (k / 4) (k % 4)) 5) k + (fun k => sc_n (sp_ct S (k / 4) (k % 4)) 5) k from rfl]; simp only []; rw [sc_n00 (sp_ct0 wH _ · hk4)]; rfl) ?_
      refine zs_sub (lo' := [(2, .int (nI (k + 1))), (1, .int (nI (sm (fun k => sc_n (sp_ct S (k / 4) (k % 4)) 5) (k + 1)))), (0, .ref x)]) [0, 1, 2] rfl ?_
      exact ih (k + 1) (by omega) (by omega)
    · have hk4 : k < 4 * sp_np S := by apply Classical.byContradiction; intro w; rw [hG.1 k (by omega) h] at h5; cases h5
      obtain ⟨ha, ht, hg, hl, ⟨-, -, -, hb, hc, hd⟩⟩ := hG.2 k hk4
      refine zs_lo (lo' := [(3, .ref ha), (2, .int (nI k)), (1, .int (nI (sm (fun k => sc_n (sp_ct S (k / 4) (k % 4)) 5) (k)))), (0, .ref x)]) (by rw [hl]; rfl) ?_
      refine zs_iload_n hE 2 dX6_marksCounted_24 rfl rfl ?_
      refine zs_aload_n hE 0 dX6_marksCounted_25 rfl rfl ?_
      refine zs_get hE fl_X6_233 hb rfl dX6_marksCounted_26 ?_
      refine zs_callSR (av := [.ref hg]) (st := [.int (nI (sm (fun k => sc_n (sp_ct S (k / 4) (k % 4)) 5) (k)))]) hE (m_X6_countOf D E B l hg (sp_ct S (k / 4) (k % 4)) (sp_ctb wH _ _)) rfl rfl sS_X6_321 (hd) ⟨by decide, by decide⟩ ⟨by decide, by decide⟩ (Nat.le_of_ble_eq_true rfl) dX6_marksCounted_29 ?_
      refine zs_iaddN hE dX6_marksCounted_32 ?_
      refine zs_istore_n (lo' := [(1, .int (nI (sm (fun k => sc_n (sp_ct S (k / 4) (k % 4)) 5) (k) + (sc_n (sp_ct S (k / 4) (k % 4)) 5)))), (3, .ref ha), (2, .int (nI k)), (0, .ref x)]) hE dX6_marksCounted_33 rfl (by decide) rfl ?_
      refine zs_iincN (lo' := [(2, .int (nI (k + 1))), (1, .int (nI (sm (fun k => sc_n (sp_ct S (k / 4) (k % 4)) 5) (k) + (sc_n (sp_ct S (k / 4) (k % 4)) 5)))), (3, .ref ha), (0, .ref x)]) hE 2 dX6_marksCounted_34 rfl (by decide) rfl ?_
      refine zs_goto (tgt := 4) hE dX6_marksCounted_37 (by decide) ?_
      refine zs_sub (lo' := [(2, .int (nI (k + 1))), (1, .int (nI (sm (fun k => sc_n (sp_ct S (k / 4) (k % 4)) 5) (k) + (sc_n (sp_ct S (k / 4) (k % 4)) 5)))), (0, .ref x)]) [0, 1, 3] rfl ?_
      exact ih (k + 1) (by omega) (by omega)

set_option maxHeartbeats 4000000 in
set_option maxRecDepth 100000 in
theorem m_X6_sumCounted (D : va_G) (E : Nat → ClassId) (B : Nat) (l : Launch) (κ : Nat → Nat) (S : sp_S) (x : Nat) : zs_Ct D E B l yX6_sumCounted cX6_sumCounted 4 (some .int) ({ frames := 1, cells := 0, slots := 0, locals := 25 } : Room) [.ref x] (fun H => cs_W D E κ S x H) (zs_N) (zs_ro (.int (nI (sp_ms S)))) := by
  refine zs_ct (by decide) (Nat.le_of_ble_eq_true rfl) (fun p e s m below meth c hE hr hin hp => ?_)
  refine zs_lo (lo' := [(0, .ref x)]) rfl ?_
  obtain ⟨hX0, hw⟩ := id hp
  obtain ⟨a1, a2, a3, a4, a5, lp, lv, lh, lz, tg, ⟨t0, t1, t2, t3, t4, t5, hx, r1, r2, r3, r4, r5⟩, htg, hP, hV, hG, hZ, hκ⟩ := hX0
  obtain ⟨wN, wP, wV, wA, wH, wZ, wF⟩ := id hw
  obtain ⟨n6, n40, n12, n8, n99⟩ := id wN
  refine zs_iconst (v := (nI 0)) hE dX6_sumCounted_0 (by decide) ?_
  refine zs_istore_n (lo' := [(1, .int (nI 0)), (0, .ref x)]) hE dX6_sumCounted_1 rfl (by decide) rfl ?_
  refine zs_iconst (v := (nI 0)) hE dX6_sumCounted_2 (by decide) ?_
  refine zs_istore_n (lo' := [(2, .int (nI 0)), (1, .int (nI 0)), (0, .ref x)]) hE dX6_sumCounted_3 rfl (by decide) rfl ?_
  refine zs_sub (lo' := [(2, .int (nI 0)), (1, .int (nI 0)), (0, .ref x)]) [0, 1, 2] rfl ?_
  refine zs_ind1 (Hs := fun (k : Nat) => s.heap) (ks := fun (k : Nat) => 0) (ns := fun (k : Nat) => 0) (los := fun (k : Nat) => [(2, .int (nI k)), (1, .int (nI (sm (fun k => sc_s (sp_ct S (k / 4) (k % 4)) 5) (k)))), (0, .ref x)]) (I := fun (k : Nat) => k ≤ 24) (μ := fun (k : Nat) => 24 - k) 0 (Nat.zero_le _) (fun k hi ih => ?_)
  try dsimp only at hi ih ⊢
  refine zs_iload_n hE 0 dX6_sumCounted_4 rfl rfl ?_
  refine zs_aload_n hE 2 dX6_sumCounted_5 rfl rfl ?_
  refine zs_get hE fl_X6_23 hx rfl dX6_sumCounted_6 ?_
  refine zs_alen hE r3 rfl dX6_sumCounted_9 ?_
  refine zs_icmp_geN (tgt := 40) hE (by omega) (by decide) dX6_sumCounted_10 (by decide) (fun h7 => ?_) (fun h => ?_)
  · obtain rfl : k = 24 := by omega
    refine zs_iload_n hE 1 dX6_sumCounted_40 rfl rfl ?_
    exact zs_iret hE hr (⟨rfl, rfl⟩) (by decide) (by decide) dX6_sumCounted_41
  · refine zs_aload_n hE 2 dX6_sumCounted_13 rfl rfl ?_
    refine zs_get hE fl_X6_23 hx rfl dX6_sumCounted_14 ?_
    refine zs_iload_n hE 0 dX6_sumCounted_17 rfl rfl ?_
    refine zs_aald hE r3 rfl (by omega) (by decide) dX6_sumCounted_18 ?_
    refine zs_astore_nq (lo' := [(3, va_rf (lh k)), (2, .int (nI k)), (1, .int (nI (sm (fun k => sc_s (sp_ct S (k / 4) (k % 4)) 5) (k)))), (0, .ref x)]) hE dX6_sumCounted_19 rfl (by decide) rfl ?_
    refine zs_aload_nq hE 0 dX6_sumCounted_20 rfl rfl ?_
    refine zs_ifnull (tgt := 34) hE dX6_sumCounted_21 (by decide) (fun h5 => ?_) (fun o5 h5 => ?_)
    · have hk4 : sp_np S ≤ k / 4 := by apply Classical.byContradiction; intro w; obtain ⟨q, -, -, e, -⟩ := hG.2 k (by omega); rw [h5] at e; cases e
      refine zs_iincN (lo' := [(2, .int (nI (k + 1))), (3, va_rf (lh k)), (1, .int (nI (sm (fun k => sc_s (sp_ct S (k / 4) (k % 4)) 5) (k)))), (0, .ref x)]) hE 1 dX6_sumCounted_34 rfl (by decide) rfl ?_
      refine zs_goto (tgt := 4) hE dX6_sumCounted_37 (by decide) ?_
      refine zs_sub (lo' := [(2, .int (nI (k + 1))), (1, .int (nI (sm (fun k => sc_s (sp_ct S (k / 4) (k % 4)) 5) (k)))), (0, .ref x)]) [0, 2, 3] rfl ?_
      refine zs_lo (lo' := [(2, .int (nI (k + 1))), (1, .int (nI (sm (fun k => sc_s (sp_ct S (k / 4) (k % 4)) 5) (k + 1)))), (0, .ref x)]) (by rw [show sm (fun k => sc_s (sp_ct S (k / 4) (k % 4)) 5) (k + 1) = sm (fun k => sc_s (sp_ct S (k / 4) (k % 4)) 5) k + (fun k => sc_s (sp_ct S (k / 4) (k % 4)) 5) k from rfl]; simp only []; rw [sc_s00 (sp_ct0 wH _ · hk4)]; rfl) ?_
      refine zs_sub (lo' := [(2, .int (nI (k + 1))), (1, .int (nI (sm (fun k => sc_s (sp_ct S (k / 4) (k % 4)) 5) (k + 1)))), (0, .ref x)]) [0, 1, 2] rfl ?_
      exact ih (k + 1) (by omega) (by omega)
    · have hk4 : k < 4 * sp_np S := by apply Classical.byContradiction; intro w; rw [hG.1 k (by omega) h] at h5; cases h5
      obtain ⟨ha, ht, hg, hl, ⟨-, -, -, hb, hc, hd⟩⟩ := hG.2 k hk4
      refine zs_lo (lo' := [(3, .ref ha), (2, .int (nI k)), (1, .int (nI (sm (fun k => sc_s (sp_ct S (k / 4) (k % 4)) 5) (k)))), (0, .ref x)]) (by rw [hl]; rfl) ?_
      refine zs_iload_n hE 2 dX6_sumCounted_24 rfl rfl ?_
      refine zs_aload_n hE 0 dX6_sumCounted_25 rfl rfl ?_
      refine zs_get hE fl_X6_233 hb rfl dX6_sumCounted_26 ?_
      refine zs_callSR (av := [.ref hg]) (st := [.int (nI (sm (fun k => sc_s (sp_ct S (k / 4) (k % 4)) 5) (k)))]) hE (m_X6_sumOf D E B l hg (sp_ct S (k / 4) (k % 4)) (sp_ctb wH _ _)) rfl rfl sS_X6_325 (hd) ⟨by decide, by decide⟩ ⟨by decide, by decide⟩ (Nat.le_of_ble_eq_true rfl) dX6_sumCounted_29 ?_
      refine zs_iaddN hE dX6_sumCounted_32 ?_
      refine zs_istore_n (lo' := [(1, .int (nI (sm (fun k => sc_s (sp_ct S (k / 4) (k % 4)) 5) (k) + (sc_s (sp_ct S (k / 4) (k % 4)) 5)))), (3, .ref ha), (2, .int (nI k)), (0, .ref x)]) hE dX6_sumCounted_33 rfl (by decide) rfl ?_
      refine zs_iincN (lo' := [(2, .int (nI (k + 1))), (1, .int (nI (sm (fun k => sc_s (sp_ct S (k / 4) (k % 4)) 5) (k) + (sc_s (sp_ct S (k / 4) (k % 4)) 5)))), (3, .ref ha), (0, .ref x)]) hE 2 dX6_sumCounted_34 rfl (by decide) rfl ?_
      refine zs_goto (tgt := 4) hE dX6_sumCounted_37 (by decide) ?_
      refine zs_sub (lo' := [(2, .int (nI (k + 1))), (1, .int (nI (sm (fun k => sc_s (sp_ct S (k / 4) (k % 4)) 5) (k) + (sc_s (sp_ct S (k / 4) (k % 4)) 5)))), (0, .ref x)]) [0, 1, 3] rfl ?_
      exact ih (k + 1) (by omega) (by omega)

/-- the sheaf that is asked -/
def sp_sh (S : sp_S) (v b q : Int32) : Option sp_Sh := (sp_i v (sp_nv S)).bind (fun v => (sp_i b 8).bind (fun b => (sp_i q 4).bind (fun q => sp_sl S v (b * 4 + q))))
theorem sp_at_no {x : Int32} {n : Nat} {f : Nat → Option Nat} (h : sp_i x n = none) : sp_at x n f = none := by rw [sp_at, h]; rfl
theorem sp_at_yes {x : Int32} {n j : Nat} {f : Nat → Option Nat} (h : sp_i x n = some j) : sp_at x n f = f j := by rw [sp_at, h]; rfl
theorem sp_i_lt {x : Int32} {n j : Nat} (h : sp_i x n = some j) : j < n ∧ x = nI j := by
  unfold sp_i at h
  by_cases q : 0 ≤ x.toInt ∧ x.toInt < n
  · rw [if_pos q] at h
    cases h
    have := x.toInt_lt
    refine ⟨by omega, ?_⟩
    rw [← Int32.toInt_inj, nI_toInt (by omega)]
    omega
  · rw [if_neg q] at h; cases h
theorem cs_V.yes {D : va_G} {E : Nat → ClassId} {κ : Nat → Nat} {H : Heap} {lv : Nat → Option Nat} {S : sp_S} (h : cs_V D E κ H lv S) {x : Int32} {v : Nat} (e : sp_i x (sp_nv S) = some v) : ∃ a : Nat, sp_at x (sp_nv S) lv = some a ∧ cs_ver D E κ H a v (sp_vp S v) (sp_am S v) (sp_wfr S v) (sp_sl S v) := by
  obtain ⟨a, h1, h2⟩ := h v (sp_i_lt e).1
  exact ⟨a, (sp_at_yes e).trans h1, h2⟩
theorem cs_vs.at2 {D : va_G} {E : Nat → ClassId} {κ : Nat → Nat} {H : Heap} {f : Nat → Option Nat} {sl : Nat → Option sp_Sh} (h : cs_vs D E κ H f sl) (b q : Int32) : cs_os D E κ H (sp_at2 b q f) ((sp_i b 8).bind (fun b => (sp_i q 4).bind (fun q => sl (b * 4 + q)))) := by
  unfold sp_at2
  cases eb : sp_i b 8 with
  | none => exact cs_os.none
  | some j =>
    cases eq : sp_i q 4 with
    | none => exact cs_os.none
    | some k =>
      have h1 := (sp_i_lt eb).1
      have h2 := (sp_i_lt eq).1
      exact h (j * 4 + k) (by omega)

set_option maxHeartbeats 4000000 in
set_option maxRecDepth 100000 in
theorem m_X6_sheafAt (D : va_G) (E : Nat → ClassId) (B : Nat) (l : Launch) (κ : Nat → Nat) (S : sp_S) (x : Nat) (y b q : Int32) : zs_Ct D E B l yX6_sheafAt cX6_sheafAt 5 (some (.object "ScoreSheaf$Sheaf")) ({ frames := 1, cells := 0, slots := 0, locals := 22 } : Room) [.ref x, .int y, .int b, .int q] (fun H => cs_W D E κ S x H) (zs_N) (fun v H H1 => H1 = H ∧ ∃ o, v = some (va_rf o) ∧ cs_os D E κ H o (sp_sh S y b q)) := by
  refine zs_ct (by decide) (Nat.le_of_ble_eq_true rfl) (fun p e s m below meth c hE hr hin hp => ?_)
  refine zs_lo (lo' := [(0, .ref x), (1, .int y), (2, .int b), (3, .int q)]) rfl ?_
  obtain ⟨hX0, hw⟩ := id hp
  obtain ⟨a1, a2, a3, a4, a5, lp, lv, lh, lz, tg, ⟨t0, t1, t2, t3, t4, t5, hx, r1, r2, r3, r4, r5⟩, htg, hP, hV, hG, hZ, hκ⟩ := hX0
  obtain ⟨wN, wP, wV, wA, wH, wZ, wF⟩ := id hw
  obtain ⟨n6, n40, n12, n8, n99⟩ := id wN
  refine zs_aload_n hE 0 dX6_sheafAt_0 rfl rfl ?_
  refine zs_iload_n hE 1 dX6_sheafAt_1 rfl rfl ?_
  refine zs_callVR (av := [.int y]) (st := []) (b := x) hE (m_X6_versionAt D E B l x a2 (sp_nv S) lv y (.ref a1) (.int (nI (sp_np S))) .null .null (.ref a3) (.ref a4) (.int (nI (sp_nz S))) (.ref a5) (.int (nI (sp_ty S).length)) n40) rfl rfl sV_X6_82 hx rfl rfl (⟨hx, r2⟩) ⟨by decide, by decide⟩ ⟨by decide, by decide⟩ (Nat.le_of_ble_eq_true rfl) dX6_sheafAt_2 ?_
  refine zs_astoreq (lo' := [(4, va_rf (sp_at y (sp_nv S) lv)), (0, .ref x), (1, .int y), (2, .int b), (3, .int q)]) hE dX6_sheafAt_5 (by decide) rfl ?_
  refine zs_aloadq hE 0 dX6_sheafAt_7 rfl ?_
  refine zs_ifnonnull (tgt := 16) hE dX6_sheafAt_9 (by decide) (fun o1 h1 => ?_) (fun h1 => ?_)
  · obtain ⟨j, ej⟩ : ∃ j, sp_i y (sp_nv S) = some j := by cases w : sp_i y (sp_nv S) with | none => (rw [sp_at_no w] at h1; cases h1) | some j => exact ⟨j, rfl⟩
    obtain ⟨va, ev, hv⟩ := hV.yes ej
    obtain ⟨y0, y1, y2, y3, yh, yf, y4, ⟨y5, y6⟩, y7⟩ := hv
    refine zs_lo (lo' := [(4, .ref va), (0, .ref x), (1, .int y), (2, .int b), (3, .int q)]) (by rw [ev]; rfl) ?_
    refine zs_aload hE 0 dX6_sheafAt_16 rfl ?_
    refine zs_iload_n hE 3 dX6_sheafAt_18 rfl rfl ?_
    refine zs_iload_n hE 4 dX6_sheafAt_19 rfl rfl ?_
    refine zs_callVR (av := [.int b, .int q]) (st := []) (b := va) hE (m_X5_sheafAt D E B l va yh j (sp_vp S j) (sp_am S j) (sp_wfr S j) yf b q) rfl rfl sV_X6_98 y5 rfl rfl (⟨y5, y6⟩) ⟨by decide, by decide⟩ ⟨by decide, by decide⟩ (Nat.le_of_ble_eq_true rfl) dX6_sheafAt_20 ?_
    exact zs_aret hE hr (by first | exact Or.inl ⟨_, rfl⟩ | exact Or.inr ⟨_, rfl⟩) (⟨rfl, _, rfl, by rw [sp_sh, ej]; exact y7.at2 b q⟩) (by decide) (by decide) dX6_sheafAt_23
  · refine zs_nullq hE dX6_sheafAt_12 ?_
    refine zs_goto (tgt := 23) hE dX6_sheafAt_13 (by decide) ?_
    refine zs_top (v' := va_rf none) (rfl) ?_
    exact zs_aret hE hr (by first | exact Or.inl ⟨_, rfl⟩ | exact Or.inr ⟨_, rfl⟩) (⟨rfl, none, rfl, fun _ => rfl, fun rs e => by have e1 : sp_i y (sp_nv S) = none := (by cases w : sp_i y (sp_nv S) with | none => rfl | some j => (obtain ⟨a, z, -⟩ := hV.yes w; rw [h1] at z; cases z)); rw [sp_sh, e1] at e; cases e⟩) (by decide) (by decide) dX6_sheafAt_23

set_option maxHeartbeats 4000000 in
set_option maxRecDepth 100000 in
theorem m_X6_baseOf (D : va_G) (E : Nat → ClassId) (B : Nat) (l : Launch) (κ : Nat → Nat) (S : sp_S) (x : Nat) (b1 b2 n1 p1 m1 g1 n2 p2 m2 g2 : Nat) (w1 w2 : Int32) (hm1 : m1 < 2 ^ 40) : zs_Ct D E B l yX6_baseOf cX6_baseOf 6 (some .int) ({ frames := 0, cells := 0, slots := 0, locals := 0 } : Room) [.ref x, .ref b1, .ref b2] (fun H => cs_W D E κ S x H ∧ zs_pt D b1 (.inr (5, [.int (nI n1), .int (nI p1), .long (lN m1), .int w1, .ref g1])) H ∧ zs_pt D b2 (.inr (5, [.int (nI n2), .int (nI p2), .long (lN m2), .int w2, .ref g2])) H) (zs_N) (zs_ro (.int (sp_oi (gr (fun k => m1.testBit k = true ∧ m2.testBit k = true) (sp_nv S))))) := by
  refine zs_ct (by decide) (Nat.le_of_ble_eq_true rfl) (fun p e s m below meth c hE hr hin hp => ?_)
  refine zs_lo (lo' := [(0, .ref x), (1, .ref b1), (2, .ref b2)]) rfl ?_
  obtain ⟨⟨hX0, hw⟩, hp2⟩ := id hp
  obtain ⟨a1, a2, a3, a4, a5, lp, lv, lh, lz, tg, ⟨t0, t1, t2, t3, t4, t5, hx, r1, r2, r3, r4, r5⟩, htg, hP, hV, hG, hZ, hκ⟩ := hX0
  obtain ⟨wN, wP, wV, wA, wH, wZ, wF⟩ := id hw
  obtain ⟨n6, n40, n12, n8, n99⟩ := id wN
  obtain ⟨u1, u2⟩ := hp2
  have h40 : m1 &&& m2 < 2 ^ 40 := Nat.lt_of_le_of_lt Nat.and_le_left hm1
  refine zs_aload_n hE 1 dX6_baseOf_0 rfl rfl ?_
  refine zs_get hE fl_X6_112 u1 rfl dX6_baseOf_1 ?_
  refine zs_aload_n hE 2 dX6_baseOf_4 rfl rfl ?_
  refine zs_get hE fl_X6_112 u2 rfl dX6_baseOf_5 ?_
  refine zs_land hE dX6_baseOf_8 ?_
  refine zs_top (v' := .long (lN (m1 &&& m2))) (by rw [lN_and]) ?_
  refine zs_lstore_n (lo' := [(3, .long (lN (m1 &&& m2))), (0, .ref x), (1, .ref b1), (2, .ref b2)]) hE dX6_baseOf_9 rfl (by decide) rfl ?_
  refine zs_aload_n hE 1 dX6_baseOf_10 rfl rfl ?_
  refine zs_get hE fl_X6_48 hx rfl dX6_baseOf_11 ?_
  refine zs_iconst (v := (nI 1)) hE dX6_baseOf_14 (by decide) ?_
  refine zs_isub hE dX6_baseOf_15 ?_
  refine zs_istore (lo' := [(5, .int ((nI (sp_nv S)) - (nI 1))), (3, .long (lN (m1 &&& m2))), (0, .ref x), (1, .ref b1), (2, .ref b2)]) hE dX6_baseOf_16 (by decide) rfl ?_
  refine zs_lo (lo' := [(5, .int ((nI (sp_nv S)) - (nI 1))), (3, .long (lN (m1 &&& m2))), (0, .ref x), (1, .ref b1), (2, .ref b2)]) (rfl) ?_
  refine zs_sub (lo' := [(5, .int ((nI (sp_nv S)) - (nI 1))), (0, .ref x), (3, .long (lN (m1 &&& m2)))]) [0, 2, 1] rfl ?_
  refine zs_ind1 (Hs := fun (j : Nat) => s.heap) (ks := fun (j : Nat) => 0) (ns := fun (j : Nat) => 0) (los := fun (j : Nat) => [(5, .int (nI j - 1)), (0, .ref x), (3, .long (lN (m1 &&& m2)))]) (I := fun (j : Nat) => j ≤ sp_nv S ∧ ∀ k, j ≤ k → k < sp_nv S → ¬ (m1.testBit k = true ∧ m2.testBit k = true)) (μ := fun (j : Nat) => j) (sp_nv S) (⟨Nat.le_refl _, fun k k1 k2 => absurd k2 (Nat.not_lt.mpr k1)⟩) (fun j hi ih => ?_)
  try dsimp only at hi ih ⊢
  obtain ⟨jn, hb⟩ := hi
  refine zs_iload hE 0 dX6_baseOf_18 rfl ?_
  refine zs_if_lt (tgt := 43) hE dX6_baseOf_20 (by decide) (fun h1 => ?_) (fun h1 => ?_)
  · obtain rfl : j = 0 := by rw [Int32.lt_iff_toInt_lt, nI_mi (by omega), show (0 : Int32).toInt = 0 from rfl] at h1; omega
    refine zs_iconst (v := (-1)) hE dX6_baseOf_43 (by decide) ?_
    refine zs_top (v' := .int (sp_oi (gr (fun k => m1.testBit k = true ∧ m2.testBit k = true) (sp_nv S)))) (by rw [gr_none.mpr (fun q hq w => hb q (Nat.zero_le _) hq w)]; rfl) ?_
    exact zs_iret hE hr (⟨rfl, rfl⟩) (by decide) (by decide) dX6_baseOf_44
  · obtain ⟨q, rfl⟩ : ∃ q, j = q + 1 := ⟨j - 1, by rw [Int32.lt_iff_toInt_lt, nI_mi (by omega), show (0 : Int32).toInt = 0 from rfl] at h1; omega⟩
    refine zs_lo (lo' := [(5, .int (nI q)), (0, .ref x), (3, .long (lN (m1 &&& m2)))]) (by rw [nI_pred]) ?_
    have hbit : (m1 &&& m2) / 2 ^ q % 2 = 1 ↔ m1.testBit q = true ∧ m2.testBit q = true := by rw [← tb_iff, Nat.testBit_and]; simp
    refine zs_lload_n hE 2 dX6_baseOf_23 rfl rfl ?_
    refine zs_iload hE 0 dX6_baseOf_24 rfl ?_
    refine zs_lshr hE dX6_baseOf_26 ?_
    refine zs_lconst (v := (1 : Int64)) hE dX6_baseOf_27 (by decide) ?_
    refine zs_land hE dX6_baseOf_28 ?_
    refine zs_top (v' := .long (lN ((m1 &&& m2) / 2 ^ q % 2))) (by rw [← lN_bit h40 (show q < 40 by omega)]) ?_
    refine zs_lconst (v := (1 : Int64)) hE dX6_baseOf_29 (by decide) ?_
    refine zs_lcmp hE dX6_baseOf_30 ?_
    refine zs_if_ne (tgt := 37) hE dX6_baseOf_31 (by decide) (fun h2 => ?_) (fun h2 => ?_)
    · have e1 : ¬ (m1.testBit q = true ∧ m2.testBit q = true) := fun w => h2 ((lg_cmp_eq _ _).mpr (by rw [hbit.mpr w]; rfl))
      refine zs_sub (lo' := [(5, .int (nI q)), (0, .ref x), (3, .long (lN (m1 &&& m2)))]) [0, 1, 2] rfl ?_
      refine zs_iinc (v := nI q - 1) (lo' := [(5, .int (nI q - 1)), (0, .ref x), (3, .long (lN (m1 &&& m2)))]) hE 0 dX6_baseOf_37 rfl (i_m1 _) (by decide) rfl ?_
      refine zs_goto (tgt := 18) hE dX6_baseOf_40 (by decide) ?_
      refine zs_sub (lo' := [(5, .int (nI q - 1)), (0, .ref x), (3, .long (lN (m1 &&& m2)))]) [0, 1, 2] rfl ?_
      exact ih q (⟨by omega, fun k k1 k2 => by rcases Nat.lt_or_ge q k with w | w; exact hb k w k2; rw [show k = q by omega]; exact e1⟩) (by omega)
    · have e1 := hbit.mp ((pk_lEQ (by omega) (by decide)).mp ((lg_cmp_eq _ _).mp h2))
      refine zs_iload hE 0 dX6_baseOf_34 rfl ?_
      refine zs_top (v' := .int (sp_oi (gr (fun k => m1.testBit k = true ∧ m2.testBit k = true) (sp_nv S)))) (by rw [show gr (fun k => m1.testBit k = true ∧ m2.testBit k = true) (sp_nv S) = some q from gr_spec.mpr ⟨by omega, e1, fun k k1 k2 => hb k k1 k2⟩]; rfl) ?_
      exact zs_iret hE hr (⟨rfl, rfl⟩) (by decide) (by decide) dX6_baseOf_36

theorem nI_nm1 {a : Nat} (h : a < 2 ^ 31) : nI a ≠ -1 := by
  intro w
  have := congrArg Int32.toInt w
  rw [nI_toInt h] at this
  have e : (-1 : Int32).toInt = -1 := by decide
  rw [e] at this
  omega
set_option maxHeartbeats 4000000 in
set_option maxRecDepth 100000 in
theorem m_X6_sumOf6 (D : va_G) (E : Nat → ClassId) (B : Nat) (l : Launch) (a : Nat) (g : Nat → Nat) (hg : ∀ j, j < 6 → g j ≤ 9999) : zs_Ct D E B l yX6_sumOf cX6_sumOf 6 (some .int) ({ frames := 0, cells := 0, slots := 0, locals := 0 } : Room) [.ref a] (fun H => zs_pt D a (.inl (E 0, 6, .inl (fun j => nI (g j)))) H) (zs_N) (zs_ro (.int (nI (sm g 6)))) := by
  refine zs_ct (by decide) (Nat.le_of_ble_eq_true rfl) (fun p e s m below meth c hE hr hin hp => ?_)
  refine zs_lo (lo' := [(0, .ref a)]) rfl ?_
  refine zs_iconst (v := (nI 0)) hE dX6_sumOf_0 (by decide) ?_
  refine zs_istore_n (lo' := [(1, .int (nI 0)), (0, .ref a)]) hE dX6_sumOf_1 rfl (by decide) rfl ?_
  refine zs_aload_n hE 1 dX6_sumOf_2 rfl rfl ?_
  refine zs_astore_n (lo' := [(2, .ref a), (1, .int (nI 0)), (0, .ref a)]) hE dX6_sumOf_3 rfl (by decide) rfl ?_
  refine zs_aload_n hE 0 dX6_sumOf_4 rfl rfl ?_
  refine zs_alen hE hp rfl dX6_sumOf_5 ?_
  refine zs_istore_n (lo' := [(3, .int (nI 6)), (2, .ref a), (1, .int (nI 0)), (0, .ref a)]) hE dX6_sumOf_6 rfl (by decide) rfl ?_
  refine zs_iconst (v := (nI 0)) hE dX6_sumOf_7 (by decide) ?_
  refine zs_istore (lo' := [(4, .int (nI 0)), (3, .int (nI 6)), (2, .ref a), (1, .int (nI 0)), (0, .ref a)]) hE dX6_sumOf_8 (by decide) rfl ?_
  refine zs_sub (lo' := [(4, .int (nI 0)), (1, .int (nI 0)), (2, .ref a), (3, .int (nI 6))]) [0, 3, 2, 1] rfl ?_
  refine zs_ind1 (Hs := fun (i : Nat) => s.heap) (ks := fun (i : Nat) => 0) (ns := fun (i : Nat) => 0) (los := fun (i : Nat) => [(4, .int (nI i)), (1, .int (nI (sm g (i)))), (2, .ref a), (3, .int (nI 6))]) (I := fun (i : Nat) => i ≤ 6) (μ := fun (i : Nat) => 6 - i) 0 (Nat.zero_le _) (fun i hi ih => ?_)
  try dsimp only at hi ih ⊢
  refine zs_iload hE 0 dX6_sumOf_10 rfl ?_
  refine zs_iload_n hE 3 dX6_sumOf_12 rfl rfl ?_
  refine zs_icmp_geN (tgt := 39) hE (by omega) (by decide) dX6_sumOf_13 (by decide) (fun h3 => ?_) (fun h => ?_)
  · obtain rfl : i = 6 := by omega
    refine zs_iload_n hE 1 dX6_sumOf_39 rfl rfl ?_
    exact zs_iret hE hr (⟨rfl, rfl⟩) (by decide) (by decide) dX6_sumOf_40
  · have hgi := hg i h
    refine zs_aload_n hE 2 dX6_sumOf_16 rfl rfl ?_
    refine zs_iload hE 0 dX6_sumOf_17 rfl ?_
    refine zs_iald hE hp (by omega) (by decide) dX6_sumOf_19 ?_
    refine zs_istore (lo' := [(5, .int (nI (g i))), (4, .int (nI i)), (1, .int (nI (sm g (i)))), (2, .ref a), (3, .int (nI 6))]) hE dX6_sumOf_20 (by decide) rfl ?_
    refine zs_iload hE 0 dX6_sumOf_22 rfl ?_
    refine zs_iconst (v := (-1)) hE dX6_sumOf_24 (by decide) ?_
    refine zs_icmp_eq (tgt := 33) hE dX6_sumOf_25 (by decide) (fun h4 => ?_) (fun h4 => ?_)
    · exact absurd h4 (nI_nm1 (by omega))
    · refine zs_iload_n hE 2 dX6_sumOf_28 rfl rfl ?_
      refine zs_iload hE 0 dX6_sumOf_29 rfl ?_
      refine zs_iaddN hE dX6_sumOf_31 ?_
      refine zs_istore_n (lo' := [(1, .int (nI (sm g (i) + (g i)))), (5, .int (nI (g i))), (4, .int (nI i)), (2, .ref a), (3, .int (nI 6))]) hE dX6_sumOf_32 rfl (by decide) rfl ?_
      refine zs_iincN (lo' := [(4, .int (nI (i + 1))), (1, .int (nI (sm g (i) + (g i)))), (5, .int (nI (g i))), (2, .ref a), (3, .int (nI 6))]) hE 2 dX6_sumOf_33 rfl (by decide) rfl ?_
      refine zs_goto (tgt := 10) hE dX6_sumOf_36 (by decide) ?_
      refine zs_sub (lo' := [(4, .int (nI (i + 1))), (1, .int (nI (sm g (i) + (g i)))), (2, .ref a), (3, .int (nI 6))]) [0, 1, 3, 4] rfl ?_
      refine zs_sub (lo' := [(4, .int (nI (i + 1))), (1, .int (nI (sm g (i) + (g i)))), (2, .ref a), (3, .int (nI 6))]) [0, 1, 2, 3] rfl ?_
      exact ih (i + 1) (by omega) (by omega)

theorem sm_ge {f : Nat → Nat} {k : Nat} : ∀ {n : Nat}, k < n → f k ≤ sm f n
  | 0, h => absurd h (Nat.not_lt_zero _)
  | n + 1, h => by
    show f k ≤ sm f n + f n
    rcases Nat.lt_or_ge k n with q | q
    · have := sm_ge (f := f) q; omega
    · rw [show k = n by omega]; omega
set_option maxHeartbeats 4000000 in
set_option maxRecDepth 100000 in
theorem m_X6_prizesAreShared (D : va_G) (E : Nat → ClassId) (B : Nat) (l : Launch) (κ : Nat → Nat) (S : sp_S) (x : Nat) : zs_Ct D E B l yX6_prizesAreShared cX6_prizesAreShared 3 (some .boolean) ({ frames := 1, cells := 0, slots := 0, locals := 25 } : Room) [.ref x] (fun H => cs_W D E κ S x H) (zs_N) (zs_ro (.int (nI 1))) := by
  refine zs_ct (by decide) (Nat.le_of_ble_eq_true rfl) (fun p e s m below meth c hE hr hin hp => ?_)
  refine zs_lo (lo' := [(0, .ref x)]) rfl ?_
  obtain ⟨hX0, hw⟩ := id hp
  obtain ⟨a1, a2, a3, a4, a5, lp, lv, lh, lz, tg, ⟨t0, t1, t2, t3, t4, t5, hx, r1, r2, r3, r4, r5⟩, htg, hP, hV, hG, hZ, hκ⟩ := hX0
  obtain ⟨wN, wP, wV, wA, wH, wZ, wF⟩ := id hw
  obtain ⟨n6, n40, n12, n8, n99⟩ := id wN
  refine zs_iconst (v := (nI 0)) hE dX6_prizesAreShared_0 (by decide) ?_
  refine zs_istore_n (lo' := [(1, .int (nI 0)), (0, .ref x)]) hE dX6_prizesAreShared_1 rfl (by decide) rfl ?_
  refine zs_sub (lo' := [(1, .int (nI 0)), (0, .ref x)]) [0, 1] rfl ?_
  refine zs_ind1 (Hs := fun (z : Nat) => s.heap) (ks := fun (z : Nat) => 0) (ns := fun (z : Nat) => 0) (los := fun (z : Nat) => [(1, .int (nI z)), (0, .ref x)]) (I := fun (z : Nat) => z ≤ sp_nz S) (μ := fun (z : Nat) => sp_nz S - z) 0 (Nat.zero_le _) (fun z hi ih => ?_)
  try dsimp only at hi ih ⊢
  refine zs_iload_n hE 0 dX6_prizesAreShared_2 rfl rfl ?_
  refine zs_aload_n hE 1 dX6_prizesAreShared_3 rfl rfl ?_
  refine zs_get hE fl_X6_265 hx rfl dX6_prizesAreShared_4 ?_
  refine zs_icmp_geN (tgt := 42) hE (by omega) (by omega) dX6_prizesAreShared_7 (by decide) (fun h7 => ?_) (fun h => ?_)
  · refine zs_iconst (v := (nI 1)) hE dX6_prizesAreShared_42 (by decide) ?_
    exact zs_zret hE hr (rfl) (⟨rfl, rfl⟩) (by decide) (by decide) dX6_prizesAreShared_43
  · obtain ⟨pa, pg, pe, -, -, ph, pi⟩ := hZ z h
    obtain ⟨-, zc1, zc2, zc3⟩ := wZ z h
    refine zs_aload_n hE 1 dX6_prizesAreShared_10 rfl rfl ?_
    refine zs_iload_n hE 0 dX6_prizesAreShared_11 rfl rfl ?_
    refine zs_callVR (av := [.int (nI z)]) (st := []) (b := x) hE (m_X6_prizeAt D E B l x a4 (sp_nz S) lz (nI z) (.ref a1) (.int (nI (sp_np S))) (.ref a2) (.int (nI (sp_nv S))) (.ref a3) .null .null (.ref a5) (.int (nI (sp_ty S).length)) n12) rfl rfl sV_X6_274 hx rfl rfl (⟨hx, r4⟩) ⟨by decide, by decide⟩ ⟨by decide, by decide⟩ (Nat.le_of_ble_eq_true rfl) dX6_prizesAreShared_12 ?_
    refine zs_top (v' := .ref pa) (by rw [sp_at_yes (sp_i_in h (by omega)), pe]; rfl) ?_
    refine zs_astore_n (lo' := [(2, .ref pa), (1, .int (nI z)), (0, .ref x)]) hE dX6_prizesAreShared_15 rfl (by decide) rfl ?_
    refine zs_aload_n hE 0 dX6_prizesAreShared_16 rfl rfl ?_
    refine zs_ifnullR hE dX6_prizesAreShared_17 ?_
    refine zs_aload_n hE 0 dX6_prizesAreShared_20 rfl rfl ?_
    refine zs_get hE fl_X6_283 ph rfl dX6_prizesAreShared_21 ?_
    refine zs_callSR (av := [.ref pg]) (st := []) hE (m_X6_sumOf6 D E B l pg (sp_zs S z) (fun j hj => by have := sm_ge (f := sp_zs S z) hj; omega)) rfl rfl sS_X6_325 (pi) ⟨by decide, by decide⟩ ⟨by decide, by decide⟩ (Nat.le_of_ble_eq_true rfl) dX6_prizesAreShared_24 ?_
    refine zs_aload_n hE 0 dX6_prizesAreShared_27 rfl rfl ?_
    refine zs_get hE fl_X6_346 ph rfl dX6_prizesAreShared_28 ?_
    refine zs_icmp_eqN (tgt := 36) hE (by omega) (by omega) dX6_prizesAreShared_31 (by decide) (fun h5 => ?_) (fun h5 => ?_)
    · refine zs_iincN (lo' := [(1, .int (nI (z + 1))), (2, .ref pa), (0, .ref x)]) hE 1 dX6_prizesAreShared_36 rfl (by decide) rfl ?_
      refine zs_goto (tgt := 2) hE dX6_prizesAreShared_39 (by decide) ?_
      refine zs_sub (lo' := [(1, .int (nI (z + 1))), (0, .ref x)]) [0, 2] rfl ?_
      exact ih (z + 1) (by omega) (by omega)
    · exact absurd zc3 h5

theorem sp_wfr_no {S : sp_S} {v : Nat} (h40 : sp_nv S ≤ 40) (h : ¬ (sp_q1 S v ≠ 0 ∧ sp_q2 S v = 0)) : sp_i (sp_wfr S v) (sp_nv S) = none := by
  unfold sp_wfr
  by_cases q : sp_q2 S v = 0
  · rw [if_pos q, show sp_q1 S v = 0 by omega]; exact sp_i_lo (by decide)
  · rw [if_neg q]; exact sp_i_lo (by decide)
theorem sp_wfr_yes {S : sp_S} {v : Nat} (h40 : sp_nv S ≤ 40) (hb : sp_q1 S v ≤ v) (hv : v < sp_nv S) (h : sp_q1 S v ≠ 0 ∧ sp_q2 S v = 0) : sp_i (sp_wfr S v) (sp_nv S) = some (sp_q1 S v - 1) := by
  unfold sp_wfr
  rw [if_pos h.2, nI_m2 (by omega)]
  exact sp_i_in (by omega) (by omega)
set_option maxHeartbeats 4000000 in
set_option maxRecDepth 100000 in
theorem m_X6_writtenAreNear (D : va_G) (E : Nat → ClassId) (B : Nat) (l : Launch) (κ : Nat → Nat) (S : sp_S) (x : Nat) : zs_Ct D E B l yX6_writtenAreNear cX6_writtenAreNear 4 (some .boolean) ({ frames := 4, cells := 0, slots := 0, locals := 89 } : Room) [.ref x] (fun H => cs_W D E κ S x H) (zs_N) (zs_ro (.int (nI 1))) := by
  refine zs_ct (by decide) (Nat.le_of_ble_eq_true rfl) (fun p e s m below meth c hE hr hin hp => ?_)
  refine zs_lo (lo' := [(0, .ref x)]) rfl ?_
  obtain ⟨hX0, hw⟩ := id hp
  obtain ⟨a1, a2, a3, a4, a5, lp, lv, lh, lz, tg, ⟨t0, t1, t2, t3, t4, t5, hx, r1, r2, r3, r4, r5⟩, htg, hP, hV, hG, hZ, hκ⟩ := hX0
  obtain ⟨wN, wP, wV, wA, wH, wZ, wF⟩ := id hw
  obtain ⟨n6, n40, n12, n8, n99⟩ := id wN
  refine zs_iconst (v := (nI 0)) hE dX6_writtenAreNear_0 (by decide) ?_
  refine zs_istore_n (lo' := [(1, .int (nI 0)), (0, .ref x)]) hE dX6_writtenAreNear_1 rfl (by decide) rfl ?_
  refine zs_sub (lo' := [(1, .int (nI 0)), (0, .ref x)]) [0, 1] rfl ?_
  refine zs_ind1 (Hs := fun (v : Nat) => s.heap) (ks := fun (v : Nat) => 0) (ns := fun (v : Nat) => 0) (los := fun (v : Nat) => [(1, .int (nI v)), (0, .ref x)]) (I := fun (v : Nat) => v ≤ sp_nv S) (μ := fun (v : Nat) => sp_nv S - v) 0 (Nat.zero_le _) (fun v hi ih => ?_)
  try dsimp only at hi ih ⊢
  refine zs_iload_n hE 0 dX6_writtenAreNear_2 rfl rfl ?_
  refine zs_aload_n hE 1 dX6_writtenAreNear_3 rfl rfl ?_
  refine zs_get hE fl_X6_48 hx rfl dX6_writtenAreNear_4 ?_
  refine zs_icmp_geN (tgt := 53) hE (by omega) (by omega) dX6_writtenAreNear_7 (by decide) (fun h7 => ?_) (fun h => ?_)
  · refine zs_iconst (v := (nI 1)) hE dX6_writtenAreNear_53 (by decide) ?_
    exact zs_zret hE hr (rfl) (⟨rfl, rfl⟩) (by decide) (by decide) dX6_writtenAreNear_54
  · obtain ⟨va, ve, hv⟩ := hV v h
    obtain ⟨-, vq1, vq2, -⟩ := wV v h
    obtain ⟨y0, y1, y2, y3, yh, yf, y4, ⟨y5, y6⟩, y7⟩ := id hv
    refine zs_aload_n hE 1 dX6_writtenAreNear_10 rfl rfl ?_
    refine zs_iload_n hE 0 dX6_writtenAreNear_11 rfl rfl ?_
    refine zs_callVR (av := [.int (nI v)]) (st := []) (b := x) hE (m_X6_versionAt D E B l x a2 (sp_nv S) lv (nI v) (.ref a1) (.int (nI (sp_np S))) .null .null (.ref a3) (.ref a4) (.int (nI (sp_nz S))) (.ref a5) (.int (nI (sp_ty S).length)) n40) rfl rfl sV_X6_82 hx rfl rfl (⟨hx, r2⟩) ⟨by decide, by decide⟩ ⟨by decide, by decide⟩ (Nat.le_of_ble_eq_true rfl) dX6_writtenAreNear_12 ?_
    refine zs_top (v' := .ref va) (by rw [sp_at_yes (sp_i_in h (by omega)), ve]; rfl) ?_
    refine zs_astore_n (lo' := [(2, .ref va), (1, .int (nI v)), (0, .ref x)]) hE dX6_writtenAreNear_15 rfl (by decide) rfl ?_
    refine zs_aload_n hE 0 dX6_writtenAreNear_16 rfl rfl ?_
    refine zs_ifnonnullR (tgt := 23) hE dX6_writtenAreNear_17 (by decide) ?_
    refine zs_aload_n hE 2 dX6_writtenAreNear_23 rfl rfl ?_
    refine zs_aload_n hE 0 dX6_writtenAreNear_24 rfl rfl ?_
    refine zs_get hE fl_X6_349 y5 rfl dX6_writtenAreNear_25 ?_
    refine zs_callVR (av := [.int (sp_wfr S v)]) (st := []) (b := x) hE (m_X6_versionAt D E B l x a2 (sp_nv S) lv (sp_wfr S v) (.ref a1) (.int (nI (sp_np S))) .null .null (.ref a3) (.ref a4) (.int (nI (sp_nz S))) (.ref a5) (.int (nI (sp_ty S).length)) n40) rfl rfl sV_X6_82 hx rfl rfl (⟨hx, r2⟩) ⟨by decide, by decide⟩ ⟨by decide, by decide⟩ (Nat.le_of_ble_eq_true rfl) dX6_writtenAreNear_28 ?_
    refine zs_astore_nq (lo' := [(3, va_rf (sp_at (sp_wfr S v) (sp_nv S) lv)), (2, .ref va), (1, .int (nI v)), (0, .ref x)]) hE dX6_writtenAreNear_31 rfl (by decide) rfl ?_
    refine zs_aload_nq hE 0 dX6_writtenAreNear_32 rfl rfl ?_
    refine zs_ifnull (tgt := 47) hE dX6_writtenAreNear_33 (by decide) (fun h5 => ?_) (fun o5 h5 => ?_)
    · refine zs_iincN (lo' := [(1, .int (nI (v + 1))), (3, va_rf (sp_at (sp_wfr S v) (sp_nv S) lv)), (2, .ref va), (0, .ref x)]) hE 2 dX6_writtenAreNear_47 rfl (by decide) rfl ?_
      refine zs_goto (tgt := 2) hE dX6_writtenAreNear_50 (by decide) ?_
      refine zs_sub (lo' := [(1, .int (nI (v + 1))), (0, .ref x)]) [0, 3] rfl ?_
      exact ih (v + 1) (by omega) (by omega)
    · have hq : sp_q1 S v ≠ 0 ∧ sp_q2 S v = 0 := by apply Classical.byContradiction; intro w; rw [sp_at_no (sp_wfr_no n40 w)] at h5; cases h5
      obtain ⟨ua, ue, hu⟩ := hV.yes (sp_wfr_yes n40 vq1 h hq)
      obtain ⟨fe, fu⟩ := wF v h hq.1 hq.2
      refine zs_lo (lo' := [(3, .ref ua), (2, .ref va), (1, .int (nI v)), (0, .ref x)]) (by rw [ue]; rfl) ?_
      refine zs_aload_n hE 1 dX6_writtenAreNear_36 rfl rfl ?_
      refine zs_aload_n hE 0 dX6_writtenAreNear_37 rfl rfl ?_
      refine zs_callVR (av := [.ref ua]) (st := []) (b := va) hE (m_X5_sheavesUnlike D E B l κ va ua v (sp_vp S v) (sp_am S v) _ _ _ _ _ _ _ (fun j _ => sl_none fe.symm j)) rfl rfl sV_X6_204 y5 rfl rfl (⟨hv, hu⟩) ⟨by decide, by decide⟩ ⟨by decide, by decide⟩ (Nat.le_of_ble_eq_true rfl) dX6_writtenAreNear_38 ?_
      refine zs_iconst (v := (nI 1)) hE dX6_writtenAreNear_41 (by decide) ?_
      refine zs_icmp_leN (tgt := 47) hE (by omega) (by decide) dX6_writtenAreNear_42 (by decide) (fun h6 => ?_) (fun h6 => ?_)
      · refine zs_iincN (lo' := [(1, .int (nI (v + 1))), (3, .ref ua), (2, .ref va), (0, .ref x)]) hE 2 dX6_writtenAreNear_47 rfl (by decide) rfl ?_
        refine zs_goto (tgt := 2) hE dX6_writtenAreNear_50 (by decide) ?_
        refine zs_sub (lo' := [(1, .int (nI (v + 1))), (0, .ref x)]) [0, 3] rfl ?_
        exact ih (v + 1) (by omega) (by omega)
      · exact absurd fu (by omega)

theorem b6_and : ∀ t : Nat, t < 64 → ∀ r : Nat, r < 6 → nI t &&& nI (2 ^ r) = 0 ∨ t / 2 ^ r % 2 = 1 := by decide +kernel
theorem b6_or : ∀ t : Nat, t < 64 → ∀ r : Nat, r < 6 → nI t ||| nI (2 ^ r) = nI (t ||| 2 ^ r) ∧ t ||| 2 ^ r < 64 := by decide +kernel
theorem b6_bit : ∀ t : Nat, t < 64 → ∀ r : Nat, r < 6 → ∀ q : Nat, q < 6 → (t ||| 2 ^ r) / 2 ^ q % 2 = 1 → t / 2 ^ q % 2 = 1 ∨ q = r := by decide +kernel
set_option maxHeartbeats 4000000 in
set_option maxRecDepth 100000 in
theorem m_X6_ranksAreOwn (D : va_G) (E : Nat → ClassId) (B : Nat) (l : Launch) (κ : Nat → Nat) (S : sp_S) (x : Nat) : zs_Ct D E B l yX6_ranksAreOwn cX6_ranksAreOwn 4 (some .boolean) ({ frames := 5, cells := 0, slots := 0, locals := 126 } : Room) [.ref x] (fun H => cs_W D E κ S x H) (zs_N) (zs_ro (.int (nI 1))) := by
  refine zs_ct (by decide) (Nat.le_of_ble_eq_true rfl) (fun p e s m below meth c hE hr hin hp => ?_)
  refine zs_lo (lo' := [(0, .ref x)]) rfl ?_
  obtain ⟨hX0, hw⟩ := id hp
  obtain ⟨a1, a2, a3, a4, a5, lp, lv, lh, lz, tg, ⟨t0, t1, t2, t3, t4, t5, hx, r1, r2, r3, r4, r5⟩, htg, hP, hV, hG, hZ, hκ⟩ := hX0
  obtain ⟨wN, wP, wV, wA, wH, wZ, wF⟩ := id hw
  obtain ⟨n6, n40, n12, n8, n99⟩ := id wN
  refine zs_iconst (v := (nI 0)) hE dX6_ranksAreOwn_0 (by decide) ?_
  refine zs_istore_n (lo' := [(1, .int (nI 0)), (0, .ref x)]) hE dX6_ranksAreOwn_1 rfl (by decide) rfl ?_
  refine zs_iconst (v := (nI 0)) hE dX6_ranksAreOwn_2 (by decide) ?_
  refine zs_istore_n (lo' := [(2, .int (nI 0)), (1, .int (nI 0)), (0, .ref x)]) hE dX6_ranksAreOwn_3 rfl (by decide) rfl ?_
  refine zs_sub (lo' := [(2, .int (nI 0)), (1, .int (nI 0)), (0, .ref x)]) [0, 1, 2] rfl ?_
  refine zs_ind2 (Hs := fun (i : Nat) (t : Nat) => s.heap) (ks := fun (i : Nat) (t : Nat) => 0) (ns := fun (i : Nat) (t : Nat) => 0) (los := fun (i : Nat) (t : Nat) => [(2, .int (nI i)), (1, .int (nI t)), (0, .ref x)]) (I := fun (i : Nat) (t : Nat) => i ≤ sp_np S ∧ t < 64 ∧ ∀ r, r < 6 → t / 2 ^ r % 2 = 1 → ∃ j, j < i ∧ sp_rk S j = r) (μ := fun (i : Nat) (t : Nat) => sp_np S - i) 0 0 (⟨Nat.zero_le _, by decide, fun r _ w => by rw [Nat.zero_div] at w; cases w⟩) (fun i t hi ih => ?_)
  try dsimp only at hi ih ⊢
  obtain ⟨ip, t6, tb⟩ := hi
  refine zs_iload_n hE 0 dX6_ranksAreOwn_4 rfl rfl ?_
  refine zs_aload_n hE 2 dX6_ranksAreOwn_5 rfl rfl ?_
  refine zs_get hE fl_X6_44 hx rfl dX6_ranksAreOwn_6 ?_
  refine zs_icmp_geN (tgt := 38) hE (by omega) (by omega) dX6_ranksAreOwn_9 (by decide) (fun h7 => ?_) (fun h => ?_)
  · refine zs_iconst (v := (nI 1)) hE dX6_ranksAreOwn_38 (by decide) ?_
    exact zs_zret hE hr (rfl) (⟨rfl, rfl⟩) (by decide) (by decide) dX6_ranksAreOwn_39
  · have rb := sp_rk_bd h
    refine zs_iconst (v := (nI 1)) hE dX6_ranksAreOwn_12 (by decide) ?_
    refine zs_aload_n hE 2 dX6_ranksAreOwn_13 rfl rfl ?_
    refine zs_iload_n hE 0 dX6_ranksAreOwn_14 rfl rfl ?_
    refine zs_callVR (av := [.int (nI i)]) (st := [.int (nI 1)]) (b := x) hE (m_X6_rankOf D E B l κ S x i h) rfl rfl sV_X6_343 hx rfl rfl (hp) ⟨by decide, by decide⟩ ⟨by decide, by decide⟩ (Nat.le_of_ble_eq_true rfl) dX6_ranksAreOwn_15 ?_
    refine zs_ishl hE dX6_ranksAreOwn_18 ?_
    refine zs_top (v' := .int (nI (2 ^ sp_rk S i))) (by rw [sp_bit6 _ (show sp_rk S i < 6 by omega)]) ?_
    refine zs_istore_n (lo' := [(3, .int (nI (2 ^ sp_rk S i))), (2, .int (nI i)), (1, .int (nI t)), (0, .ref x)]) hE dX6_ranksAreOwn_19 rfl (by decide) rfl ?_
    refine zs_iload_n hE 2 dX6_ranksAreOwn_20 rfl rfl ?_
    refine zs_iload_n hE 0 dX6_ranksAreOwn_21 rfl rfl ?_
    refine zs_iand hE dX6_ranksAreOwn_22 ?_
    refine zs_if_eq (tgt := 28) hE dX6_ranksAreOwn_23 (by decide) (fun h5 => ?_) (fun h5 => ?_)
    · refine zs_iload_n hE 2 dX6_ranksAreOwn_28 rfl rfl ?_
      refine zs_iload_n hE 0 dX6_ranksAreOwn_29 rfl rfl ?_
      refine zs_ior hE dX6_ranksAreOwn_30 ?_
      refine zs_top (v' := .int (nI (t ||| 2 ^ sp_rk S i))) (by rw [(b6_or t t6 _ (show sp_rk S i < 6 by omega)).1]) ?_
      refine zs_istore_n (lo' := [(1, .int (nI (t ||| 2 ^ sp_rk S i))), (3, .int (nI (2 ^ sp_rk S i))), (2, .int (nI i)), (0, .ref x)]) hE dX6_ranksAreOwn_31 rfl (by decide) rfl ?_
      refine zs_iincN (lo' := [(2, .int (nI (i + 1))), (1, .int (nI (t ||| 2 ^ sp_rk S i))), (3, .int (nI (2 ^ sp_rk S i))), (0, .ref x)]) hE 2 dX6_ranksAreOwn_32 rfl (by decide) rfl ?_
      refine zs_goto (tgt := 4) hE dX6_ranksAreOwn_35 (by decide) ?_
      refine zs_sub (lo' := [(2, .int (nI (i + 1))), (1, .int (nI (t ||| 2 ^ sp_rk S i))), (0, .ref x)]) [0, 1, 3] rfl ?_
      exact ih (i + 1) (t ||| 2 ^ sp_rk S i) (⟨by omega, (b6_or t t6 _ (show sp_rk S i < 6 by omega)).2, fun q q1 q2 => by rcases b6_bit t t6 _ (show sp_rk S i < 6 by omega) q q1 q2 with w | w; obtain ⟨j, j1, j2⟩ := tb q q1 w; exact ⟨j, by omega, j2⟩; exact ⟨i, by omega, w.symm⟩⟩) (by omega)
    · exact absurd (b6_and t t6 _ (show sp_rk S i < 6 by omega)) (fun w => by
              rcases w with w | w
              · exact h5 w
              · obtain ⟨j, j1, j2⟩ := tb _ (by omega) w
                have := sp_rk_inj (by omega) h j2
                omega)

set_option maxHeartbeats 4000000 in
set_option maxRecDepth 100000 in
theorem m_X6_isSound (D : va_G) (E : Nat → ClassId) (B : Nat) (l : Launch) (κ : Nat → Nat) (S : sp_S) (x : Nat) : zs_Ct D E B l yX6_isSound cX6_isSound 1 (some .boolean) ({ frames := 6, cells := 0, slots := 0, locals := 149 } : Room) [.ref x] (fun H => cs_W D E κ S x H) (zs_N) (zs_ro (.int (nI 1))) := by
  refine zs_ct (by decide) (Nat.le_of_ble_eq_true rfl) (fun p e s m below meth c hE hr hin hp => ?_)
  refine zs_lo (lo' := [(0, .ref x)]) rfl ?_
  obtain ⟨hX0, hw⟩ := id hp
  obtain ⟨a1, a2, a3, a4, a5, lp, lv, lh, lz, tg, ⟨t0, t1, t2, t3, t4, t5, hx, r1, r2, r3, r4, r5⟩, htg, hP, hV, hG, hZ, hκ⟩ := hX0
  obtain ⟨wN, wP, wV, wA, wH, wZ, wF⟩ := id hw
  obtain ⟨n6, n40, n12, n8, n99⟩ := id wN
  refine zs_aload_n hE 0 dX6_isSound_0 rfl rfl ?_
  refine zs_callVR (av := []) (st := []) (b := x) hE (m_X6_prizesAreShared D E B l κ S x) rfl rfl sV_X6_307 hx rfl rfl (hp) ⟨by decide, by decide⟩ ⟨by decide, by decide⟩ (Nat.le_of_ble_eq_true rfl) dX6_isSound_1 ?_
  refine zs_if_eqN (tgt := 25) hE (by decide) dX6_isSound_4 (by decide) (fun w => absurd w (by decide)) (fun _ => ?_)
  refine zs_aload_n hE 0 dX6_isSound_7 rfl rfl ?_
  refine zs_callVR (av := []) (st := []) (b := x) hE (m_X6_writtenAreNear D E B l κ S x) rfl rfl sV_X6_311 hx rfl rfl (hp) ⟨by decide, by decide⟩ ⟨by decide, by decide⟩ (Nat.le_of_ble_eq_true rfl) dX6_isSound_8 ?_
  refine zs_if_eqN (tgt := 25) hE (by decide) dX6_isSound_11 (by decide) (fun w => absurd w (by decide)) (fun _ => ?_)
  refine zs_aload_n hE 0 dX6_isSound_14 rfl rfl ?_
  refine zs_callVR (av := []) (st := []) (b := x) hE (m_X6_ranksAreOwn D E B l κ S x) rfl rfl sV_X6_314 hx rfl rfl (hp) ⟨by decide, by decide⟩ ⟨by decide, by decide⟩ (Nat.le_of_ble_eq_true rfl) dX6_isSound_15 ?_
  refine zs_if_eqN (tgt := 25) hE (by decide) dX6_isSound_18 (by decide) (fun w => absurd w (by decide)) (fun _ => ?_)
  refine zs_iconst (v := (nI 1)) hE dX6_isSound_21 (by decide) ?_
  refine zs_goto (tgt := 26) hE dX6_isSound_22 (by decide) ?_
  exact zs_zret hE hr (rfl) (⟨rfl, rfl⟩) (by decide) (by decide) dX6_isSound_26


/-! what the class reads of its state -/
def cs_W (D : va_G) (E : Nat → ClassId) (κ : Nat → Nat) (S : sp_S) (x : Nat) (H : Heap) : Prop := cs_X D E κ S x H ∧ sp_wf S
theorem sp_pt_le {g : Nat → Nat} (h : ∀ j, j < 5 → g j ≤ 21) : sp_pt g ≤ 100 := by
  have := (sc_b h 5 (by decide)).1
  unfold sp_pt
  by_cases z : 4 ≤ sc_n g 5
  · rw [if_pos z]; omega
  · rw [if_neg z]; omega
theorem sp_op_le {S : sp_S} (h : sw_H S) (i : Nat) : sp_op S i ≤ 100 * 3 := sm_le (fun r _ => sp_pt_le (sp_ctb h i r))
theorem nI_s0 {a b : Nat} (ha : a < 2 ^ 30) (hb : b < 2 ^ 30) : nI a - nI b = 0 ↔ a = b := by
  rw [← Int32.toInt_inj, Int32.toInt_sub, nI_toInt (by omega), nI_toInt (by omega), Int.bmod_eq_of_le (by omega) (by omega)]
  rw [show (0 : Int32).toInt = 0 from rfl]; omega
theorem nI_sle {a b : Nat} (ha : a < 2 ^ 30) (hb : b < 2 ^ 30) : nI a - nI b ≤ 0 ↔ a ≤ b := by
  rw [Int32.le_iff_toInt_le, Int32.toInt_sub, nI_toInt (by omega), nI_toInt (by omega), Int.bmod_eq_of_le (by omega) (by omega)]
  rw [show (0 : Int32).toInt = 0 from rfl]; omega
theorem ath_in {S : sp_S} {lh : Nat → Option Nat} {i r n : Nat} (hi : i < n) (hr : r < 4) (hn : n ≤ 6) : sp_ath (nI r) (nI i) n lh = lh (i * 4 + r) := by
  rw [sp_ath, sp_i_in hr (by decide), Option.bind_some, sp_i_in hi (by omega), Option.bind_some]
theorem cs_G.at {D : va_G} {E : Nat → ClassId} {κ : Nat → Nat} {H : Heap} {lh : Nat → Option Nat} {S : sp_S} (h : cs_G D E κ H lh S) {i r : Nat} (hi : i < sp_np S) (hr : r < 4) : ∃ a t g : Nat, lh (i * 4 + r) = some a ∧ cs_h D E κ H (i * 4 + r) a t g (sp_hv S i r) (sp_mk S i r) (sp_ct S i r) := by
  have := h.2 (i * 4 + r) (by omega)
  rw [show (i * 4 + r) / 4 = i by omega, show (i * 4 + r) % 4 = r by omega] at this
  exact this

set_option maxHeartbeats 4000000 in
set_option maxRecDepth 100000 in
theorem m_X6_scoreIn (D : va_G) (E : Nat → ClassId) (B : Nat) (l : Launch) (κ : Nat → Nat) (S : sp_S) (x : Nat) (i r : Nat) (hi : i < sp_np S) (hr4 : r < 4) : zs_Ct D E B l yX6_scoreIn cX6_scoreIn 4 (some .int) ({ frames := 1, cells := 0, slots := 0, locals := 28 } : Room) [.ref x, .int (nI r), .int (nI i)] (fun H => cs_W D E κ S x H) (zs_N) (zs_ro (.int (nI (sp_pt (sp_ct S i r))))) := by
  refine zs_ct (by decide) (Nat.le_of_ble_eq_true rfl) (fun p e s m below meth c hE hr hin hp => ?_)
  refine zs_lo (lo' := [(0, .ref x), (1, .int (nI r)), (2, .int (nI i))]) rfl ?_
  obtain ⟨hX0, hw⟩ := id hp
  obtain ⟨a1, a2, a3, a4, a5, lp, lv, lh, lz, tg, ⟨t0, t1, t2, t3, t4, t5, hx, r1, r2, r3, r4, r5⟩, htg, hP, hV, hG, hZ, hκ⟩ := hX0
  obtain ⟨wN, wP, wV, wA, wH, wZ, wF⟩ := id hw
  obtain ⟨n6, n40, n12, n8, n99⟩ := id wN
  refine zs_aload_n hE 0 dX6_scoreIn_0 rfl rfl ?_
  refine zs_iload_n hE 1 dX6_scoreIn_1 rfl rfl ?_
  refine zs_iload_n hE 2 dX6_scoreIn_2 rfl rfl ?_
  obtain ⟨ha1, ht1, hg1, hl1, ⟨-, -, -, hb1, hc1, hd1⟩⟩ := hG.at (i := i) (r := r) (hi) (hr4)
  refine zs_callVR (av := [.int (nI r), .int (nI i)]) (st := []) (b := x) hE (m_X6_hearingAt D E B l x a3 (sp_np S) lh (nI r) (nI i) (.ref a1) (.ref a2) (.int (nI (sp_nv S))) (.ref a4) (.int (nI (sp_nz S))) (.ref a5) (.int (nI (sp_ty S).length)) n6) rfl rfl sV_X6_208 hx rfl rfl (⟨hx, r3⟩) ⟨by decide, by decide⟩ ⟨by decide, by decide⟩ (Nat.le_of_ble_eq_true rfl) dX6_scoreIn_3 ?_
  refine zs_top (v' := .ref ha1) (by rw [ath_in (S := S) (hi) (hr4) n6, hl1]; rfl) ?_
  refine zs_astore_n (lo' := [(3, .ref ha1), (0, .ref x), (1, .int (nI r)), (2, .int (nI i))]) hE dX6_scoreIn_6 rfl (by decide) rfl ?_
  refine zs_aload_n hE 0 dX6_scoreIn_7 rfl rfl ?_
  refine zs_ifnonnullR (tgt := 15) hE dX6_scoreIn_8 (by decide) ?_
  refine zs_aload_n hE 0 dX6_scoreIn_15 rfl rfl ?_
  refine zs_callVR (av := []) (st := []) (b := ha1) hE (m_X0_score D E B l ha1 ht1 hg1 _ (sp_ct S i r) (sp_ctb wH i r)) rfl rfl sV_X6_246 hb1 rfl rfl (⟨hb1, hd1⟩) ⟨by decide, by decide⟩ ⟨by decide, by decide⟩ (Nat.le_of_ble_eq_true rfl) dX6_scoreIn_16 ?_
  exact zs_iret hE hr (⟨rfl, rfl⟩) (by decide) (by decide) dX6_scoreIn_19

set_option maxHeartbeats 4000000 in
set_option maxRecDepth 100000 in
theorem m_X6_fallingMarksIn (D : va_G) (E : Nat → ClassId) (B : Nat) (l : Launch) (κ : Nat → Nat) (S : sp_S) (x : Nat) (i r : Nat) (hi : i < sp_np S) (hr4 : r < 4) : zs_Ct D E B l yX6_fallingMarksIn cX6_fallingMarksIn 4 (some .long) ({ frames := 1, cells := 0, slots := 0, locals := 26 } : Room) [.ref x, .int (nI r), .int (nI i)] (fun H => cs_W D E κ S x H) (zs_N) (zs_ro (.long (lN (sp_ky S i r)))) := by
  refine zs_ct (by decide) (Nat.le_of_ble_eq_true rfl) (fun p e s m below meth c hE hr hin hp => ?_)
  refine zs_lo (lo' := [(0, .ref x), (1, .int (nI r)), (2, .int (nI i))]) rfl ?_
  obtain ⟨hX0, hw⟩ := id hp
  obtain ⟨a1, a2, a3, a4, a5, lp, lv, lh, lz, tg, ⟨t0, t1, t2, t3, t4, t5, hx, r1, r2, r3, r4, r5⟩, htg, hP, hV, hG, hZ, hκ⟩ := hX0
  obtain ⟨wN, wP, wV, wA, wH, wZ, wF⟩ := id hw
  obtain ⟨n6, n40, n12, n8, n99⟩ := id wN
  refine zs_aload_n hE 0 dX6_fallingMarksIn_0 rfl rfl ?_
  refine zs_iload_n hE 1 dX6_fallingMarksIn_1 rfl rfl ?_
  refine zs_iload_n hE 2 dX6_fallingMarksIn_2 rfl rfl ?_
  obtain ⟨ha1, ht1, hg1, hl1, ⟨-, -, -, hb1, hc1, hd1⟩⟩ := hG.at (i := i) (r := r) (hi) (hr4)
  refine zs_callVR (av := [.int (nI r), .int (nI i)]) (st := []) (b := x) hE (m_X6_hearingAt D E B l x a3 (sp_np S) lh (nI r) (nI i) (.ref a1) (.ref a2) (.int (nI (sp_nv S))) (.ref a4) (.int (nI (sp_nz S))) (.ref a5) (.int (nI (sp_ty S).length)) n6) rfl rfl sV_X6_208 hx rfl rfl (⟨hx, r3⟩) ⟨by decide, by decide⟩ ⟨by decide, by decide⟩ (Nat.le_of_ble_eq_true rfl) dX6_fallingMarksIn_3 ?_
  refine zs_top (v' := .ref ha1) (by rw [ath_in (S := S) (hi) (hr4) n6, hl1]; rfl) ?_
  refine zs_astore_n (lo' := [(3, .ref ha1), (0, .ref x), (1, .int (nI r)), (2, .int (nI i))]) hE dX6_fallingMarksIn_6 rfl (by decide) rfl ?_
  refine zs_aload_n hE 0 dX6_fallingMarksIn_7 rfl rfl ?_
  refine zs_ifnonnullR (tgt := 15) hE dX6_fallingMarksIn_8 (by decide) ?_
  refine zs_aload_n hE 0 dX6_fallingMarksIn_15 rfl rfl ?_
  refine zs_callVR (av := []) (st := []) (b := ha1) hE (m_X0_fallingMarks D E B l ha1 ht1 hg1 _ (sp_ct S i r) (sp_ctb wH i r)) rfl rfl sV_X6_332 hb1 rfl rfl (⟨hb1, hd1⟩) ⟨by decide, by decide⟩ ⟨by decide, by decide⟩ (Nat.le_of_ble_eq_true rfl) dX6_fallingMarksIn_16 ?_
  exact zs_lret hE hr (⟨rfl, rfl⟩) (by decide) (by decide) dX6_fallingMarksIn_19

set_option maxHeartbeats 4000000 in
set_option maxRecDepth 100000 in
theorem m_X6_openScore (D : va_G) (E : Nat → ClassId) (B : Nat) (l : Launch) (κ : Nat → Nat) (S : sp_S) (x : Nat) (i : Nat) (hi : i < sp_np S) : zs_Ct D E B l yX6_openScore cX6_openScore 4 (some .int) ({ frames := 2, cells := 0, slots := 0, locals := 51 } : Room) [.ref x, .int (nI i)] (fun H => cs_W D E κ S x H) (zs_N) (zs_ro (.int (nI (sp_op S i)))) := by
  refine zs_ct (by decide) (Nat.le_of_ble_eq_true rfl) (fun p e s m below meth c hE hr hin hp => ?_)
  refine zs_lo (lo' := [(0, .ref x), (1, .int (nI i))]) rfl ?_
  obtain ⟨hX0, hw⟩ := id hp
  obtain ⟨a1, a2, a3, a4, a5, lp, lv, lh, lz, tg, ⟨t0, t1, t2, t3, t4, t5, hx, r1, r2, r3, r4, r5⟩, htg, hP, hV, hG, hZ, hκ⟩ := hX0
  obtain ⟨wN, wP, wV, wA, wH, wZ, wF⟩ := id hw
  obtain ⟨n6, n40, n12, n8, n99⟩ := id wN
  refine zs_iconst (v := (nI 0)) hE dX6_openScore_0 (by decide) ?_
  refine zs_istore_n (lo' := [(2, .int (nI 0)), (0, .ref x), (1, .int (nI i))]) hE dX6_openScore_1 rfl (by decide) rfl ?_
  refine zs_iconst (v := (nI 0)) hE dX6_openScore_2 (by decide) ?_
  refine zs_istore_n (lo' := [(3, .int (nI 0)), (2, .int (nI 0)), (0, .ref x), (1, .int (nI i))]) hE dX6_openScore_3 rfl (by decide) rfl ?_
  have hin := hi
  refine zs_sub (lo' := [(3, .int (nI 0)), (2, .int (nI 0)), (0, .ref x), (1, .int (nI i))]) [0, 1, 2, 3] rfl ?_
  refine zs_ind1 (Hs := fun (r : Nat) => s.heap) (ks := fun (r : Nat) => 0) (ns := fun (r : Nat) => 0) (los := fun (r : Nat) => [(3, .int (nI r)), (2, .int (nI (sm (fun r => sp_pt (sp_ct S i r)) r))), (0, .ref x), (1, .int (nI i))]) (I := fun (r : Nat) => r ≤ 3) (μ := fun (r : Nat) => 3 - r) 0 (Nat.zero_le _) (fun r hi ih => ?_)
  try dsimp only at hi ih ⊢
  have hi' := hi
  refine zs_iload_n hE 0 dX6_openScore_4 rfl rfl ?_
  refine zs_iconst (v := (nI 3)) hE dX6_openScore_5 (by decide) ?_
  refine zs_icmp_geN (tgt := 24) hE (by omega) (by decide) dX6_openScore_6 (by decide) (fun h7 => ?_) (fun h => ?_)
  · obtain rfl : r = 3 := by omega
    refine zs_iload_n hE 1 dX6_openScore_24 rfl rfl ?_
    exact zs_iret hE hr (⟨rfl, rfl⟩) (by decide) (by decide) dX6_openScore_25
  · refine zs_iload_n hE 1 dX6_openScore_9 rfl rfl ?_
    refine zs_aload_n hE 2 dX6_openScore_10 rfl rfl ?_
    refine zs_iload_n hE 0 dX6_openScore_11 rfl rfl ?_
    refine zs_iload_n hE 3 dX6_openScore_12 rfl rfl ?_
    refine zs_callVR (av := [.int (nI r), .int (nI i)]) (st := [.int (nI (sm (fun r => sp_pt (sp_ct S i r)) r))]) (b := x) hE (m_X6_scoreIn D E B l κ S x i r hin (by omega)) rfl rfl sV_X6_328 hx rfl rfl (hp) ⟨by decide, by decide⟩ ⟨by decide, by decide⟩ (Nat.le_of_ble_eq_true rfl) dX6_openScore_13 ?_
    refine zs_iaddN hE dX6_openScore_16 ?_
    refine zs_istore_n (lo' := [(2, .int (nI (sm (fun r => sp_pt (sp_ct S i r)) r + (sp_pt (sp_ct S i r))))), (3, .int (nI r)), (0, .ref x), (1, .int (nI i))]) hE dX6_openScore_17 rfl (by decide) rfl ?_
    refine zs_iincN (lo' := [(3, .int (nI (r + 1))), (2, .int (nI (sm (fun r => sp_pt (sp_ct S i r)) r + (sp_pt (sp_ct S i r))))), (0, .ref x), (1, .int (nI i))]) hE 1 dX6_openScore_18 rfl (by decide) rfl ?_
    refine zs_goto (tgt := 4) hE dX6_openScore_21 (by decide) ?_
    refine zs_sub (lo' := [(3, .int (nI (r + 1))), (2, .int (nI (sm (fun r => sp_pt (sp_ct S i r)) r + (sp_pt (sp_ct S i r))))), (0, .ref x), (1, .int (nI i))]) [0, 1, 2, 3] rfl ?_
    exact ih (r + 1) (by omega) (by omega)

theorem sp_ah_1 {S : sp_S} {i j : Nat} (h : sp_op S i ≠ sp_op S j) : sp_ah S i j ↔ sp_op S j < sp_op S i := by unfold sp_ah; omega
theorem sp_ah_2 {S : sp_S} {i j : Nat} (h : sp_op S i = sp_op S j) (h2 : sp_pt (sp_ct S i 3) ≠ sp_pt (sp_ct S j 3)) : sp_ah S i j ↔ sp_pt (sp_ct S j 3) < sp_pt (sp_ct S i 3) := by unfold sp_ah; omega
theorem sp_ah_3 {S : sp_S} {i j r : Nat} (h : sp_op S i = sp_op S j) (h2 : sp_pt (sp_ct S i 3) = sp_pt (sp_ct S j 3)) (hr : r < 3) (h3 : ∀ q, q < r → sp_ky S i q = sp_ky S j q) (h4 : sp_ky S i r ≠ sp_ky S j r) : sp_ah S i j ↔ sp_ky S j r < sp_ky S i r := by
  unfold sp_ah
  rcases (show r = 0 ∨ r = 1 ∨ r = 2 by omega) with rfl | rfl | rfl
  · omega
  · have := h3 0 (by omega); omega
  · have := h3 0 (by omega); have := h3 1 (by omega); omega
theorem sp_ah_4 {S : sp_S} {i j : Nat} (h : sp_op S i = sp_op S j) (h2 : sp_pt (sp_ct S i 3) = sp_pt (sp_ct S j 3)) (h3 : ∀ q, q < 3 → sp_ky S i q = sp_ky S j q) : sp_ah S i j ↔ i < j := by
  unfold sp_ah
  have := h3 0 (by omega); have := h3 1 (by omega); have := h3 2 (by omega); omega
set_option maxHeartbeats 4000000 in
set_option maxRecDepth 100000 in
theorem m_X6_isAhead (D : va_G) (E : Nat → ClassId) (B : Nat) (l : Launch) (κ : Nat → Nat) (S : sp_S) (x : Nat) (i j : Nat) (hi : i < sp_np S) (hj : j < sp_np S) : zs_Ct D E B l yX6_isAhead cX6_isAhead 10 (some .boolean) ({ frames := 3, cells := 0, slots := 0, locals := 74 } : Room) [.ref x, .int (nI i), .int (nI j)] (fun H => cs_W D E κ S x H) (zs_N) (zs_ro (.int (zs_b (sp_ah S i j)))) := by
  refine zs_ct (by decide) (Nat.le_of_ble_eq_true rfl) (fun p e s m below meth c hE hr hin hp => ?_)
  refine zs_lo (lo' := [(0, .ref x), (1, .int (nI i)), (2, .int (nI j))]) rfl ?_
  obtain ⟨hX0, hw⟩ := id hp
  obtain ⟨a1, a2, a3, a4, a5, lp, lv, lh, lz, tg, ⟨t0, t1, t2, t3, t4, t5, hx, r1, r2, r3, r4, r5⟩, htg, hP, hV, hG, hZ, hκ⟩ := hX0
  obtain ⟨wN, wP, wV, wA, wH, wZ, wF⟩ := id hw
  obtain ⟨n6, n40, n12, n8, n99⟩ := id wN
  have oi := sp_op_le wH i
  have oj := sp_op_le wH j
  have pi3 := sp_pt_le (sp_ctb wH i 3)
  have pj3 := sp_pt_le (sp_ctb wH j 3)
  refine zs_aload_n hE 0 dX6_isAhead_0 rfl rfl ?_
  refine zs_iload_n hE 1 dX6_isAhead_1 rfl rfl ?_
  refine zs_callVR (av := [.int (nI i)]) (st := []) (b := x) hE (m_X6_openScore D E B l κ S x i hi) rfl rfl sV_X6_255 hx rfl rfl (hp) ⟨by decide, by decide⟩ ⟨by decide, by decide⟩ (Nat.le_of_ble_eq_true rfl) dX6_isAhead_2 ?_
  refine zs_aload_n hE 0 dX6_isAhead_5 rfl rfl ?_
  refine zs_iload_n hE 2 dX6_isAhead_6 rfl rfl ?_
  refine zs_callVR (av := [.int (nI j)]) (st := [.int (nI (sp_op S i))]) (b := x) hE (m_X6_openScore D E B l κ S x j hj) rfl rfl sV_X6_255 hx rfl rfl (hp) ⟨by decide, by decide⟩ ⟨by decide, by decide⟩ (Nat.le_of_ble_eq_true rfl) dX6_isAhead_7 ?_
  refine zs_isub hE dX6_isAhead_10 ?_
  refine zs_istore_n (lo' := [(3, .int ((nI (sp_op S i)) - (nI (sp_op S j)))), (0, .ref x), (1, .int (nI i)), (2, .int (nI j))]) hE dX6_isAhead_11 rfl (by decide) rfl ?_
  refine zs_iload_n hE 0 dX6_isAhead_12 rfl rfl ?_
  refine zs_if_eq (tgt := 26) hE dX6_isAhead_13 (by decide) (fun h1 => ?_) (fun h1 => ?_)
  · have e1 : sp_op S i = sp_op S j := (nI_s0 (by omega) (by omega)).mp h1
    refine zs_aload_n hE 1 dX6_isAhead_26 rfl rfl ?_
    refine zs_iconst (v := (nI 3)) hE dX6_isAhead_27 (by decide) ?_
    refine zs_iload_n hE 2 dX6_isAhead_28 rfl rfl ?_
    refine zs_callVR (av := [.int (nI 3), .int (nI i)]) (st := []) (b := x) hE (m_X6_scoreIn D E B l κ S x i 3 hi (by decide)) rfl rfl sV_X6_328 hx rfl rfl (hp) ⟨by decide, by decide⟩ ⟨by decide, by decide⟩ (Nat.le_of_ble_eq_true rfl) dX6_isAhead_29 ?_
    refine zs_aload_n hE 1 dX6_isAhead_32 rfl rfl ?_
    refine zs_iconst (v := (nI 3)) hE dX6_isAhead_33 (by decide) ?_
    refine zs_iload_n hE 3 dX6_isAhead_34 rfl rfl ?_
    refine zs_callVR (av := [.int (nI 3), .int (nI j)]) (st := [.int (nI (sp_pt (sp_ct S i 3)))]) (b := x) hE (m_X6_scoreIn D E B l κ S x j 3 hj (by decide)) rfl rfl sV_X6_328 hx rfl rfl (hp) ⟨by decide, by decide⟩ ⟨by decide, by decide⟩ (Nat.le_of_ble_eq_true rfl) dX6_isAhead_35 ?_
    refine zs_isub hE dX6_isAhead_38 ?_
    refine zs_istore (lo' := [(4, .int ((nI (sp_pt (sp_ct S i 3))) - (nI (sp_pt (sp_ct S j 3))))), (3, .int ((nI (sp_op S i)) - (nI (sp_op S j)))), (0, .ref x), (1, .int (nI i)), (2, .int (nI j))]) hE dX6_isAhead_39 (by decide) rfl ?_
    refine zs_iload hE 0 dX6_isAhead_41 rfl ?_
    refine zs_if_eq (tgt := 57) hE dX6_isAhead_43 (by decide) (fun h2 => ?_) (fun h2 => ?_)
    · have e2 : sp_pt (sp_ct S i 3) = sp_pt (sp_ct S j 3) := (nI_s0 (by omega) (by omega)).mp h2
      refine zs_iconst (v := (nI 0)) hE dX6_isAhead_57 (by decide) ?_
      refine zs_istore (lo' := [(5, .int (nI 0)), (4, .int ((nI (sp_pt (sp_ct S i 3))) - (nI (sp_pt (sp_ct S j 3))))), (3, .int ((nI (sp_op S i)) - (nI (sp_op S j)))), (0, .ref x), (1, .int (nI i)), (2, .int (nI j))]) hE dX6_isAhead_58 (by decide) rfl ?_
      have hin := hi
      refine zs_sub (lo' := [(5, .int (nI 0)), (0, .ref x), (1, .int (nI i)), (2, .int (nI j))]) [0, 3, 4, 5] rfl ?_
      refine zs_ind1 (Hs := fun (r : Nat) => s.heap) (ks := fun (r : Nat) => 0) (ns := fun (r : Nat) => 0) (los := fun (r : Nat) => [(5, .int (nI r)), (0, .ref x), (1, .int (nI i)), (2, .int (nI j))]) (I := fun (r : Nat) => r ≤ 3 ∧ ∀ q, q < r → sp_ky S i q = sp_ky S j q) (μ := fun (r : Nat) => 3 - r) 0 (⟨Nat.zero_le _, fun q hq => absurd hq (Nat.not_lt_zero _)⟩) (fun r hi ih => ?_)
      try dsimp only at hi ih ⊢
      obtain ⟨r3', e3⟩ := hi
      refine zs_iload hE 0 dX6_isAhead_60 rfl ?_
      refine zs_iconst (v := (nI 3)) hE dX6_isAhead_62 (by decide) ?_
      refine zs_icmp_geN (tgt := 112) hE (by omega) (by decide) dX6_isAhead_63 (by decide) (fun h8 => ?_) (fun h => ?_)
      · obtain rfl : r = 3 := by omega
        refine zs_iload_n hE 2 dX6_isAhead_112 rfl rfl ?_
        refine zs_iload_n hE 3 dX6_isAhead_113 rfl rfl ?_
        refine zs_icmp_geN (tgt := 121) hE (by omega) (by omega) dX6_isAhead_114 (by decide) (fun h9 => ?_) (fun h9 => ?_)
        · refine zs_iconst (v := (nI 0)) hE dX6_isAhead_121 (by decide) ?_
          refine zs_top (v' := .int (zs_b (sp_ah S i j))) (vb0 (fun w => by have := (sp_ah_4 e1 e2 e3).mp w; omega)) ?_
          exact zs_zret hE hr (zs_bnar _) (⟨rfl, rfl⟩) (by decide) (by decide) dX6_isAhead_122
        · refine zs_iconst (v := (nI 1)) hE dX6_isAhead_117 (by decide) ?_
          refine zs_goto (tgt := 122) hE dX6_isAhead_118 (by decide) ?_
          refine zs_top (v' := .int (zs_b (sp_ah S i j))) (vb1 ((sp_ah_4 e1 e2 e3).mpr (by omega))) ?_
          exact zs_zret hE hr (zs_bnar _) (⟨rfl, rfl⟩) (by decide) (by decide) dX6_isAhead_122
      · refine zs_aload_n hE 1 dX6_isAhead_66 rfl rfl ?_
        refine zs_iload hE 0 dX6_isAhead_67 rfl ?_
        refine zs_iload_n hE 2 dX6_isAhead_69 rfl rfl ?_
        refine zs_callVR (av := [.int (nI r), .int (nI i)]) (st := []) (b := x) hE (m_X6_fallingMarksIn D E B l κ S x i r hin (by omega)) rfl rfl sV_X6_335 hx rfl rfl (hp) ⟨by decide, by decide⟩ ⟨by decide, by decide⟩ (Nat.le_of_ble_eq_true rfl) dX6_isAhead_70 ?_
        refine zs_lstore (lo' := [(6, .long (lN (sp_ky S i r))), (5, .int (nI r)), (0, .ref x), (1, .int (nI i)), (2, .int (nI j))]) hE dX6_isAhead_73 (by decide) rfl ?_
        refine zs_aload_n hE 2 dX6_isAhead_75 rfl rfl ?_
        refine zs_iload hE 1 dX6_isAhead_76 rfl ?_
        refine zs_iload_n hE 4 dX6_isAhead_78 rfl rfl ?_
        refine zs_callVR (av := [.int (nI r), .int (nI j)]) (st := []) (b := x) hE (m_X6_fallingMarksIn D E B l κ S x j r hj (by omega)) rfl rfl sV_X6_335 hx rfl rfl (hp) ⟨by decide, by decide⟩ ⟨by decide, by decide⟩ (Nat.le_of_ble_eq_true rfl) dX6_isAhead_79 ?_
        have k1 := sc_kb (sp_ctb wH i r)
        have k2 := sc_kb (sp_ctb wH j r)
        refine zs_lstore (lo' := [(8, .long (lN (sp_ky S j r))), (6, .long (lN (sp_ky S i r))), (5, .int (nI r)), (0, .ref x), (1, .int (nI i)), (2, .int (nI j))]) hE dX6_isAhead_82 (by decide) rfl ?_
        refine zs_lload hE 1 dX6_isAhead_84 rfl ?_
        refine zs_lload hE 0 dX6_isAhead_86 rfl ?_
        refine zs_lcmp hE dX6_isAhead_88 ?_
        refine zs_if_eq (tgt := 106) hE dX6_isAhead_89 (by decide) (fun h5 => ?_) (fun h5 => ?_)
        · have e4 : sp_ky S i r = sp_ky S j r := (pk_lEQ k1 k2).mp ((lg_cmp_eq _ _).mp h5)
          refine zs_iincN (lo' := [(5, .int (nI (r + 1))), (8, .long (lN (sp_ky S j r))), (6, .long (lN (sp_ky S i r))), (0, .ref x), (1, .int (nI i)), (2, .int (nI j))]) hE 2 dX6_isAhead_106 rfl (by decide) rfl ?_
          refine zs_goto (tgt := 60) hE dX6_isAhead_109 (by decide) ?_
          refine zs_sub (lo' := [(5, .int (nI (r + 1))), (0, .ref x), (1, .int (nI i)), (2, .int (nI j))]) [0, 3, 4, 5] rfl ?_
          exact ih (r + 1) (⟨by omega, fun q hq => by rcases Nat.lt_or_ge q r with w | w; exact e3 q w; rw [show q = r by omega]; exact e4⟩) (by omega)
        · have e4 : sp_ky S i r ≠ sp_ky S j r := fun w => h5 ((lg_cmp_eq _ _).mpr (by rw [w]))
          have e5 := sp_ah_3 e1 e2 h e3 e4
          refine zs_lload hE 1 dX6_isAhead_92 rfl ?_
          refine zs_lload hE 0 dX6_isAhead_94 rfl ?_
          refine zs_lcmp hE dX6_isAhead_96 ?_
          refine zs_if_le (tgt := 104) hE dX6_isAhead_97 (by decide) (fun h6 => ?_) (fun h6 => ?_)
          · refine zs_iconst (v := (nI 0)) hE dX6_isAhead_104 (by decide) ?_
            refine zs_top (v' := .int (zs_b (sp_ah S i j))) (vb0 (fun w => by have w1 := (pk_lLE k1 k2).mp ((lg_cmp_le _ _).mp h6); have w2 := e5.mp w; unfold sp_ky at w2; omega)) ?_
            exact zs_zret hE hr (zs_bnar _) (⟨rfl, rfl⟩) (by decide) (by decide) dX6_isAhead_105
          · refine zs_iconst (v := (nI 1)) hE dX6_isAhead_100 (by decide) ?_
            refine zs_goto (tgt := 105) hE dX6_isAhead_101 (by decide) ?_
            refine zs_top (v' := .int (zs_b (sp_ah S i j))) (vb1 (e5.mpr (Nat.lt_of_not_le (fun w => h6 ((lg_cmp_le _ _).mpr ((pk_lLE k1 k2).mpr w)))))) ?_
            exact zs_zret hE hr (zs_bnar _) (⟨rfl, rfl⟩) (by decide) (by decide) dX6_isAhead_105
    · have e2 := sp_ah_2 e1 (fun w => h2 ((nI_s0 (by omega) (by omega)).mpr w))
      refine zs_iload hE 0 dX6_isAhead_46 rfl ?_
      refine zs_if_le (tgt := 55) hE dX6_isAhead_48 (by decide) (fun h3 => ?_) (fun h3 => ?_)
      · refine zs_iconst (v := (nI 0)) hE dX6_isAhead_55 (by decide) ?_
        refine zs_top (v' := .int (zs_b (sp_ah S i j))) (vb0 (fun w => by have w1 := (nI_sle (by omega) (by omega)).mp h3; have w2 := e2.mp w; omega)) ?_
        exact zs_zret hE hr (zs_bnar _) (⟨rfl, rfl⟩) (by decide) (by decide) dX6_isAhead_56
      · refine zs_iconst (v := (nI 1)) hE dX6_isAhead_51 (by decide) ?_
        refine zs_goto (tgt := 56) hE dX6_isAhead_52 (by decide) ?_
        refine zs_top (v' := .int (zs_b (sp_ah S i j))) (vb1 (e2.mpr (Nat.lt_of_not_le (fun w => h3 ((nI_sle (by omega) (by omega)).mpr w))))) ?_
        exact zs_zret hE hr (zs_bnar _) (⟨rfl, rfl⟩) (by decide) (by decide) dX6_isAhead_56
  · have e1 := sp_ah_1 (fun w => h1 ((nI_s0 (by omega) (by omega)).mpr w))
    refine zs_iload_n hE 0 dX6_isAhead_16 rfl rfl ?_
    refine zs_if_le (tgt := 24) hE dX6_isAhead_17 (by decide) (fun h3 => ?_) (fun h3 => ?_)
    · refine zs_iconst (v := (nI 0)) hE dX6_isAhead_24 (by decide) ?_
      refine zs_top (v' := .int (zs_b (sp_ah S i j))) (vb0 (fun w => by have w1 := (nI_sle (by omega) (by omega)).mp h3; have w2 := e1.mp w; omega)) ?_
      exact zs_zret hE hr (zs_bnar _) (⟨rfl, rfl⟩) (by decide) (by decide) dX6_isAhead_25
    · refine zs_iconst (v := (nI 1)) hE dX6_isAhead_20 (by decide) ?_
      refine zs_goto (tgt := 25) hE dX6_isAhead_21 (by decide) ?_
      refine zs_top (v' := .int (zs_b (sp_ah S i j))) (vb1 (e1.mpr (Nat.lt_of_not_le (fun w => h3 ((nI_sle (by omega) (by omega)).mpr w))))) ?_
      exact zs_zret hE hr (zs_bnar _) (⟨rfl, rfl⟩) (by decide) (by decide) dX6_isAhead_25

set_option maxHeartbeats 4000000 in
set_option maxRecDepth 100000 in
theorem m_X6_rankOf (D : va_G) (E : Nat → ClassId) (B : Nat) (l : Launch) (κ : Nat → Nat) (S : sp_S) (x : Nat) (i : Nat) (hi : i < sp_np S) : zs_Ct D E B l yX6_rankOf cX6_rankOf 4 (some .int) ({ frames := 4, cells := 0, slots := 0, locals := 103 } : Room) [.ref x, .int (nI i)] (fun H => cs_W D E κ S x H) (zs_N) (zs_ro (.int (nI (sp_rk S i)))) := by
  refine zs_ct (by decide) (Nat.le_of_ble_eq_true rfl) (fun p e s m below meth c hE hr hin hp => ?_)
  refine zs_lo (lo' := [(0, .ref x), (1, .int (nI i))]) rfl ?_
  obtain ⟨hX0, hw⟩ := id hp
  obtain ⟨a1, a2, a3, a4, a5, lp, lv, lh, lz, tg, ⟨t0, t1, t2, t3, t4, t5, hx, r1, r2, r3, r4, r5⟩, htg, hP, hV, hG, hZ, hκ⟩ := hX0
  obtain ⟨wN, wP, wV, wA, wH, wZ, wF⟩ := id hw
  obtain ⟨n6, n40, n12, n8, n99⟩ := id wN
  have hin := hi
  refine zs_iconst (v := (nI 0)) hE dX6_rankOf_0 (by decide) ?_
  refine zs_istore_n (lo' := [(2, .int (nI 0)), (0, .ref x), (1, .int (nI i))]) hE dX6_rankOf_1 rfl (by decide) rfl ?_
  refine zs_iconst (v := (nI 0)) hE dX6_rankOf_2 (by decide) ?_
  refine zs_istore_n (lo' := [(3, .int (nI 0)), (2, .int (nI 0)), (0, .ref x), (1, .int (nI i))]) hE dX6_rankOf_3 rfl (by decide) rfl ?_
  refine zs_sub (lo' := [(3, .int (nI 0)), (2, .int (nI 0)), (0, .ref x), (1, .int (nI i))]) [0, 1, 2, 3] rfl ?_
  refine zs_ind1 (Hs := fun (j : Nat) => s.heap) (ks := fun (j : Nat) => 0) (ns := fun (j : Nat) => 0) (los := fun (j : Nat) => [(3, .int (nI j)), (2, .int (nI (sm (fun j => pI (sp_ah S j i) 1 0) (j)))), (0, .ref x), (1, .int (nI i))]) (I := fun (j : Nat) => j ≤ sp_np S) (μ := fun (j : Nat) => sp_np S - j) 0 (Nat.zero_le _) (fun j hi ih => ?_)
  try dsimp only at hi ih ⊢
  refine zs_iload_n hE 0 dX6_rankOf_4 rfl rfl ?_
  refine zs_aload_n hE 2 dX6_rankOf_5 rfl rfl ?_
  refine zs_get hE fl_X6_44 hx rfl dX6_rankOf_6 ?_
  refine zs_icmp_geN (tgt := 35) hE (by omega) (by omega) dX6_rankOf_9 (by decide) (fun h7 => ?_) (fun h => ?_)
  · obtain rfl : j = sp_np S := by omega
    refine zs_iload_n hE 1 dX6_rankOf_35 rfl rfl ?_
    exact zs_iret hE hr (⟨rfl, rfl⟩) (by decide) (by decide) dX6_rankOf_36
  · refine zs_iload_n hE 0 dX6_rankOf_12 rfl rfl ?_
    refine zs_iload_n hE 3 dX6_rankOf_13 rfl rfl ?_
    refine zs_icmp_eqN (tgt := 29) hE (by omega) (by omega) dX6_rankOf_14 (by decide) (fun h5 => ?_) (fun h5 => ?_)
    · refine zs_iincN (lo' := [(3, .int (nI (j + 1))), (2, .int (nI (sm (fun j => pI (sp_ah S j i) 1 0) (j)))), (0, .ref x), (1, .int (nI i))]) hE 0 dX6_rankOf_29 rfl (by decide) rfl ?_
      refine zs_goto (tgt := 4) hE dX6_rankOf_32 (by decide) ?_
      refine zs_sub (lo' := [(3, .int (nI (j + 1))), (2, .int (nI (sm (fun j => pI (sp_ah S j i) 1 0) (j)))), (0, .ref x), (1, .int (nI i))]) [0, 1, 2, 3] rfl ?_
      refine zs_lo (lo' := [(3, .int (nI (j + 1))), (2, .int (nI (sm (fun j => pI (sp_ah S j i) 1 0) (j + 1)))), (0, .ref x), (1, .int (nI i))]) (by rw [show sm (fun j => pI (sp_ah S j i) 1 0) (j + 1) = sm (fun j => pI (sp_ah S j i) 1 0) j + pI (sp_ah S j i) 1 0 from rfl, pI_f (h5 ▸ sp_ah_ir S j)]; rfl) ?_
      refine zs_sub (lo' := [(3, .int (nI (j + 1))), (2, .int (nI (sm (fun j => pI (sp_ah S j i) 1 0) (j + 1)))), (0, .ref x), (1, .int (nI i))]) [0, 1, 2, 3] rfl ?_
      exact ih (j + 1) (by omega) (by omega)
    · refine zs_aload_n hE 2 dX6_rankOf_17 rfl rfl ?_
      refine zs_iload_n hE 0 dX6_rankOf_18 rfl rfl ?_
      refine zs_iload_n hE 3 dX6_rankOf_19 rfl rfl ?_
      refine zs_callVR (av := [.int (nI j), .int (nI i)]) (st := []) (b := x) hE (m_X6_isAhead D E B l κ S x j i h hin) rfl rfl sV_X6_339 hx rfl rfl (hp) ⟨by decide, by decide⟩ ⟨by decide, by decide⟩ (Nat.le_of_ble_eq_true rfl) dX6_rankOf_20 ?_
      refine zs_if_eqB (tgt := 29) hE dX6_rankOf_23 (by decide) (fun h6 => ?_) (fun h6 => ?_)
      · refine zs_iincN (lo' := [(3, .int (nI (j + 1))), (2, .int (nI (sm (fun j => pI (sp_ah S j i) 1 0) (j)))), (0, .ref x), (1, .int (nI i))]) hE 0 dX6_rankOf_29 rfl (by decide) rfl ?_
        refine zs_goto (tgt := 4) hE dX6_rankOf_32 (by decide) ?_
        refine zs_sub (lo' := [(3, .int (nI (j + 1))), (2, .int (nI (sm (fun j => pI (sp_ah S j i) 1 0) (j)))), (0, .ref x), (1, .int (nI i))]) [0, 1, 2, 3] rfl ?_
        refine zs_lo (lo' := [(3, .int (nI (j + 1))), (2, .int (nI (sm (fun j => pI (sp_ah S j i) 1 0) (j + 1)))), (0, .ref x), (1, .int (nI i))]) (by rw [show sm (fun j => pI (sp_ah S j i) 1 0) (j + 1) = sm (fun j => pI (sp_ah S j i) 1 0) j + pI (sp_ah S j i) 1 0 from rfl, pI_f (h6)]; rfl) ?_
        refine zs_sub (lo' := [(3, .int (nI (j + 1))), (2, .int (nI (sm (fun j => pI (sp_ah S j i) 1 0) (j + 1)))), (0, .ref x), (1, .int (nI i))]) [0, 1, 2, 3] rfl ?_
        exact ih (j + 1) (by omega) (by omega)
      · refine zs_iincN (lo' := [(2, .int (nI (sm (fun j => pI (sp_ah S j i) 1 0) (j) + 1))), (3, .int (nI j)), (0, .ref x), (1, .int (nI i))]) hE 1 dX6_rankOf_26 rfl (by decide) rfl ?_
        refine zs_iincN (lo' := [(3, .int (nI (j + 1))), (2, .int (nI (sm (fun j => pI (sp_ah S j i) 1 0) (j) + 1))), (0, .ref x), (1, .int (nI i))]) hE 1 dX6_rankOf_29 rfl (by decide) rfl ?_
        refine zs_goto (tgt := 4) hE dX6_rankOf_32 (by decide) ?_
        refine zs_sub (lo' := [(3, .int (nI (j + 1))), (2, .int (nI (sm (fun j => pI (sp_ah S j i) 1 0) (j) + 1))), (0, .ref x), (1, .int (nI i))]) [0, 1, 2, 3] rfl ?_
        refine zs_lo (lo' := [(3, .int (nI (j + 1))), (2, .int (nI (sm (fun j => pI (sp_ah S j i) 1 0) (j + 1)))), (0, .ref x), (1, .int (nI i))]) (by rw [show sm (fun j => pI (sp_ah S j i) 1 0) (j + 1) = sm (fun j => pI (sp_ah S j i) 1 0) j + pI (sp_ah S j i) 1 0 from rfl, pI_t h6]) ?_
        refine zs_sub (lo' := [(3, .int (nI (j + 1))), (2, .int (nI (sm (fun j => pI (sp_ah S j i) 1 0) (j + 1)))), (0, .ref x), (1, .int (nI i))]) [0, 1, 2, 3] rfl ?_
        exact ih (j + 1) (by omega) (by omega)

set_option maxHeartbeats 4000000 in
set_option maxRecDepth 100000 in
theorem m_X6_pieceWithRank (D : va_G) (E : Nat → ClassId) (B : Nat) (l : Launch) (κ : Nat → Nat) (S : sp_S) (x : Nat) (y : Int32) : zs_Ct D E B l yX6_pieceWithRank cX6_pieceWithRank 3 (some .int) ({ frames := 5, cells := 0, slots := 0, locals := 126 } : Room) [.ref x, .int y] (fun H => cs_W D E κ S x H) (zs_N) (zs_ro (.int (sp_oi (sp_pr S y)))) := by
  refine zs_ct (by decide) (Nat.le_of_ble_eq_true rfl) (fun p e s m below meth c hE hr hin hp => ?_)
  refine zs_lo (lo' := [(0, .ref x), (1, .int y)]) rfl ?_
  obtain ⟨hX0, hw⟩ := id hp
  obtain ⟨a1, a2, a3, a4, a5, lp, lv, lh, lz, tg, ⟨t0, t1, t2, t3, t4, t5, hx, r1, r2, r3, r4, r5⟩, htg, hP, hV, hG, hZ, hκ⟩ := hX0
  obtain ⟨wN, wP, wV, wA, wH, wZ, wF⟩ := id hw
  obtain ⟨n6, n40, n12, n8, n99⟩ := id wN
  refine zs_iconst (v := (nI 0)) hE dX6_pieceWithRank_0 (by decide) ?_
  refine zs_istore_n (lo' := [(2, .int (nI 0)), (0, .ref x), (1, .int y)]) hE dX6_pieceWithRank_1 rfl (by decide) rfl ?_
  refine zs_sub (lo' := [(2, .int (nI 0)), (0, .ref x), (1, .int y)]) [0, 1, 2] rfl ?_
  refine zs_ind1 (Hs := fun (j : Nat) => s.heap) (ks := fun (j : Nat) => 0) (ns := fun (j : Nat) => 0) (los := fun (j : Nat) => [(2, .int (nI j)), (0, .ref x), (1, .int y)]) (I := fun (j : Nat) => j ≤ sp_np S ∧ ∀ k, k < j → nI (sp_rk S k) ≠ y) (μ := fun (j : Nat) => sp_np S - j) 0 (⟨Nat.zero_le _, fun k hk => absurd hk (Nat.not_lt_zero _)⟩) (fun j hi ih => ?_)
  try dsimp only at hi ih ⊢
  obtain ⟨hj, hb⟩ := hi
  refine zs_iload_n hE 0 dX6_pieceWithRank_2 rfl rfl ?_
  refine zs_aload_n hE 1 dX6_pieceWithRank_3 rfl rfl ?_
  refine zs_get hE fl_X6_44 hx rfl dX6_pieceWithRank_4 ?_
  refine zs_icmp_geN (tgt := 27) hE (by omega) (by omega) dX6_pieceWithRank_7 (by decide) (fun h7 => ?_) (fun h => ?_)
  · obtain rfl : j = sp_np S := by omega
    refine zs_iconst (v := (-1)) hE dX6_pieceWithRank_27 (by decide) ?_
    refine zs_top (v' := .int (sp_oi (sp_pr S y))) (by rw [sp_pr_no n6 hb]; rfl) ?_
    exact zs_iret hE hr (⟨rfl, rfl⟩) (by decide) (by decide) dX6_pieceWithRank_28
  · refine zs_aload_n hE 1 dX6_pieceWithRank_10 rfl rfl ?_
    refine zs_iload_n hE 0 dX6_pieceWithRank_11 rfl rfl ?_
    refine zs_callVR (av := [.int (nI j)]) (st := []) (b := x) hE (m_X6_rankOf D E B l κ S x j h) rfl rfl sV_X6_343 hx rfl rfl (hp) ⟨by decide, by decide⟩ ⟨by decide, by decide⟩ (Nat.le_of_ble_eq_true rfl) dX6_pieceWithRank_12 ?_
    refine zs_iload_n hE 2 dX6_pieceWithRank_15 rfl rfl ?_
    refine zs_icmp_ne (tgt := 21) hE dX6_pieceWithRank_16 (by decide) (fun h5 => ?_) (fun h5 => ?_)
    · refine zs_iincN (lo' := [(2, .int (nI (j + 1))), (0, .ref x), (1, .int y)]) hE 0 dX6_pieceWithRank_21 rfl (by decide) rfl ?_
      refine zs_goto (tgt := 2) hE dX6_pieceWithRank_24 (by decide) ?_
      refine zs_sub (lo' := [(2, .int (nI (j + 1))), (0, .ref x), (1, .int y)]) [0, 1, 2] rfl ?_
      exact ih (j + 1) (⟨by omega, fun k hk => by rcases Nat.lt_or_ge k j with w | w; exact hb k w; rw [show k = j by omega]; exact h5⟩) (by omega)
    · refine zs_iload_n hE 0 dX6_pieceWithRank_19 rfl rfl ?_
      refine zs_top (v' := .int (sp_oi (sp_pr S y))) (by rw [← h5, sp_pr_in n6 h]; rfl) ?_
      exact zs_iret hE hr (⟨rfl, rfl⟩) (by decide) (by decide) dX6_pieceWithRank_20

theorem i_m1 (x : Int32) : x + Int32.ofInt (-1) = x - 1 := by
  rw [Int32.sub_eq_add_neg]
  have : Int32.ofInt (-1) = -1 := by decide
  rw [this]
set_option maxHeartbeats 4000000 in
set_option maxRecDepth 100000 in
theorem m_X6_lastHeard (D : va_G) (E : Nat → ClassId) (B : Nat) (l : Launch) (κ : Nat → Nat) (S : sp_S) (x : Nat) (i : Nat) (hi : i < sp_np S) : zs_Ct D E B l yX6_lastHeard cX6_lastHeard 4 (some .int) ({ frames := 1, cells := 0, slots := 0, locals := 22 } : Room) [.ref x, .int (nI i)] (fun H => cs_W D E κ S x H) (zs_N) (zs_ro (.int (nI (sp_lh S i) - 1))) := by
  refine zs_ct (by decide) (Nat.le_of_ble_eq_true rfl) (fun p e s m below meth c hE hr hin hp => ?_)
  refine zs_lo (lo' := [(0, .ref x), (1, .int (nI i))]) rfl ?_
  obtain ⟨hX0, hw⟩ := id hp
  obtain ⟨a1, a2, a3, a4, a5, lp, lv, lh, lz, tg, ⟨t0, t1, t2, t3, t4, t5, hx, r1, r2, r3, r4, r5⟩, htg, hP, hV, hG, hZ, hκ⟩ := hX0
  obtain ⟨wN, wP, wV, wA, wH, wZ, wF⟩ := id hw
  obtain ⟨n6, n40, n12, n8, n99⟩ := id wN
  have hin := hi
  refine zs_iconst (v := (nI 3)) hE dX6_lastHeard_0 (by decide) ?_
  refine zs_istore_n (lo' := [(2, .int (nI 3)), (0, .ref x), (1, .int (nI i))]) hE dX6_lastHeard_1 rfl (by decide) rfl ?_
  refine zs_lo (lo' := [(2, .int (nI 4 - 1)), (0, .ref x), (1, .int (nI i))]) (rfl) ?_
  refine zs_sub (lo' := [(2, .int (nI 4 - 1)), (0, .ref x), (1, .int (nI i))]) [0, 1, 2] rfl ?_
  refine zs_ind1 (Hs := fun (r : Nat) => s.heap) (ks := fun (r : Nat) => 0) (ns := fun (r : Nat) => 0) (los := fun (r : Nat) => [(2, .int (nI r - 1)), (0, .ref x), (1, .int (nI i))]) (I := fun (r : Nat) => r ≤ 4 ∧ ∀ k, r ≤ k → k < 4 → ¬ sp_hv S i k ≠ 0) (μ := fun (r : Nat) => r) 4 (⟨Nat.le_refl _, fun k k1 k2 => absurd k2 (Nat.not_lt.mpr k1)⟩) (fun r hi ih => ?_)
  try dsimp only at hi ih ⊢
  obtain ⟨hr4, hb⟩ := hi
  refine zs_iload_n hE 0 dX6_lastHeard_2 rfl rfl ?_
  refine zs_if_lt (tgt := 36) hE dX6_lastHeard_3 (by decide) (fun h1 => ?_) (fun h1 => ?_)
  · obtain rfl : r = 0 := by rw [Int32.lt_iff_toInt_lt, nI_mi (by omega), show (0 : Int32).toInt = 0 from rfl] at h1; omega
    refine zs_iconst (v := (-1)) hE dX6_lastHeard_36 (by decide) ?_
    refine zs_top (v' := .int (nI (sp_lh S i) - 1)) (by rw [sp_lh, gr_none.mpr (fun q hq w => hb q (Nat.zero_le _) hq w)]; rfl) ?_
    exact zs_iret hE hr (⟨rfl, rfl⟩) (by decide) (by decide) dX6_lastHeard_37
  · obtain ⟨q, rfl⟩ : ∃ q, r = q + 1 := ⟨r - 1, by rw [Int32.lt_iff_toInt_lt, nI_mi (by omega), show (0 : Int32).toInt = 0 from rfl] at h1; omega⟩
    refine zs_lo (lo' := [(2, .int (nI q)), (0, .ref x), (1, .int (nI i))]) (by rw [nI_pred]) ?_
    refine zs_aload_n hE 1 dX6_lastHeard_6 rfl rfl ?_
    refine zs_iload_n hE 0 dX6_lastHeard_7 rfl rfl ?_
    refine zs_iload_n hE 2 dX6_lastHeard_8 rfl rfl ?_
    obtain ⟨ha1, ht1, hg1, hl1, ⟨-, -, -, hb1, hc1, hd1⟩⟩ := hG.at (i := i) (r := q) (hin) (by omega)
    refine zs_callVR (av := [.int (nI q), .int (nI i)]) (st := []) (b := x) hE (m_X6_hearingAt D E B l x a3 (sp_np S) lh (nI q) (nI i) (.ref a1) (.ref a2) (.int (nI (sp_nv S))) (.ref a4) (.int (nI (sp_nz S))) (.ref a5) (.int (nI (sp_ty S).length)) n6) rfl rfl sV_X6_208 hx rfl rfl (⟨hx, r3⟩) ⟨by decide, by decide⟩ ⟨by decide, by decide⟩ (Nat.le_of_ble_eq_true rfl) dX6_lastHeard_9 ?_
    refine zs_top (v' := .ref ha1) (by rw [ath_in (S := S) (hin) (by omega) n6, hl1]; rfl) ?_
    refine zs_astore_n (lo' := [(3, .ref ha1), (2, .int (nI q)), (0, .ref x), (1, .int (nI i))]) hE dX6_lastHeard_12 rfl (by decide) rfl ?_
    refine zs_aload_n hE 0 dX6_lastHeard_13 rfl rfl ?_
    refine zs_ifnullR hE dX6_lastHeard_14 ?_
    refine zs_aload_n hE 0 dX6_lastHeard_17 rfl rfl ?_
    refine zs_get hE fl_X6_214 hb1 rfl dX6_lastHeard_18 ?_
    refine zs_iconst (v := (-1)) hE dX6_lastHeard_21 (by decide) ?_
    refine zs_icmp_eq (tgt := 30) hE dX6_lastHeard_22 (by decide) (fun h2 => ?_) (fun h2 => ?_)
    · have e0 : sp_hv S i q = 0 := (nI_m1 (by have := (wH i q).2.1; omega)).mp h2
      refine zs_sub (lo' := [(2, .int (nI q)), (0, .ref x), (1, .int (nI i))]) [1, 2, 3] rfl ?_
      refine zs_iinc (v := nI q - 1) (lo' := [(2, .int (nI q - 1)), (0, .ref x), (1, .int (nI i))]) hE 0 dX6_lastHeard_30 rfl (i_m1 _) (by decide) rfl ?_
      refine zs_goto (tgt := 2) hE dX6_lastHeard_33 (by decide) ?_
      refine zs_sub (lo' := [(2, .int (nI q - 1)), (0, .ref x), (1, .int (nI i))]) [0, 1, 2] rfl ?_
      exact ih q (⟨by omega, fun k k1 k2 => by rcases Nat.lt_or_ge q k with w | w; exact hb k w k2; rw [show k = q by omega]; exact fun w2 => w2 e0⟩) (by omega)
    · refine zs_aload_n hE 0 dX6_lastHeard_25 rfl rfl ?_
      refine zs_get hE fl_X6_214 hb1 rfl dX6_lastHeard_26 ?_
      refine zs_top (v' := .int (nI (sp_lh S i) - 1)) (by rw [sp_lh, show gr (fun r => sp_hv S i r ≠ 0) 4 = some q from gr_spec.mpr ⟨by omega, fun e => h2 ((nI_m1 (by have := (wH i q).2.1; omega)).mpr e), fun k k1 k2 => hb k k1 k2⟩]) ?_
      exact zs_iret hE hr (⟨rfl, rfl⟩) (by decide) (by decide) dX6_lastHeard_29


/-! more of the calls that only read -/
theorem cs_G.c {D : va_G} {E : Nat → ClassId} {κ : Nat → Nat} {H : Heap} {lh : Nat → Option Nat} {S : sp_S} (h : cs_G D E κ H lh S) (h6 : sp_np S ≤ 6) (y w : Int32) : (sp_i y 4 = none ∧ sp_ath y w (sp_np S) lh = none) ∨ (∃ r, sp_i y 4 = some r ∧ sp_i w (sp_np S) = none ∧ sp_ath y w (sp_np S) lh = none) ∨ ∃ r i a t g, sp_i y 4 = some r ∧ sp_i w (sp_np S) = some i ∧ r < 4 ∧ i < sp_np S ∧ sp_ath y w (sp_np S) lh = some a ∧ cs_h D E κ H (i * 4 + r) a t g (sp_hv S i r) (sp_mk S i r) (sp_ct S i r) := by
  unfold sp_ath
  cases e1 : sp_i y 4 with
  | none => exact Or.inl ⟨rfl, rfl⟩
  | some r =>
    cases e2 : sp_i w (sp_np S) with
    | none => exact Or.inr (Or.inl ⟨r, rfl, rfl, rfl⟩)
    | some i =>
      have h1 := (sp_i_lt e1).1
      have h2 := (sp_i_lt e2).1
      obtain ⟨a, t, g, h3, h4⟩ := h.at h2 h1
      exact Or.inr (Or.inr ⟨r, i, a, t, g, rfl, rfl, h1, h2, h3, h4⟩)
theorem sp_pr_lt {S : sp_S} {x : Int32} {j : Nat} (h : sp_pr S x = some j) : j < sp_np S := by
  unfold sp_pr at h
  cases e : sp_i x (sp_np S) with
  | none => rw [e] at h; cases h
  | some r => rw [e] at h; exact (gr_spec.mp h).1
theorem sp_oi_no {o : Option Nat} (h : ∀ j, o = some j → j < 2 ^ 31) : sp_oi o = -1 ↔ o = none := by
  cases o with
  | none => exact ⟨fun _ => rfl, fun _ => rfl⟩
  | some j => exact ⟨fun w => absurd w (nI_nm1 (h j rfl)), fun w => by cases w⟩
theorem sp_mt_le {S : sp_S} (h : sw_H S) : sp_mt S ≤ 5 * 24 := sm_le (fun k _ => (sc_b (sp_mkb h _ _) 5 (by decide)).2.1)
theorem sp_mc_le {S : sp_S} (h : sw_H S) : sp_mc S ≤ 5 * 24 := sm_le (fun k _ => (sc_b (sp_ctb h _ _) 5 (by decide)).2.1)
theorem sp_ms_le {S : sp_S} (h : sw_H S) : sp_ms S ≤ 100 * 24 := sm_le (fun k _ => (sc_b (sp_ctb h _ _) 5 (by decide)).1)
/-! quotients of small whole numbers are no NaN -/
theorem fl_e32 (s : Bool) (c : Nat) (q : Int) : FP.Core.encode FP.Core.b32 (FP.Core.settle FP.Core.b32 s c q) % 2 ^ 31 ≤ 2139095040 ∧ FP.Core.encode FP.Core.b32 (FP.Core.settle FP.Core.b32 s c q) < 2 ^ 32 := by
  have e1 : FP.Core.b32.tails = 8388608 := by decide
  have e2 : FP.Core.b32.exps = 256 := by decide
  have e3 : FP.Core.b32.qmin = -149 := by decide
  have e4 : FP.Core.b32.qmax = 104 := by decide
  have e5 : 2 ^ FP.Core.b32.p = 16777216 := by decide
  have hb : ∀ c q, c < 16777216 → FP.Core.encode FP.Core.b32 (FP.Core.bound FP.Core.b32 s c q) % 2 ^ 31 ≤ 2139095040 ∧ FP.Core.encode FP.Core.b32 (FP.Core.bound FP.Core.b32 s c q) < 2 ^ 32 := by
    intro c q hc
    unfold FP.Core.bound
    rw [e4]
    by_cases z : q ≤ 104
    · rw [if_pos z]
      unfold FP.Core.encode FP.Core.assemble
      simp only [e1, e2, e3]
      by_cases y : c < 8388608
      · rw [if_pos y]; cases s <;> simp <;> omega
      · rw [if_neg y]
        have : (q - -149).toNat ≤ 253 := by omega
        cases s <;> simp <;> omega
    · rw [if_neg z]
      unfold FP.Core.encode FP.Core.assemble
      simp only [e1, e2]
      cases s <;> simp
  unfold FP.Core.settle
  rw [e5, e1]
  by_cases z : c < 16777216
  · rw [if_pos z]; exact hb c q z
  · rw [if_neg z]; exact hb _ _ (by decide)
theorem fl_e64 (s : Bool) (c : Nat) (q : Int) : FP.Core.encode FP.Core.b64 (FP.Core.settle FP.Core.b64 s c q) % 2 ^ 63 ≤ 9218868437227405312 ∧ FP.Core.encode FP.Core.b64 (FP.Core.settle FP.Core.b64 s c q) < 2 ^ 64 := by
  have e1 : FP.Core.b64.tails = 4503599627370496 := by decide
  have e2 : FP.Core.b64.exps = 2048 := by decide
  have e3 : FP.Core.b64.qmin = -1074 := by decide
  have e4 : FP.Core.b64.qmax = 971 := by decide
  have e5 : 2 ^ FP.Core.b64.p = 9007199254740992 := by decide
  have hb : ∀ c q, c < 9007199254740992 → FP.Core.encode FP.Core.b64 (FP.Core.bound FP.Core.b64 s c q) % 2 ^ 63 ≤ 9218868437227405312 ∧ FP.Core.encode FP.Core.b64 (FP.Core.bound FP.Core.b64 s c q) < 2 ^ 64 := by
    intro c q hc
    unfold FP.Core.bound
    rw [e4]
    by_cases z : q ≤ 971
    · rw [if_pos z]
      unfold FP.Core.encode FP.Core.assemble
      simp only [e1, e2, e3]
      by_cases y : c < 4503599627370496
      · rw [if_pos y]; cases s <;> simp <;> omega
      · rw [if_neg y]
        have : (q - -1074).toNat ≤ 2045 := by omega
        cases s <;> simp <;> omega
    · rw [if_neg z]
      unfold FP.Core.encode FP.Core.assemble
      simp only [e1, e2]
      cases s <;> simp
  unfold FP.Core.settle
  rw [e5, e1]
  by_cases z : c < 9007199254740992
  · rw [if_pos z]; exact hb c q z
  · rw [if_neg z]; exact hb _ _ (by decide)
theorem fl_r32 (s : Bool) (a b : Nat) (e : Int) : FP.Core.encode FP.Core.b32 (FP.Core.roundRatio FP.Core.b32 s a b e) % 2 ^ 31 ≤ 2139095040 ∧ FP.Core.encode FP.Core.b32 (FP.Core.roundRatio FP.Core.b32 s a b e) < 2 ^ 32 := by
  unfold FP.Core.roundRatio
  by_cases z : a = 0
  · rw [if_pos z]; cases s <;> decide
  · rw [if_neg z]; exact fl_e32 _ _ _
theorem fl_r64 (s : Bool) (a b : Nat) (e : Int) : FP.Core.encode FP.Core.b64 (FP.Core.roundRatio FP.Core.b64 s a b e) % 2 ^ 63 ≤ 9218868437227405312 ∧ FP.Core.encode FP.Core.b64 (FP.Core.roundRatio FP.Core.b64 s a b e) < 2 ^ 64 := by
  unfold FP.Core.roundRatio
  by_cases z : a = 0
  · rw [if_pos z]; cases s <;> decide
  · rw [if_neg z]; exact fl_e64 _ _ _
def fl_fin : FP.Core.Datum → Bool
  | .fin _ _ _ => true
  | _ => false
def fl_fn0 : FP.Core.Datum → Bool
  | .fin _ c _ => c != 0
  | _ => false
theorem fl_i32 : ∀ a : Nat, a < 121 → fl_fin (FP.Core.decode FP.Core.b32 (FP.i2f (nI a)).toNat) = true ∧ (a ≠ 0 → fl_fn0 (FP.Core.decode FP.Core.b32 (FP.i2f (nI a)).toNat) = true) := by decide +kernel
theorem fl_i64 : ∀ a : Nat, a < 121 → a ≠ 0 → fl_fn0 (FP.Core.decode FP.Core.b64 (FP.i2d (nI a)).toNat) = true := by decide +kernel
theorem fl_i64s : ∀ a : Nat, a < 2401 → fl_fin (FP.Core.decode FP.Core.b64 (FP.i2d (nI a)).toNat) = true := by decide +kernel
theorem fl_q {f : FP.Core.Fmt} {x y : FP.Core.Datum} (hx : fl_fin x = true) (hy : fl_fn0 y = true) : ∃ s a b e, FP.Core.quotient f x y = FP.Core.roundRatio f s a b e := by
  cases x <;> simp [fl_fin] at hx
  cases y <;> simp [fl_fn0] at hy
  rename_i s c q t d r
  exact ⟨s != t, c, d, q - r, by show (if d = 0 then (if c = 0 then FP.Core.Datum.nan else FP.Core.Datum.inf (s != t)) else FP.Core.roundRatio f (s != t) c d (q - r)) = _; rw [if_neg hy]⟩
theorem fl_n32 {n : Nat} (h : n % 2 ^ 31 ≤ 2139095040) (h2 : n < 2 ^ 32) : vf_n32 (UInt32.ofNat n) := by
  unfold vf_n32
  rw [UInt32.le_iff_toNat_le, UInt32.toNat_and]
  have h1 : (0x7fffffff : UInt32).toNat = 2 ^ 31 - 1 := by decide
  have h3 : (0x7f800000 : UInt32).toNat = 2139095040 := by decide
  rw [h1, h3, Nat.and_two_pow_sub_one_eq_mod, UInt32.toNat_ofNat_of_lt' h2]
  exact h
theorem fl_n64 {n : Nat} (h : n % 2 ^ 63 ≤ 9218868437227405312) (h2 : n < 2 ^ 64) : vf_n64 (UInt64.ofNat n) := by
  unfold vf_n64
  rw [UInt64.le_iff_toNat_le, UInt64.toNat_and]
  have h1 : (0x7fffffffffffffff : UInt64).toNat = 2 ^ 63 - 1 := by decide
  have h3 : (0x7ff0000000000000 : UInt64).toNat = 9218868437227405312 := by decide
  rw [h1, h3, Nat.and_two_pow_sub_one_eq_mod, UInt64.toNat_ofNat_of_lt' h2]
  exact h
theorem fl_share {a b : Nat} (ha : a < 121) (hb : b < 121) (h0 : b ≠ 0) : vf_n32 (FP.fdiv (FP.i2f (nI a)) (FP.i2f (nI b))) := by
  obtain ⟨s, c, d, e, q⟩ := fl_q (f := FP.Core.b32) (fl_i32 a ha).1 ((fl_i32 b hb).2 h0)
  have := fl_r32 s c d e
  rw [← q] at this
  exact fl_n32 this.1 this.2
theorem fl_mean {a b : Nat} (ha : a < 2401) (hb : b < 121) (h0 : b ≠ 0) : vf_n64 (FP.ddiv (FP.i2d (nI a)) (FP.i2d (nI b))) := by
  obtain ⟨s, c, d, e, q⟩ := fl_q (f := FP.Core.b64) (fl_i64s a ha) (fl_i64 b hb h0)
  have := fl_r64 s c d e
  rw [← q] at this
  exact fl_n64 this.1 this.2
noncomputable def o_countShare (S : sp_S) : sp_R3 := pI (sp_mt S = 0) (sp_e 1 S) (0, .float (FP.fdiv (FP.i2f (nI (sp_mc S))) (FP.i2f (nI (sp_mt S)))), S)
noncomputable def o_meanMark (S : sp_S) : sp_R3 := pI (sp_mc S = 0) (sp_e 1 S) (0, .double (FP.ddiv (FP.i2d (nI (sp_ms S))) (FP.i2d (nI (sp_mc S)))), S)

set_option maxHeartbeats 4000000 in
set_option maxRecDepth 100000 in
theorem m_X6_base (D : va_G) (E : Nat → ClassId) (B : Nat) (l : Launch) (hl : l.stackTraces = false) (κ : Nat → Nat) (S : sp_S) (x : Nat) (y z : Int32) : zs_Cx D E B l yX6_base cX6_base 5 (some .int) ({ frames := 6, cells := 1, slots := 6, locals := 90 } : Room) [.ref x, .int y, .int z] (fun H => cs_W D E κ S x H) (cs_F κ) (op_Q D E κ x (o_base S y z)) (op_X D E κ x S (o_base S y z) ["java/lang/IndexOutOfBoundsException", "java/lang/UnsupportedOperationException"]) := by
  refine zs_cx (by decide) (Nat.le_of_ble_eq_true rfl) (fun p e s m below meth c hE hr htab hp => ?_)
  refine zs_lo (lo' := [(0, .ref x), (1, .int y), (2, .int z)]) rfl ?_
  obtain ⟨hX0, hw⟩ := id hp
  obtain ⟨a1, a2, a3, a4, a5, lp, lv, lh, lz, tg, ⟨t0, t1, t2, t3, t4, t5, hx, r1, r2, r3, r4, r5⟩, htg, hP, hV, hG, hZ, hκ⟩ := hX0
  obtain ⟨wN, wP, wV, wA, wH, wZ, wF⟩ := id hw
  obtain ⟨n6, n40, n12, n8, n99⟩ := id wN
  refine zs_aload_n hE 0 dX6_base_0 rfl rfl ?_
  refine zs_iload_n hE 1 dX6_base_1 rfl rfl ?_
  refine zs_callVR (av := [.int y]) (st := []) (b := x) hE (m_X6_versionAt D E B l x a2 (sp_nv S) lv y (.ref a1) (.int (nI (sp_np S))) .null .null (.ref a3) (.ref a4) (.int (nI (sp_nz S))) (.ref a5) (.int (nI (sp_ty S).length)) n40) rfl rfl sV_X6_82 hx rfl rfl (⟨hx, r2⟩) ⟨by decide, by decide⟩ ⟨by decide, by decide⟩ (Nat.le_of_ble_eq_true rfl) dX6_base_2 ?_
  refine zs_astore_nq (lo' := [(3, va_rf (sp_at y (sp_nv S) lv)), (0, .ref x), (1, .int y), (2, .int z)]) hE dX6_base_5 rfl (by decide) rfl ?_
  refine zs_aload_n hE 1 dX6_base_6 rfl rfl ?_
  refine zs_iload_n hE 3 dX6_base_7 rfl rfl ?_
  refine zs_callVR (av := [.int z]) (st := []) (b := x) hE (m_X6_versionAt D E B l x a2 (sp_nv S) lv z (.ref a1) (.int (nI (sp_np S))) .null .null (.ref a3) (.ref a4) (.int (nI (sp_nz S))) (.ref a5) (.int (nI (sp_ty S).length)) n40) rfl rfl sV_X6_82 hx rfl rfl (⟨hx, r2⟩) ⟨by decide, by decide⟩ ⟨by decide, by decide⟩ (Nat.le_of_ble_eq_true rfl) dX6_base_8 ?_
  refine zs_astoreq (lo' := [(4, va_rf (sp_at z (sp_nv S) lv)), (3, va_rf (sp_at y (sp_nv S) lv)), (0, .ref x), (1, .int y), (2, .int z)]) hE dX6_base_11 (by decide) (by generalize sp_at y (sp_nv S) lv = o9; cases o9 <;> rfl) ?_
  refine zs_aload_nq hE 1 dX6_base_13 rfl rfl ?_
  refine zs_ifnull (tgt := 22) hE dX6_base_14 (by decide) (fun h1 => ?_) (fun o1 h1 => ?_)
  · exact zs_throw hE hl htab th_X6_74_86_78 dX6_base_22 dX6_base_25 dX6_base_26 dX6_base_28 dX6_base_31 (by decide) (Nat.le_of_ble_eq_true rfl) (by decide) (by decide) (op_th hp 0 rfl (by rw [o_base]; cases e : sp_i y (sp_nv S) with | none => rfl | some i => (obtain ⟨a, e1, -⟩ := hV.yes e; rw [e1] at h1; cases h1))) (by decide) (by decide)
  · obtain ⟨v, ev⟩ : ∃ i0, sp_i y (sp_nv S) = some i0 := by cases w : sp_i y (sp_nv S) with | none => (rw [sp_at_no w] at h1; cases h1) | some j0 => exact ⟨j0, rfl⟩
    obtain ⟨va, vae, vav⟩ := hV.yes ev
    obtain ⟨y0, y1, y2, y3, yh, yf, y4, ⟨y5, y6⟩, y7⟩ := id vav
    refine zs_lo (lo' := [(4, va_rf (sp_at z (sp_nv S) lv)), (3, .ref va), (0, .ref x), (1, .int y), (2, .int z)]) (by rw [vae]; rfl) ?_
    refine zs_aloadq hE 0 dX6_base_17 rfl ?_
    refine zs_ifnonnull (tgt := 32) hE dX6_base_19 (by decide) (fun o2 h2 => ?_) (fun h2 => ?_)
    · obtain ⟨w, ew⟩ : ∃ i0, sp_i z (sp_nv S) = some i0 := by cases w : sp_i z (sp_nv S) with | none => (rw [sp_at_no w] at h2; cases h2) | some j0 => exact ⟨j0, rfl⟩
      obtain ⟨wa, wae, wav⟩ := hV.yes ew
      obtain ⟨z0, z1, z2, z3, zh, zf, z4, ⟨z5, z6⟩, z7⟩ := id wav
      refine zs_lo (lo' := [(4, .ref wa), (3, .ref va), (0, .ref x), (1, .int y), (2, .int z)]) (by rw [wae]; rfl) ?_
      have hvp := (wV v (sp_i_lt ev).1).1
      have hwp := (wV w (sp_i_lt ew).1).1
      refine zs_aload_n hE 1 dX6_base_32 rfl rfl ?_
      refine zs_get hE fl_X6_88 y5 rfl dX6_base_33 ?_
      refine zs_aload hE 0 dX6_base_36 rfl ?_
      refine zs_get hE fl_X6_88 z5 rfl dX6_base_38 ?_
      refine zs_icmp_eqN (tgt := 54) hE (by omega) (by omega) dX6_base_41 (by decide) (fun h3 => ?_) (fun h3 => ?_)
      · refine zs_aload_n hE 2 dX6_base_54 rfl rfl ?_
        refine zs_aload_n hE 1 dX6_base_55 rfl rfl ?_
        refine zs_aload hE 0 dX6_base_56 rfl ?_
        refine zs_callVR (av := [.ref va, .ref wa]) (st := []) (b := x) hE (m_X6_baseOf D E B l κ S x va wa v (sp_vp S v) (sp_am S v) yh w (sp_vp S w) (sp_am S w) zh (sp_wfr S v) (sp_wfr S w) y3) rfl rfl sV_X6_152 hx rfl rfl (⟨hp, y5, z5⟩) ⟨by decide, by decide⟩ ⟨by decide, by decide⟩ (Nat.le_of_ble_eq_true rfl) dX6_base_58 ?_
        exact zs_iretX hE hr (op_ro hp.1 (by rw [o_base, ev]; simp only []; rw [ew]; simp only []; rw [pI_t h3]; rfl)) (by decide) (by decide) dX6_base_61
      · exact zs_throw hE hl htab th_X6_160_173_164 dX6_base_44 dX6_base_47 dX6_base_48 dX6_base_50 dX6_base_53 (by decide) (Nat.le_of_ble_eq_true rfl) (by decide) (by decide) (op_th hp 1 rfl (by rw [o_base, ev]; simp only []; rw [ew]; simp only []; rw [pI_f h3])) (by decide) (by decide)
    · exact zs_throw hE hl htab th_X6_74_86_78 dX6_base_22 dX6_base_25 dX6_base_26 dX6_base_28 dX6_base_31 (by decide) (Nat.le_of_ble_eq_true rfl) (by decide) (by decide) (op_th hp 0 rfl (by rw [o_base, ev]; simp only []; cases e : sp_i z (sp_nv S) with | none => rfl | some i => (obtain ⟨a, e1, -⟩ := hV.yes e; rw [e1] at h2; cases h2))) (by decide) (by decide)

set_option maxHeartbeats 4000000 in
set_option maxRecDepth 100000 in
theorem m_X6_unlike (D : va_G) (E : Nat → ClassId) (B : Nat) (l : Launch) (hl : l.stackTraces = false) (κ : Nat → Nat) (S : sp_S) (x : Nat) (y z : Int32) : zs_Cx D E B l yX6_unlike cX6_unlike 5 (some .int) ({ frames := 6, cells := 1, slots := 6, locals := 90 } : Room) [.ref x, .int y, .int z] (fun H => cs_W D E κ S x H) (cs_F κ) (op_Q D E κ x (o_unlike S y z)) (op_X D E κ x S (o_unlike S y z) ["java/lang/IndexOutOfBoundsException", "java/lang/UnsupportedOperationException"]) := by
  refine zs_cx (by decide) (Nat.le_of_ble_eq_true rfl) (fun p e s m below meth c hE hr htab hp => ?_)
  refine zs_lo (lo' := [(0, .ref x), (1, .int y), (2, .int z)]) rfl ?_
  obtain ⟨hX0, hw⟩ := id hp
  obtain ⟨a1, a2, a3, a4, a5, lp, lv, lh, lz, tg, ⟨t0, t1, t2, t3, t4, t5, hx, r1, r2, r3, r4, r5⟩, htg, hP, hV, hG, hZ, hκ⟩ := hX0
  obtain ⟨wN, wP, wV, wA, wH, wZ, wF⟩ := id hw
  obtain ⟨n6, n40, n12, n8, n99⟩ := id wN
  refine zs_aload_n hE 0 dX6_unlike_0 rfl rfl ?_
  refine zs_iload_n hE 1 dX6_unlike_1 rfl rfl ?_
  refine zs_callVR (av := [.int y]) (st := []) (b := x) hE (m_X6_versionAt D E B l x a2 (sp_nv S) lv y (.ref a1) (.int (nI (sp_np S))) .null .null (.ref a3) (.ref a4) (.int (nI (sp_nz S))) (.ref a5) (.int (nI (sp_ty S).length)) n40) rfl rfl sV_X6_82 hx rfl rfl (⟨hx, r2⟩) ⟨by decide, by decide⟩ ⟨by decide, by decide⟩ (Nat.le_of_ble_eq_true rfl) dX6_unlike_2 ?_
  refine zs_astore_nq (lo' := [(3, va_rf (sp_at y (sp_nv S) lv)), (0, .ref x), (1, .int y), (2, .int z)]) hE dX6_unlike_5 rfl (by decide) rfl ?_
  refine zs_aload_n hE 1 dX6_unlike_6 rfl rfl ?_
  refine zs_iload_n hE 3 dX6_unlike_7 rfl rfl ?_
  refine zs_callVR (av := [.int z]) (st := []) (b := x) hE (m_X6_versionAt D E B l x a2 (sp_nv S) lv z (.ref a1) (.int (nI (sp_np S))) .null .null (.ref a3) (.ref a4) (.int (nI (sp_nz S))) (.ref a5) (.int (nI (sp_ty S).length)) n40) rfl rfl sV_X6_82 hx rfl rfl (⟨hx, r2⟩) ⟨by decide, by decide⟩ ⟨by decide, by decide⟩ (Nat.le_of_ble_eq_true rfl) dX6_unlike_8 ?_
  refine zs_astoreq (lo' := [(4, va_rf (sp_at z (sp_nv S) lv)), (3, va_rf (sp_at y (sp_nv S) lv)), (0, .ref x), (1, .int y), (2, .int z)]) hE dX6_unlike_11 (by decide) (by generalize sp_at y (sp_nv S) lv = o9; cases o9 <;> rfl) ?_
  refine zs_aload_nq hE 1 dX6_unlike_13 rfl rfl ?_
  refine zs_ifnull (tgt := 22) hE dX6_unlike_14 (by decide) (fun h1 => ?_) (fun o1 h1 => ?_)
  · exact zs_throw hE hl htab th_X6_74_86_78 dX6_unlike_22 dX6_unlike_25 dX6_unlike_26 dX6_unlike_28 dX6_unlike_31 (by decide) (Nat.le_of_ble_eq_true rfl) (by decide) (by decide) (op_th hp 0 rfl (by rw [o_unlike]; cases e : sp_i y (sp_nv S) with | none => rfl | some i => (obtain ⟨a, e1, -⟩ := hV.yes e; rw [e1] at h1; cases h1))) (by decide) (by decide)
  · obtain ⟨v, ev⟩ : ∃ i0, sp_i y (sp_nv S) = some i0 := by cases w : sp_i y (sp_nv S) with | none => (rw [sp_at_no w] at h1; cases h1) | some j0 => exact ⟨j0, rfl⟩
    obtain ⟨va, vae, vav⟩ := hV.yes ev
    obtain ⟨y0, y1, y2, y3, yh, yf, y4, ⟨y5, y6⟩, y7⟩ := id vav
    refine zs_lo (lo' := [(4, va_rf (sp_at z (sp_nv S) lv)), (3, .ref va), (0, .ref x), (1, .int y), (2, .int z)]) (by rw [vae]; rfl) ?_
    refine zs_aloadq hE 0 dX6_unlike_17 rfl ?_
    refine zs_ifnonnull (tgt := 32) hE dX6_unlike_19 (by decide) (fun o2 h2 => ?_) (fun h2 => ?_)
    · obtain ⟨w, ew⟩ : ∃ i0, sp_i z (sp_nv S) = some i0 := by cases w : sp_i z (sp_nv S) with | none => (rw [sp_at_no w] at h2; cases h2) | some j0 => exact ⟨j0, rfl⟩
      obtain ⟨wa, wae, wav⟩ := hV.yes ew
      obtain ⟨z0, z1, z2, z3, zh, zf, z4, ⟨z5, z6⟩, z7⟩ := id wav
      refine zs_lo (lo' := [(4, .ref wa), (3, .ref va), (0, .ref x), (1, .int y), (2, .int z)]) (by rw [wae]; rfl) ?_
      have hvp := (wV v (sp_i_lt ev).1).1
      have hwp := (wV w (sp_i_lt ew).1).1
      refine zs_aload_n hE 1 dX6_unlike_32 rfl rfl ?_
      refine zs_get hE fl_X6_88 y5 rfl dX6_unlike_33 ?_
      refine zs_aload hE 0 dX6_unlike_36 rfl ?_
      refine zs_get hE fl_X6_88 z5 rfl dX6_unlike_38 ?_
      refine zs_icmp_eqN (tgt := 54) hE (by omega) (by omega) dX6_unlike_41 (by decide) (fun h3 => ?_) (fun h3 => ?_)
      · refine zs_aload_n hE 1 dX6_unlike_54 rfl rfl ?_
        refine zs_aload hE 0 dX6_unlike_55 rfl ?_
        refine zs_callVR (av := [.ref wa]) (st := []) (b := va) hE (m_X5_sheavesUnlike D E B l κ va wa v (sp_vp S v) (sp_am S v) w (sp_vp S w) (sp_am S w) (sp_wfr S v) (sp_wfr S w) (sp_sl S v) (sp_sl S w) (fun j _ => sl_none h3 j)) rfl rfl sV_X6_204 y5 rfl rfl (⟨vav, wav⟩) ⟨by decide, by decide⟩ ⟨by decide, by decide⟩ (Nat.le_of_ble_eq_true rfl) dX6_unlike_57 ?_
        exact zs_iretX hE hr (op_ro hp.1 (by rw [o_unlike, ev]; simp only []; rw [ew]; simp only []; rw [pI_t h3])) (by decide) (by decide) dX6_unlike_60
      · exact zs_throw hE hl htab th_X6_160_173_164 dX6_unlike_44 dX6_unlike_47 dX6_unlike_48 dX6_unlike_50 dX6_unlike_53 (by decide) (Nat.le_of_ble_eq_true rfl) (by decide) (by decide) (op_th hp 1 rfl (by rw [o_unlike, ev]; simp only []; rw [ew]; simp only []; rw [pI_f h3])) (by decide) (by decide)
    · exact zs_throw hE hl htab th_X6_74_86_78 dX6_unlike_22 dX6_unlike_25 dX6_unlike_26 dX6_unlike_28 dX6_unlike_31 (by decide) (Nat.le_of_ble_eq_true rfl) (by decide) (by decide) (op_th hp 0 rfl (by rw [o_unlike, ev]; simp only []; cases e : sp_i z (sp_nv S) with | none => rfl | some i => (obtain ⟨a, e1, -⟩ := hV.yes e; rw [e1] at h2; cases h2))) (by decide) (by decide)

set_option maxHeartbeats 4000000 in
set_option maxRecDepth 100000 in
theorem m_X6_isAbove (D : va_G) (E : Nat → ClassId) (B : Nat) (l : Launch) (hl : l.stackTraces = false) (κ : Nat → Nat) (S : sp_S) (x : Nat) (y z : Int32) : zs_Cx D E B l yX6_isAbove cX6_isAbove 5 (some .boolean) ({ frames := 6, cells := 1, slots := 6, locals := 90 } : Room) [.ref x, .int y, .int z] (fun H => cs_W D E κ S x H) (cs_F κ) (op_Q D E κ x (o_isAbove S y z)) (op_X D E κ x S (o_isAbove S y z) ["java/lang/IndexOutOfBoundsException"]) := by
  refine zs_cx (by decide) (Nat.le_of_ble_eq_true rfl) (fun p e s m below meth c hE hr htab hp => ?_)
  refine zs_lo (lo' := [(0, .ref x), (1, .int y), (2, .int z)]) rfl ?_
  obtain ⟨hX0, hw⟩ := id hp
  obtain ⟨a1, a2, a3, a4, a5, lp, lv, lh, lz, tg, ⟨t0, t1, t2, t3, t4, t5, hx, r1, r2, r3, r4, r5⟩, htg, hP, hV, hG, hZ, hκ⟩ := hX0
  obtain ⟨wN, wP, wV, wA, wH, wZ, wF⟩ := id hw
  obtain ⟨n6, n40, n12, n8, n99⟩ := id wN
  refine zs_aload_n hE 0 dX6_isAbove_0 rfl rfl ?_
  refine zs_iload_n hE 1 dX6_isAbove_1 rfl rfl ?_
  refine zs_callVR (av := [.int y]) (st := []) (b := x) hE (m_X6_versionAt D E B l x a2 (sp_nv S) lv y (.ref a1) (.int (nI (sp_np S))) .null .null (.ref a3) (.ref a4) (.int (nI (sp_nz S))) (.ref a5) (.int (nI (sp_ty S).length)) n40) rfl rfl sV_X6_82 hx rfl rfl (⟨hx, r2⟩) ⟨by decide, by decide⟩ ⟨by decide, by decide⟩ (Nat.le_of_ble_eq_true rfl) dX6_isAbove_2 ?_
  refine zs_astore_nq (lo' := [(3, va_rf (sp_at y (sp_nv S) lv)), (0, .ref x), (1, .int y), (2, .int z)]) hE dX6_isAbove_5 rfl (by decide) rfl ?_
  refine zs_aload_n hE 1 dX6_isAbove_6 rfl rfl ?_
  refine zs_iload_n hE 3 dX6_isAbove_7 rfl rfl ?_
  refine zs_callVR (av := [.int z]) (st := []) (b := x) hE (m_X6_versionAt D E B l x a2 (sp_nv S) lv z (.ref a1) (.int (nI (sp_np S))) .null .null (.ref a3) (.ref a4) (.int (nI (sp_nz S))) (.ref a5) (.int (nI (sp_ty S).length)) n40) rfl rfl sV_X6_82 hx rfl rfl (⟨hx, r2⟩) ⟨by decide, by decide⟩ ⟨by decide, by decide⟩ (Nat.le_of_ble_eq_true rfl) dX6_isAbove_8 ?_
  refine zs_astoreq (lo' := [(4, va_rf (sp_at z (sp_nv S) lv)), (3, va_rf (sp_at y (sp_nv S) lv)), (0, .ref x), (1, .int y), (2, .int z)]) hE dX6_isAbove_11 (by decide) (by generalize sp_at y (sp_nv S) lv = o9; cases o9 <;> rfl) ?_
  refine zs_aload_nq hE 1 dX6_isAbove_13 rfl rfl ?_
  refine zs_ifnull (tgt := 22) hE dX6_isAbove_14 (by decide) (fun h1 => ?_) (fun o1 h1 => ?_)
  · exact zs_throw hE hl htab th_X6_74_86_78 dX6_isAbove_22 dX6_isAbove_25 dX6_isAbove_26 dX6_isAbove_28 dX6_isAbove_31 (by decide) (Nat.le_of_ble_eq_true rfl) (by decide) (by decide) (op_th hp 0 rfl (by rw [o_isAbove]; cases e : sp_i y (sp_nv S) with | none => rfl | some i => (obtain ⟨a, e1, -⟩ := hV.yes e; rw [e1] at h1; cases h1))) (by decide) (by decide)
  · obtain ⟨v, ev⟩ : ∃ i0, sp_i y (sp_nv S) = some i0 := by cases w : sp_i y (sp_nv S) with | none => (rw [sp_at_no w] at h1; cases h1) | some j0 => exact ⟨j0, rfl⟩
    obtain ⟨va, vae, vav⟩ := hV.yes ev
    obtain ⟨y0, y1, y2, y3, yh, yf, y4, ⟨y5, y6⟩, y7⟩ := id vav
    refine zs_lo (lo' := [(4, va_rf (sp_at z (sp_nv S) lv)), (3, .ref va), (0, .ref x), (1, .int y), (2, .int z)]) (by rw [vae]; rfl) ?_
    refine zs_aloadq hE 0 dX6_isAbove_17 rfl ?_
    refine zs_ifnonnull (tgt := 32) hE dX6_isAbove_19 (by decide) (fun o2 h2 => ?_) (fun h2 => ?_)
    · obtain ⟨w, ew⟩ : ∃ i0, sp_i z (sp_nv S) = some i0 := by cases w : sp_i z (sp_nv S) with | none => (rw [sp_at_no w] at h2; cases h2) | some j0 => exact ⟨j0, rfl⟩
      obtain ⟨wa, wae, wav⟩ := hV.yes ew
      obtain ⟨z0, z1, z2, z3, zh, zf, z4, ⟨z5, z6⟩, z7⟩ := id wav
      refine zs_lo (lo' := [(4, .ref wa), (3, .ref va), (0, .ref x), (1, .int y), (2, .int z)]) (by rw [wae]; rfl) ?_
      refine zs_aload hE 0 dX6_isAbove_32 rfl ?_
      refine zs_aload_n hE 1 dX6_isAbove_34 rfl rfl ?_
      refine zs_callVR (av := [.ref va]) (st := []) (b := wa) hE (m_X5_isUnder D E B l wa va zh yh w (sp_vp S w) (sp_am S w) v (sp_vp S v) (sp_am S v) (sp_wfr S w) (sp_wfr S v) z3 y1) rfl rfl sV_X6_156 z5 rfl rfl (⟨z5, y5⟩) ⟨by decide, by decide⟩ ⟨by decide, by decide⟩ (Nat.le_of_ble_eq_true rfl) dX6_isAbove_35 ?_
      exact zs_zretX hE hr (zs_bnar _) (op_ro hp.1 (by rw [o_isAbove, ev]; simp only []; rw [ew])) (by decide) (by decide) dX6_isAbove_38
    · exact zs_throw hE hl htab th_X6_74_86_78 dX6_isAbove_22 dX6_isAbove_25 dX6_isAbove_26 dX6_isAbove_28 dX6_isAbove_31 (by decide) (Nat.le_of_ble_eq_true rfl) (by decide) (by decide) (op_th hp 0 rfl (by rw [o_isAbove, ev]; simp only []; cases e : sp_i z (sp_nv S) with | none => rfl | some i => (obtain ⟨a, e1, -⟩ := hV.yes e; rw [e1] at h2; cases h2))) (by decide) (by decide)

set_option maxHeartbeats 4000000 in
set_option maxRecDepth 100000 in
theorem m_X6_rows (D : va_G) (E : Nat → ClassId) (B : Nat) (l : Launch) (hl : l.stackTraces = false) (κ : Nat → Nat) (S : sp_S) (x : Nat) (y b q : Int32) : zs_Cx D E B l yX6_rows cX6_rows 5 (some .int) ({ frames := 6, cells := 1, slots := 6, locals := 90 } : Room) [.ref x, .int y, .int b, .int q] (fun H => cs_W D E κ S x H) (cs_F κ) (op_Q D E κ x (o_rows S y b q)) (op_X D E κ x S (o_rows S y b q) ["java/lang/IndexOutOfBoundsException"]) := by
  refine zs_cx (by decide) (Nat.le_of_ble_eq_true rfl) (fun p e s m below meth c hE hr htab hp => ?_)
  refine zs_lo (lo' := [(0, .ref x), (1, .int y), (2, .int b), (3, .int q)]) rfl ?_
  obtain ⟨hX0, hw⟩ := id hp
  obtain ⟨a1, a2, a3, a4, a5, lp, lv, lh, lz, tg, ⟨t0, t1, t2, t3, t4, t5, hx, r1, r2, r3, r4, r5⟩, htg, hP, hV, hG, hZ, hκ⟩ := hX0
  obtain ⟨wN, wP, wV, wA, wH, wZ, wF⟩ := id hw
  obtain ⟨n6, n40, n12, n8, n99⟩ := id wN
  refine zs_aload_n hE 0 dX6_rows_0 rfl rfl ?_
  refine zs_iload_n hE 1 dX6_rows_1 rfl rfl ?_
  refine zs_iload_n hE 2 dX6_rows_2 rfl rfl ?_
  refine zs_iload_n hE 3 dX6_rows_3 rfl rfl ?_
  refine zs_callV (av := [.int y, .int b, .int q]) (st := []) hE (m_X6_sheafAt D E B l κ S x y b q) sV_X6_175 hx rfl rfl (hp) ⟨by decide, by decide⟩ ⟨by decide, by decide⟩ (fun _ w => w.elim) (Nat.le_of_ble_eq_true rfl) dX6_rows_4 (fun v1 H1 hv1 hz1 hk1 => ?_)
  obtain ⟨he, os, rfl, ho⟩ := hv1; subst he
  refine zs_widen (k' := 0) (n' := 0) (by decide) (by decide) ?_
  have hx := zs_pt.kept hx (hk1 _ (zs_pt.lt hx) (fun w => w.elim))
  have r1 := zs_pt.kept r1 (hk1 _ (zs_pt.lt r1) (fun w => w.elim))
  have r2 := zs_pt.kept r2 (hk1 _ (zs_pt.lt r2) (fun w => w.elim))
  have r3 := zs_pt.kept r3 (hk1 _ (zs_pt.lt r3) (fun w => w.elim))
  have r4 := zs_pt.kept r4 (hk1 _ (zs_pt.lt r4) (fun w => w.elim))
  have r5 := zs_pt.kept r5 (hk1 _ (zs_pt.lt r5) (fun w => w.elim))
  refine zs_astoreq (lo' := [(4, va_rf os), (0, .ref x), (1, .int y), (2, .int b), (3, .int q)]) hE dX6_rows_7 (by decide) rfl ?_
  refine zs_aloadq hE 0 dX6_rows_9 rfl ?_
  refine zs_ifnonnull (tgt := 24) hE dX6_rows_11 (by decide) (fun o1 h1 => ?_) (fun h1 => ?_)
  · obtain ⟨rs, ers⟩ : ∃ rs, sp_sh S y b q = some rs := by cases w : sp_sh S y b q with | none => (rw [ho.1 w] at h1; cases h1) | some rs => exact ⟨rs, rfl⟩
    obtain ⟨sa, es, hs⟩ := ho.2 rs ers
    refine zs_lo (lo' := [(4, .ref sa), (0, .ref x), (1, .int y), (2, .int b), (3, .int q)]) (by rw [es]; rfl) ?_
    obtain ⟨xh, xf, x0, x1, x2, x3⟩ := hs.s0
    refine zs_aload hE 0 dX6_rows_24 rfl ?_
    refine zs_get hE fl_X6_178 x1 rfl dX6_rows_26 ?_
    exact zs_iretX hE hr (op_ro hp.1 (by rw [o_rows, ers])) (by decide) (by decide) dX6_rows_29
  · exact zs_throw hE hl htab th_X6_74_102_78 dX6_rows_14 dX6_rows_17 dX6_rows_18 dX6_rows_20 dX6_rows_23 (by decide) (Nat.le_of_ble_eq_true rfl) (by decide) (by decide) (op_th hp 0 rfl (by rw [o_rows]; cases e : sp_sh S y b q with | none => rfl | some rs => (obtain ⟨a, e1, -⟩ := ho.2 rs e; rw [e1] at h1; cases h1))) (by decide) (by decide)

set_option maxHeartbeats 4000000 in
set_option maxRecDepth 100000 in
theorem m_X6_points (D : va_G) (E : Nat → ClassId) (B : Nat) (l : Launch) (hl : l.stackTraces = false) (κ : Nat → Nat) (S : sp_S) (x : Nat) (y z : Int32) : zs_Cx D E B l yX6_points cX6_points 4 (some .int) ({ frames := 6, cells := 1, slots := 6, locals := 90 } : Room) [.ref x, .int y, .int z] (fun H => cs_W D E κ S x H) (cs_F κ) (op_Q D E κ x (o_points S y z)) (op_X D E κ x S (o_points S y z) ["java/lang/IndexOutOfBoundsException"]) := by
  refine zs_cx (by decide) (Nat.le_of_ble_eq_true rfl) (fun p e s m below meth c hE hr htab hp => ?_)
  refine zs_lo (lo' := [(0, .ref x), (1, .int y), (2, .int z)]) rfl ?_
  obtain ⟨hX0, hw⟩ := id hp
  obtain ⟨a1, a2, a3, a4, a5, lp, lv, lh, lz, tg, ⟨t0, t1, t2, t3, t4, t5, hx, r1, r2, r3, r4, r5⟩, htg, hP, hV, hG, hZ, hκ⟩ := hX0
  obtain ⟨wN, wP, wV, wA, wH, wZ, wF⟩ := id hw
  obtain ⟨n6, n40, n12, n8, n99⟩ := id wN
  refine zs_aload_n hE 0 dX6_points_0 rfl rfl ?_
  refine zs_iload_n hE 1 dX6_points_1 rfl rfl ?_
  refine zs_iload_n hE 2 dX6_points_2 rfl rfl ?_
  refine zs_callVR (av := [.int y, .int z]) (st := []) (b := x) hE (m_X6_hearingAt D E B l x a3 (sp_np S) lh y z (.ref a1) (.ref a2) (.int (nI (sp_nv S))) (.ref a4) (.int (nI (sp_nz S))) (.ref a5) (.int (nI (sp_ty S).length)) n6) rfl rfl sV_X6_208 hx rfl rfl (⟨hx, r3⟩) ⟨by decide, by decide⟩ ⟨by decide, by decide⟩ (Nat.le_of_ble_eq_true rfl) dX6_points_3 ?_
  refine zs_astore_nq (lo' := [(3, va_rf (sp_ath y z (sp_np S) lh)), (0, .ref x), (1, .int y), (2, .int z)]) hE dX6_points_6 rfl (by decide) rfl ?_
  refine zs_aload_nq hE 0 dX6_points_7 rfl rfl ?_
  refine zs_ifnonnull (tgt := 21) hE dX6_points_8 (by decide) (fun o1 h1 => ?_) (fun h1 => ?_)
  · obtain ⟨r, i, ha, ht, hg, er, ei, r4l, il, eh, hh⟩ : ∃ r i a t g, sp_i y 4 = some r ∧ sp_i z (sp_np S) = some i ∧ r < 4 ∧ i < sp_np S ∧ sp_ath y z (sp_np S) lh = some a ∧ cs_h D E κ s.heap (i * 4 + r) a t g (sp_hv S i r) (sp_mk S i r) (sp_ct S i r) := by rcases hG.c n6 y z with ⟨-, e⟩ | ⟨r, -, -, e⟩ | e; (rw [e] at h1; cases h1); (rw [e] at h1; cases h1); exact e
    obtain ⟨t6, t7, t8, hb, hc, hd⟩ := id hh
    refine zs_lo (lo' := [(3, .ref ha), (0, .ref x), (1, .int y), (2, .int z)]) (by rw [eh]; rfl) ?_
    refine zs_aload_n hE 0 dX6_points_21 rfl rfl ?_
    refine zs_callVR (av := []) (st := []) (b := ha) hE (m_X0_score D E B l ha ht hg _ (sp_ct S i r) (sp_ctb wH i r)) rfl rfl sV_X6_246 hb rfl rfl (⟨hb, hd⟩) ⟨by decide, by decide⟩ ⟨by decide, by decide⟩ (Nat.le_of_ble_eq_true rfl) dX6_points_22 ?_
    exact zs_iretX hE hr (op_ro hp.1 (by rw [o_points, er]; simp only []; rw [ei])) (by decide) (by decide) dX6_points_25
  · exact zs_throw hE hl htab th_X6_74_244_78 dX6_points_11 dX6_points_14 dX6_points_15 dX6_points_17 dX6_points_20 (by decide) (Nat.le_of_ble_eq_true rfl) (by decide) (by decide) (op_th hp 0 rfl (by rw [o_points]; rcases hG.c n6 y z with ⟨e, -⟩ | ⟨r, e, e2, -⟩ | ⟨r, i, a, t, g, -, -, -, -, e, -⟩; (rw [e]); (rw [e]; simp only []; rw [e2]); (rw [e] at h1; cases h1))) (by decide) (by decide)

set_option maxHeartbeats 4000000 in
set_option maxRecDepth 100000 in
theorem m_X6_ranked (D : va_G) (E : Nat → ClassId) (B : Nat) (l : Launch) (hl : l.stackTraces = false) (κ : Nat → Nat) (S : sp_S) (x : Nat) (y : Int32) : zs_Cx D E B l yX6_ranked cX6_ranked 3 (some .int) ({ frames := 6, cells := 1, slots := 6, locals := 148 } : Room) [.ref x, .int y] (fun H => cs_W D E κ S x H) (cs_F κ) (op_Q D E κ x (o_ranked S y)) (op_X D E κ x S (o_ranked S y) ["java/lang/IndexOutOfBoundsException"]) := by
  refine zs_cx (by decide) (Nat.le_of_ble_eq_true rfl) (fun p e s m below meth c hE hr htab hp => ?_)
  refine zs_lo (lo' := [(0, .ref x), (1, .int y)]) rfl ?_
  obtain ⟨hX0, hw⟩ := id hp
  obtain ⟨a1, a2, a3, a4, a5, lp, lv, lh, lz, tg, ⟨t0, t1, t2, t3, t4, t5, hx, r1, r2, r3, r4, r5⟩, htg, hP, hV, hG, hZ, hκ⟩ := hX0
  obtain ⟨wN, wP, wV, wA, wH, wZ, wF⟩ := id hw
  obtain ⟨n6, n40, n12, n8, n99⟩ := id wN
  refine zs_aload_n hE 0 dX6_ranked_0 rfl rfl ?_
  refine zs_iload_n hE 1 dX6_ranked_1 rfl rfl ?_
  refine zs_callVR (av := [.int y]) (st := []) (b := x) hE (m_X6_pieceWithRank D E B l κ S x y) rfl rfl sV_X6_249 hx rfl rfl (hp) ⟨by decide, by decide⟩ ⟨by decide, by decide⟩ (Nat.le_of_ble_eq_true rfl) dX6_ranked_2 ?_
  have hpl : ∀ j, sp_pr S y = some j → j < 2 ^ 31 := fun j e => by have := sp_pr_lt e; omega
  refine zs_istore_n (lo' := [(2, .int (sp_oi (sp_pr S y))), (0, .ref x), (1, .int y)]) hE dX6_ranked_5 rfl (by decide) rfl ?_
  refine zs_iload_n hE 0 dX6_ranked_6 rfl rfl ?_
  refine zs_iconst (v := (-1)) hE dX6_ranked_7 (by decide) ?_
  refine zs_icmp_ne (tgt := 21) hE dX6_ranked_8 (by decide) (fun h1 => ?_) (fun h1 => ?_)
  · obtain ⟨j, ej⟩ : ∃ j, sp_pr S y = some j := by cases w : sp_pr S y with | none => (rw [w] at h1; exact absurd rfl h1) | some j => exact ⟨j, rfl⟩
    refine zs_iload_n hE 0 dX6_ranked_21 rfl rfl ?_
    exact zs_iretX hE hr (op_ro hp.1 (by rw [o_ranked, ej]; rfl)) (by decide) (by decide) dX6_ranked_22
  · exact zs_throw hE hl htab th_X6_74_253_78 dX6_ranked_11 dX6_ranked_14 dX6_ranked_15 dX6_ranked_17 dX6_ranked_20 (by decide) (Nat.le_of_ble_eq_true rfl) (by decide) (by decide) (op_th hp 0 rfl (by rw [o_ranked, (sp_oi_no hpl).mp h1])) (by decide) (by decide)

set_option maxHeartbeats 4000000 in
set_option maxRecDepth 100000 in
theorem m_X6_isTied (D : va_G) (E : Nat → ClassId) (B : Nat) (l : Launch) (hl : l.stackTraces = false) (κ : Nat → Nat) (S : sp_S) (x : Nat) (y : Int32) : zs_Cx D E B l yX6_isTied cX6_isTied 4 (some .boolean) ({ frames := 6, cells := 1, slots := 6, locals := 90 } : Room) [.ref x, .int y] (fun H => cs_W D E κ S x H) (cs_F κ) (op_Q D E κ x (o_isTied S y)) (op_X D E κ x S (o_isTied S y) ["java/lang/IndexOutOfBoundsException"]) := by
  refine zs_cx (by decide) (Nat.le_of_ble_eq_true rfl) (fun p e s m below meth c hE hr htab hp => ?_)
  refine zs_lo (lo' := [(0, .ref x), (1, .int y)]) rfl ?_
  obtain ⟨hX0, hw⟩ := id hp
  obtain ⟨a1, a2, a3, a4, a5, lp, lv, lh, lz, tg, ⟨t0, t1, t2, t3, t4, t5, hx, r1, r2, r3, r4, r5⟩, htg, hP, hV, hG, hZ, hκ⟩ := hX0
  obtain ⟨wN, wP, wV, wA, wH, wZ, wF⟩ := id hw
  obtain ⟨n6, n40, n12, n8, n99⟩ := id wN
  refine zs_aload_n hE 0 dX6_isTied_0 rfl rfl ?_
  refine zs_iload_n hE 1 dX6_isTied_1 rfl rfl ?_
  refine zs_callVR (av := [.int y]) (st := []) (b := x) hE (m_X6_pieceAt D E B l x a1 (sp_np S) lp y .null .null (.ref a2) (.int (nI (sp_nv S))) (.ref a3) (.ref a4) (.int (nI (sp_nz S))) (.ref a5) (.int (nI (sp_ty S).length)) n6) rfl rfl sV_X6_70 hx rfl rfl (⟨hx, r1⟩) ⟨by decide, by decide⟩ ⟨by decide, by decide⟩ (Nat.le_of_ble_eq_true rfl) dX6_isTied_2 ?_
  refine zs_ifnonnull (tgt := 18) hE dX6_isTied_5 (by decide) (fun o1 h1 => ?_) (fun h1 => ?_)
  · obtain ⟨i, ei⟩ : ∃ i, sp_i y (sp_np S) = some i := by cases w : sp_i y (sp_np S) with | none => (rw [sp_at_no w] at h1; cases h1) | some j => exact ⟨j, rfl⟩
    obtain ⟨il, rfl⟩ := sp_i_lt ei
    refine zs_aload_n hE 0 dX6_isTied_18 rfl rfl ?_
    refine zs_iload_n hE 1 dX6_isTied_19 rfl rfl ?_
    refine zs_callVR (av := [.int (nI i)]) (st := []) (b := x) hE (m_X6_openScore D E B l κ S x i il) rfl rfl sV_X6_255 hx rfl rfl (hp) ⟨by decide, by decide⟩ ⟨by decide, by decide⟩ (Nat.le_of_ble_eq_true rfl) dX6_isTied_20 ?_
    refine zs_istore_n (lo' := [(2, .int (nI (sp_op S i))), (0, .ref x), (1, .int (nI i))]) hE dX6_isTied_23 rfl (by decide) rfl ?_
    refine zs_iconst (v := (nI 0)) hE dX6_isTied_24 (by decide) ?_
    refine zs_istore_n (lo' := [(3, .int (nI 0)), (2, .int (nI (sp_op S i))), (0, .ref x), (1, .int (nI i))]) hE dX6_isTied_25 rfl (by decide) rfl ?_
    have oi := sp_op_le wH i
    refine zs_sub (lo' := [(3, .int (nI 0)), (2, .int (nI (sp_op S i))), (0, .ref x), (1, .int (nI i))]) [0, 1, 2, 3] rfl ?_
    refine zs_ind1 (Hs := fun (j : Nat) => s.heap) (ks := fun (j : Nat) => 0) (ns := fun (j : Nat) => 0) (los := fun (j : Nat) => [(3, .int (nI j)), (2, .int (nI (sp_op S i))), (0, .ref x), (1, .int (nI i))]) (I := fun (j : Nat) => j ≤ sp_np S ∧ ∀ k, k < j → k ≠ i → ¬ sp_op S k = sp_op S i) (μ := fun (j : Nat) => sp_np S - j) 0 (⟨Nat.zero_le _, fun k hk => absurd hk (Nat.not_lt_zero _)⟩) (fun j hi ih => ?_)
    try dsimp only at hi ih ⊢
    obtain ⟨jn, jb⟩ := hi
    refine zs_iload_n hE 0 dX6_isTied_26 rfl rfl ?_
    refine zs_aload_n hE 2 dX6_isTied_27 rfl rfl ?_
    refine zs_get hE fl_X6_44 hx rfl dX6_isTied_28 ?_
    refine zs_icmp_geN (tgt := 56) hE (by omega) (by omega) dX6_isTied_31 (by decide) (fun h7 => ?_) (fun h => ?_)
    · refine zs_iconst (v := (nI 0)) hE dX6_isTied_56 (by decide) ?_
      refine zs_top (v' := .int (zs_b (∃ j, j < sp_np S ∧ j ≠ i ∧ sp_op S j = sp_op S i))) (vb0 (fun ⟨k, k1, k2, k3⟩ => jb k (by omega) k2 k3)) ?_
      exact zs_zretX hE hr (zs_bnar _) (op_ro hp.1 (by rw [o_isTied, ei])) (by decide) (by decide) dX6_isTied_57
    · have oj := sp_op_le wH j
      refine zs_iload_n hE 0 dX6_isTied_34 rfl rfl ?_
      refine zs_iload_n hE 3 dX6_isTied_35 rfl rfl ?_
      refine zs_icmp_eqN (tgt := 50) hE (by omega) (by omega) dX6_isTied_36 (by decide) (fun h5 => ?_) (fun h5 => ?_)
      · refine zs_iincN (lo' := [(3, .int (nI (j + 1))), (2, .int (nI (sp_op S i))), (0, .ref x), (1, .int (nI i))]) hE 0 dX6_isTied_50 rfl (by decide) rfl ?_
        refine zs_goto (tgt := 26) hE dX6_isTied_53 (by decide) ?_
        refine zs_sub (lo' := [(3, .int (nI (j + 1))), (2, .int (nI (sp_op S i))), (0, .ref x), (1, .int (nI i))]) [0, 1, 2, 3] rfl ?_
        exact ih (j + 1) (⟨by omega, fun k k1 k2 k3 => by rcases Nat.lt_or_ge k j with w | w; exact jb k w k2 k3; exact k2 (by omega)⟩) (by omega)
      · refine zs_aload_n hE 2 dX6_isTied_39 rfl rfl ?_
        refine zs_iload_n hE 0 dX6_isTied_40 rfl rfl ?_
        refine zs_callVR (av := [.int (nI j)]) (st := []) (b := x) hE (m_X6_openScore D E B l κ S x j h) rfl rfl sV_X6_255 hx rfl rfl (hp) ⟨by decide, by decide⟩ ⟨by decide, by decide⟩ (Nat.le_of_ble_eq_true rfl) dX6_isTied_41 ?_
        refine zs_iload_n hE 1 dX6_isTied_44 rfl rfl ?_
        refine zs_icmp_neN (tgt := 50) hE (by omega) (by omega) dX6_isTied_45 (by decide) (fun h6 => ?_) (fun h6 => ?_)
        · refine zs_iincN (lo' := [(3, .int (nI (j + 1))), (2, .int (nI (sp_op S i))), (0, .ref x), (1, .int (nI i))]) hE 0 dX6_isTied_50 rfl (by decide) rfl ?_
          refine zs_goto (tgt := 26) hE dX6_isTied_53 (by decide) ?_
          refine zs_sub (lo' := [(3, .int (nI (j + 1))), (2, .int (nI (sp_op S i))), (0, .ref x), (1, .int (nI i))]) [0, 1, 2, 3] rfl ?_
          exact ih (j + 1) (⟨by omega, fun k k1 k2 k3 => by rcases Nat.lt_or_ge k j with w | w; exact jb k w k2 k3; rw [show k = j by omega] at k3; exact h6 k3⟩) (by omega)
        · refine zs_iconst (v := (nI 1)) hE dX6_isTied_48 (by decide) ?_
          refine zs_top (v' := .int (zs_b (∃ j, j < sp_np S ∧ j ≠ i ∧ sp_op S j = sp_op S i))) (vb1 ⟨j, h, h5, h6⟩) ?_
          exact zs_zretX hE hr (zs_bnar _) (op_ro hp.1 (by rw [o_isTied, ei])) (by decide) (by decide) dX6_isTied_49
  · exact zs_throw hE hl htab th_X6_74_76_78 dX6_isTied_8 dX6_isTied_11 dX6_isTied_12 dX6_isTied_14 dX6_isTied_17 (by decide) (Nat.le_of_ble_eq_true rfl) (by decide) (by decide) (op_th hp 0 rfl (by rw [o_isTied]; cases e : sp_i y (sp_np S) with | none => rfl | some i => (obtain ⟨a, r, e1, -⟩ := hP i (sp_i_lt e).1; rw [sp_at_yes e, e1] at h1; cases h1))) (by decide) (by decide)

set_option maxHeartbeats 4000000 in
set_option maxRecDepth 100000 in
theorem m_X6_named (D : va_G) (E : Nat → ClassId) (B : Nat) (l : Launch) (hl : l.stackTraces = false) (κ : Nat → Nat) (S : sp_S) (x : Nat) (y : Int32) : zs_Cx D E B l yX6_named cX6_named 3 (some .int) ({ frames := 6, cells := 1, slots := 6, locals := 90 } : Room) [.ref x, .int y] (fun H => cs_W D E κ S x H) (cs_F κ) (op_Q D E κ x (o_named S y)) (op_X D E κ x S (o_named S y) ["java/lang/IndexOutOfBoundsException"]) := by
  refine zs_cx (by decide) (Nat.le_of_ble_eq_true rfl) (fun p e s m below meth c hE hr htab hp => ?_)
  refine zs_lo (lo' := [(0, .ref x), (1, .int y)]) rfl ?_
  obtain ⟨hX0, hw⟩ := id hp
  obtain ⟨a1, a2, a3, a4, a5, lp, lv, lh, lz, tg, ⟨t0, t1, t2, t3, t4, t5, hx, r1, r2, r3, r4, r5⟩, htg, hP, hV, hG, hZ, hκ⟩ := hX0
  obtain ⟨wN, wP, wV, wA, wH, wZ, wF⟩ := id hw
  obtain ⟨n6, n40, n12, n8, n99⟩ := id wN
  refine zs_aload_n hE 0 dX6_named_0 rfl rfl ?_
  refine zs_iload_n hE 1 dX6_named_1 rfl rfl ?_
  refine zs_callVR (av := [.int y]) (st := []) (b := x) hE (m_X6_prizeAt D E B l x a4 (sp_nz S) lz y (.ref a1) (.int (nI (sp_np S))) (.ref a2) (.int (nI (sp_nv S))) (.ref a3) .null .null (.ref a5) (.int (nI (sp_ty S).length)) n12) rfl rfl sV_X6_274 hx rfl rfl (⟨hx, r4⟩) ⟨by decide, by decide⟩ ⟨by decide, by decide⟩ (Nat.le_of_ble_eq_true rfl) dX6_named_2 ?_
  refine zs_astore_nq (lo' := [(2, va_rf (sp_at y (sp_nz S) lz)), (0, .ref x), (1, .int y)]) hE dX6_named_5 rfl (by decide) rfl ?_
  refine zs_aload_nq hE 0 dX6_named_6 rfl rfl ?_
  refine zs_ifnonnull (tgt := 21) hE dX6_named_7 (by decide) (fun o1 h1 => ?_) (fun h1 => ?_)
  · obtain ⟨z, ez⟩ : ∃ z, sp_i y (sp_nz S) = some z := by cases w : sp_i y (sp_nz S) with | none => (rw [sp_at_no w] at h1; cases h1) | some j => exact ⟨j, rfl⟩
    obtain ⟨pa, pg, pe, -, -, ph, pi⟩ := hZ z (sp_i_lt ez).1
    refine zs_lo (lo' := [(2, .ref pa), (0, .ref x), (1, .int y)]) (by rw [sp_at_yes ez, pe]; rfl) ?_
    refine zs_aload_n hE 0 dX6_named_21 rfl rfl ?_
    refine zs_get hE fl_X6_280 ph rfl dX6_named_22 ?_
    exact zs_iretX hE hr (op_ro hp.1 (by rw [o_named, ez])) (by decide) (by decide) dX6_named_25
  · exact zs_throwW hE hl htab th_X6_74_278_78 dX6_named_10 dX6_named_13 dX6_named_14 dX6_named_17 dX6_named_20 (by decide) (Nat.le_of_ble_eq_true rfl) (by decide) (by decide) (op_th hp 0 rfl (by rw [o_named]; cases e : sp_i y (sp_nz S) with | none => rfl | some z => (obtain ⟨a, g, e1, -⟩ := hZ z (sp_i_lt e).1; rw [sp_at_yes e, e1] at h1; cases h1))) (by decide) (by decide)

set_option maxHeartbeats 4000000 in
set_option maxRecDepth 100000 in
theorem m_X6_share (D : va_G) (E : Nat → ClassId) (B : Nat) (l : Launch) (hl : l.stackTraces = false) (κ : Nat → Nat) (S : sp_S) (x : Nat) (y w : Int32) : zs_Cx D E B l yX6_share cX6_share 4 (some .int) ({ frames := 6, cells := 1, slots := 6, locals := 90 } : Room) [.ref x, .int y, .int w] (fun H => cs_W D E κ S x H) (cs_F κ) (op_Q D E κ x (o_share S y w)) (op_X D E κ x S (o_share S y w) ["java/lang/IndexOutOfBoundsException"]) := by
  refine zs_cx (by decide) (Nat.le_of_ble_eq_true rfl) (fun p e s m below meth c hE hr htab hp => ?_)
  refine zs_lo (lo' := [(0, .ref x), (1, .int y), (2, .int w)]) rfl ?_
  obtain ⟨hX0, hw⟩ := id hp
  obtain ⟨a1, a2, a3, a4, a5, lp, lv, lh, lz, tg, ⟨t0, t1, t2, t3, t4, t5, hx, r1, r2, r3, r4, r5⟩, htg, hP, hV, hG, hZ, hκ⟩ := hX0
  obtain ⟨wN, wP, wV, wA, wH, wZ, wF⟩ := id hw
  obtain ⟨n6, n40, n12, n8, n99⟩ := id wN
  refine zs_aload_n hE 0 dX6_share_0 rfl rfl ?_
  refine zs_iload_n hE 1 dX6_share_1 rfl rfl ?_
  refine zs_callVR (av := [.int y]) (st := []) (b := x) hE (m_X6_prizeAt D E B l x a4 (sp_nz S) lz y (.ref a1) (.int (nI (sp_np S))) (.ref a2) (.int (nI (sp_nv S))) (.ref a3) .null .null (.ref a5) (.int (nI (sp_ty S).length)) n12) rfl rfl sV_X6_274 hx rfl rfl (⟨hx, r4⟩) ⟨by decide, by decide⟩ ⟨by decide, by decide⟩ (Nat.le_of_ble_eq_true rfl) dX6_share_2 ?_
  refine zs_astore_nq (lo' := [(3, va_rf (sp_at y (sp_nz S) lz)), (0, .ref x), (1, .int y), (2, .int w)]) hE dX6_share_5 rfl (by decide) rfl ?_
  refine zs_aload_nq hE 0 dX6_share_6 rfl rfl ?_
  refine zs_ifnull (tgt := 17) hE dX6_share_7 (by decide) (fun h1 => ?_) (fun o1 h1 => ?_)
  · exact zs_throwW hE hl htab th_X6_74_281_78 dX6_share_17 dX6_share_20 dX6_share_21 dX6_share_24 dX6_share_27 (by decide) (Nat.le_of_ble_eq_true rfl) (by decide) (by decide) (op_th hp 0 rfl (by rw [o_share]; cases e : sp_i y (sp_nz S) with | none => rfl | some z => (obtain ⟨a, g, e1, -⟩ := hZ z (sp_i_lt e).1; rw [sp_at_yes e, e1] at h1; cases h1))) (by decide) (by decide)
  · obtain ⟨z, ez⟩ : ∃ z, sp_i y (sp_nz S) = some z := by cases w : sp_i y (sp_nz S) with | none => (rw [sp_at_no w] at h1; cases h1) | some j => exact ⟨j, rfl⟩
    obtain ⟨pa, pg, pe, -, -, ph, pi⟩ := hZ z (sp_i_lt ez).1
    refine zs_lo (lo' := [(3, .ref pa), (0, .ref x), (1, .int y), (2, .int w)]) (by rw [sp_at_yes ez, pe]; rfl) ?_
    refine zs_iload_n hE 3 dX6_share_10 rfl rfl ?_
    refine zs_callSR (av := [.int w]) (st := []) hE (m_X6_isEditor D E B l w) rfl rfl sS_X6_104 (trivial) ⟨by decide, by decide⟩ ⟨by decide, by decide⟩ (Nat.le_of_ble_eq_true rfl) dX6_share_11 ?_
    refine zs_if_neB (tgt := 28) hE dX6_share_14 (by decide) (fun h2 => ?_) (fun h2 => ?_)
    · obtain ⟨ed, eed⟩ : ∃ e, sp_i w 6 = some e := by cases w : sp_i w 6 with | none => exact absurd w h2 | some j => exact ⟨j, rfl⟩
      obtain ⟨edl, rfl⟩ := sp_i_lt eed
      refine zs_aload_n hE 0 dX6_share_28 rfl rfl ?_
      refine zs_get hE fl_X6_283 ph rfl dX6_share_29 ?_
      refine zs_iload_n hE 3 dX6_share_32 rfl rfl ?_
      refine zs_iald hE pi (by omega) (by decide) dX6_share_33 ?_
      exact zs_iretX hE hr (op_ro hp.1 (by rw [o_share, ez]; simp only []; rw [eed])) (by decide) (by decide) dX6_share_34
    · exact zs_throwW hE hl htab th_X6_74_281_78 dX6_share_17 dX6_share_20 dX6_share_21 dX6_share_24 dX6_share_27 (by decide) (Nat.le_of_ble_eq_true rfl) (by decide) (by decide) (op_th hp 0 rfl (by rw [o_share, ez]; simp only []; rw [Classical.not_not.mp h2])) (by decide) (by decide)

set_option maxHeartbeats 4000000 in
set_option maxRecDepth 100000 in
theorem m_X6_got (D : va_G) (E : Nat → ClassId) (B : Nat) (l : Launch) (hl : l.stackTraces = false) (κ : Nat → Nat) (S : sp_S) (x : Nat) (w : Int32) : zs_Cx D E B l yX6_got cX6_got 5 (some .int) ({ frames := 6, cells := 1, slots := 6, locals := 90 } : Room) [.ref x, .int w] (fun H => cs_W D E κ S x H) (cs_F κ) (op_Q D E κ x (o_got S w)) (op_X D E κ x S (o_got S w) ["java/lang/IndexOutOfBoundsException"]) := by
  refine zs_cx (by decide) (Nat.le_of_ble_eq_true rfl) (fun p e s m below meth c hE hr htab hp => ?_)
  refine zs_lo (lo' := [(0, .ref x), (1, .int w)]) rfl ?_
  obtain ⟨hX0, hw⟩ := id hp
  obtain ⟨a1, a2, a3, a4, a5, lp, lv, lh, lz, tg, ⟨t0, t1, t2, t3, t4, t5, hx, r1, r2, r3, r4, r5⟩, htg, hP, hV, hG, hZ, hκ⟩ := hX0
  obtain ⟨wN, wP, wV, wA, wH, wZ, wF⟩ := id hw
  obtain ⟨n6, n40, n12, n8, n99⟩ := id wN
  refine zs_iload_n hE 1 dX6_got_0 rfl rfl ?_
  refine zs_callSR (av := [.int w]) (st := []) hE (m_X6_isEditor D E B l w) rfl rfl sS_X6_104 (trivial) ⟨by decide, by decide⟩ ⟨by decide, by decide⟩ (Nat.le_of_ble_eq_true rfl) dX6_got_1 ?_
  refine zs_if_neB (tgt := 18) hE dX6_got_4 (by decide) (fun h2 => ?_) (fun h2 => ?_)
  · obtain ⟨ed, eed⟩ : ∃ e, sp_i w 6 = some e := by cases w : sp_i w 6 with | none => exact absurd w h2 | some j => exact ⟨j, rfl⟩
    obtain ⟨edl, rfl⟩ := sp_i_lt eed
    refine zs_iconst (v := (nI 0)) hE dX6_got_18 (by decide) ?_
    refine zs_istore_n (lo' := [(2, .int (nI 0)), (0, .ref x), (1, .int (nI ed))]) hE dX6_got_19 rfl (by decide) rfl ?_
    refine zs_iconst (v := (nI 0)) hE dX6_got_20 (by decide) ?_
    refine zs_istore_n (lo' := [(3, .int (nI 0)), (2, .int (nI 0)), (0, .ref x), (1, .int (nI ed))]) hE dX6_got_21 rfl (by decide) rfl ?_
    refine zs_sub (lo' := [(3, .int (nI 0)), (2, .int (nI 0)), (0, .ref x), (1, .int (nI ed))]) [0, 1, 2, 3] rfl ?_
    refine zs_ind1 (Hs := fun (z : Nat) => s.heap) (ks := fun (z : Nat) => 0) (ns := fun (z : Nat) => 0) (los := fun (z : Nat) => [(3, .int (nI z)), (2, .int (nI (sm (fun z => sp_zs S z ed) z))), (0, .ref x), (1, .int (nI ed))]) (I := fun (z : Nat) => z ≤ sp_nz S) (μ := fun (z : Nat) => sp_nz S - z) 0 (Nat.zero_le _) (fun z hi ih => ?_)
    try dsimp only at hi ih ⊢
    refine zs_iload_n hE 0 dX6_got_22 rfl rfl ?_
    refine zs_aload_n hE 2 dX6_got_23 rfl rfl ?_
    refine zs_get hE fl_X6_265 hx rfl dX6_got_24 ?_
    refine zs_icmp_geN (tgt := 58) hE (by omega) (by omega) dX6_got_27 (by decide) (fun h7 => ?_) (fun h => ?_)
    · obtain rfl : z = sp_nz S := by omega
      refine zs_iload_n hE 1 dX6_got_58 rfl rfl ?_
      exact zs_iretX hE hr (op_ro hp.1 (by rw [o_got, eed])) (by decide) (by decide) dX6_got_59
    · obtain ⟨pa, pg, pe, -, -, ph, pi⟩ := hZ z h
      refine zs_aload_n hE 2 dX6_got_30 rfl rfl ?_
      refine zs_iload_n hE 0 dX6_got_31 rfl rfl ?_
      refine zs_callVR (av := [.int (nI z)]) (st := []) (b := x) hE (m_X6_prizeAt D E B l x a4 (sp_nz S) lz (nI z) (.ref a1) (.int (nI (sp_np S))) (.ref a2) (.int (nI (sp_nv S))) (.ref a3) .null .null (.ref a5) (.int (nI (sp_ty S).length)) n12) rfl rfl sV_X6_274 hx rfl rfl (⟨hx, r4⟩) ⟨by decide, by decide⟩ ⟨by decide, by decide⟩ (Nat.le_of_ble_eq_true rfl) dX6_got_32 ?_
      refine zs_top (v' := .ref pa) (by rw [sp_at_yes (sp_i_in h (by omega)), pe]; rfl) ?_
      refine zs_astore (lo' := [(4, .ref pa), (3, .int (nI z)), (2, .int (nI (sm (fun z => sp_zs S z ed) z))), (0, .ref x), (1, .int (nI ed))]) hE dX6_got_35 (by decide) rfl ?_
      refine zs_aload hE 0 dX6_got_37 rfl ?_
      refine zs_ifnullR hE dX6_got_39 ?_
      refine zs_iload_n hE 2 dX6_got_42 rfl rfl ?_
      refine zs_aload hE 0 dX6_got_43 rfl ?_
      refine zs_get hE fl_X6_283 ph rfl dX6_got_45 ?_
      refine zs_iload_n hE 4 dX6_got_48 rfl rfl ?_
      refine zs_iald hE pi (by omega) (by decide) dX6_got_49 ?_
      refine zs_iaddN hE dX6_got_50 ?_
      refine zs_istore_n (lo' := [(2, .int (nI (sm (fun z => sp_zs S z ed) z + (sp_zs S z ed)))), (4, .ref pa), (3, .int (nI z)), (0, .ref x), (1, .int (nI ed))]) hE dX6_got_51 rfl (by decide) rfl ?_
      refine zs_iincN (lo' := [(3, .int (nI (z + 1))), (2, .int (nI (sm (fun z => sp_zs S z ed) z + (sp_zs S z ed)))), (4, .ref pa), (0, .ref x), (1, .int (nI ed))]) hE 2 dX6_got_52 rfl (by decide) rfl ?_
      refine zs_goto (tgt := 22) hE dX6_got_55 (by decide) ?_
      refine zs_sub (lo' := [(3, .int (nI (z + 1))), (2, .int (nI (sm (fun z => sp_zs S z ed) z + (sp_zs S z ed)))), (0, .ref x), (1, .int (nI ed))]) [0, 1, 3, 4] rfl ?_
      exact ih (z + 1) (by omega) (by omega)
  · exact zs_throwW hE hl htab th_X6_74_286_78 dX6_got_7 dX6_got_10 dX6_got_11 dX6_got_14 dX6_got_17 (by decide) (Nat.le_of_ble_eq_true rfl) (by decide) (by decide) (op_th hp 0 rfl (by rw [o_got, Classical.not_not.mp h2])) (by decide) (by decide)

set_option maxHeartbeats 4000000 in
set_option maxRecDepth 100000 in
theorem m_X6_asked (D : va_G) (E : Nat → ClassId) (B : Nat) (l : Launch) (κ : Nat → Nat) (S : sp_S) (x : Nat) : zs_Ct D E B l yX6_asked cX6_asked 1 (some .int) ({ frames := 2, cells := 0, slots := 0, locals := 48 } : Room) [.ref x] (fun H => cs_W D E κ S x H) (cs_F κ) (op_Q D E κ x (o_asked S)) := by
  refine zs_ct (by decide) (Nat.le_of_ble_eq_true rfl) (fun p e s m below meth c hE hr hin hp => ?_)
  refine zs_lo (lo' := [(0, .ref x)]) rfl ?_
  obtain ⟨hX0, hw⟩ := id hp
  obtain ⟨a1, a2, a3, a4, a5, lp, lv, lh, lz, tg, ⟨t0, t1, t2, t3, t4, t5, hx, r1, r2, r3, r4, r5⟩, htg, hP, hV, hG, hZ, hκ⟩ := hX0
  obtain ⟨wN, wP, wV, wA, wH, wZ, wF⟩ := id hw
  obtain ⟨n6, n40, n12, n8, n99⟩ := id wN
  refine zs_aload_n hE 0 dX6_asked_0 rfl rfl ?_
  refine zs_callVR (av := []) (st := []) (b := x) hE (m_X6_marksTold D E B l κ S x) rfl rfl sV_X6_238 hx rfl rfl (hp) ⟨by decide, by decide⟩ ⟨by decide, by decide⟩ (Nat.le_of_ble_eq_true rfl) dX6_asked_1 ?_
  refine zs_aload_n hE 0 dX6_asked_4 rfl rfl ?_
  refine zs_callVR (av := []) (st := [.int (nI (sp_mt S))]) (b := x) hE (m_X6_marksCounted D E B l κ S x) rfl rfl sV_X6_241 hx rfl rfl (hp) ⟨by decide, by decide⟩ ⟨by decide, by decide⟩ (Nat.le_of_ble_eq_true rfl) dX6_asked_5 ?_
  refine zs_isub hE dX6_asked_8 ?_
  exact zs_iret hE hr (op_ro hp.1 (rfl)) (by decide) (by decide) dX6_asked_9

set_option maxHeartbeats 4000000 in
set_option maxRecDepth 100000 in
theorem m_X6_countShare (D : va_G) (E : Nat → ClassId) (B : Nat) (l : Launch) (hl : l.stackTraces = false) (κ : Nat → Nat) (S : sp_S) (x : Nat) : zs_Cx D E B l yX6_countShare cX6_countShare 2 (some .float) ({ frames := 6, cells := 1, slots := 6, locals := 90 } : Room) [.ref x] (fun H => cs_W D E κ S x H) (cs_F κ) (op_Q D E κ x (o_countShare S)) (op_X D E κ x S (o_countShare S) ["java/lang/ArithmeticException"]) := by
  refine zs_cx (by decide) (Nat.le_of_ble_eq_true rfl) (fun p e s m below meth c hE hr htab hp => ?_)
  refine zs_lo (lo' := [(0, .ref x)]) rfl ?_
  obtain ⟨hX0, hw⟩ := id hp
  obtain ⟨a1, a2, a3, a4, a5, lp, lv, lh, lz, tg, ⟨t0, t1, t2, t3, t4, t5, hx, r1, r2, r3, r4, r5⟩, htg, hP, hV, hG, hZ, hκ⟩ := hX0
  obtain ⟨wN, wP, wV, wA, wH, wZ, wF⟩ := id hw
  obtain ⟨n6, n40, n12, n8, n99⟩ := id wN
  have bt := sp_mt_le wH
  have bc := sp_mc_le wH
  refine zs_aload_n hE 0 dX6_countShare_0 rfl rfl ?_
  refine zs_callVR (av := []) (st := []) (b := x) hE (m_X6_marksTold D E B l κ S x) rfl rfl sV_X6_238 hx rfl rfl (hp) ⟨by decide, by decide⟩ ⟨by decide, by decide⟩ (Nat.le_of_ble_eq_true rfl) dX6_countShare_1 ?_
  refine zs_istore_n (lo' := [(1, .int (nI (sp_mt S))), (0, .ref x)]) hE dX6_countShare_4 rfl (by decide) rfl ?_
  refine zs_iload_n hE 0 dX6_countShare_5 rfl rfl ?_
  refine zs_if_neN (tgt := 20) hE (by omega) dX6_countShare_6 (by decide) (fun h1 => ?_) (fun h1 => ?_)
  · refine zs_aload_n hE 1 dX6_countShare_20 rfl rfl ?_
    refine zs_callVR (av := []) (st := []) (b := x) hE (m_X6_marksCounted D E B l κ S x) rfl rfl sV_X6_241 hx rfl rfl (hp) ⟨by decide, by decide⟩ ⟨by decide, by decide⟩ (Nat.le_of_ble_eq_true rfl) dX6_countShare_21 ?_
    refine zs_i2f hE dX6_countShare_24 ?_
    refine zs_iload_n hE 0 dX6_countShare_25 rfl rfl ?_
    refine zs_i2f hE dX6_countShare_26 ?_
    refine zs_fdiv hE dX6_countShare_27 (fl_share (by omega) (by omega) (by omega)) ?_
    exact zs_fretX hE hr (op_ro hp.1 (by rw [o_countShare, pI_f (by omega)])) (by decide) (by decide) dX6_countShare_28
  · exact zs_throwW hE hl htab th_X6_293_295_297 dX6_countShare_9 dX6_countShare_12 dX6_countShare_13 dX6_countShare_16 dX6_countShare_19 (by decide) (Nat.le_of_ble_eq_true rfl) (by decide) (by decide) (op_th hp 0 rfl (by rw [o_countShare, pI_t (by omega)])) (by decide) (by decide)

set_option maxHeartbeats 4000000 in
set_option maxRecDepth 100000 in
theorem m_X6_meanMark (D : va_G) (E : Nat → ClassId) (B : Nat) (l : Launch) (hl : l.stackTraces = false) (κ : Nat → Nat) (S : sp_S) (x : Nat) : zs_Cx D E B l yX6_meanMark cX6_meanMark 2 (some .double) ({ frames := 6, cells := 1, slots := 6, locals := 90 } : Room) [.ref x] (fun H => cs_W D E κ S x H) (cs_F κ) (op_Q D E κ x (o_meanMark S)) (op_X D E κ x S (o_meanMark S) ["java/lang/ArithmeticException"]) := by
  refine zs_cx (by decide) (Nat.le_of_ble_eq_true rfl) (fun p e s m below meth c hE hr htab hp => ?_)
  refine zs_lo (lo' := [(0, .ref x)]) rfl ?_
  obtain ⟨hX0, hw⟩ := id hp
  obtain ⟨a1, a2, a3, a4, a5, lp, lv, lh, lz, tg, ⟨t0, t1, t2, t3, t4, t5, hx, r1, r2, r3, r4, r5⟩, htg, hP, hV, hG, hZ, hκ⟩ := hX0
  obtain ⟨wN, wP, wV, wA, wH, wZ, wF⟩ := id hw
  obtain ⟨n6, n40, n12, n8, n99⟩ := id wN
  have bs := sp_ms_le wH
  have bc := sp_mc_le wH
  refine zs_aload_n hE 0 dX6_meanMark_0 rfl rfl ?_
  refine zs_callVR (av := []) (st := []) (b := x) hE (m_X6_marksCounted D E B l κ S x) rfl rfl sV_X6_241 hx rfl rfl (hp) ⟨by decide, by decide⟩ ⟨by decide, by decide⟩ (Nat.le_of_ble_eq_true rfl) dX6_meanMark_1 ?_
  refine zs_istore_n (lo' := [(1, .int (nI (sp_mc S))), (0, .ref x)]) hE dX6_meanMark_4 rfl (by decide) rfl ?_
  refine zs_iload_n hE 0 dX6_meanMark_5 rfl rfl ?_
  refine zs_if_neN (tgt := 20) hE (by omega) dX6_meanMark_6 (by decide) (fun h1 => ?_) (fun h1 => ?_)
  · refine zs_aload_n hE 1 dX6_meanMark_20 rfl rfl ?_
    refine zs_callVR (av := []) (st := []) (b := x) hE (m_X6_sumCounted D E B l κ S x) rfl rfl sV_X6_300 hx rfl rfl (hp) ⟨by decide, by decide⟩ ⟨by decide, by decide⟩ (Nat.le_of_ble_eq_true rfl) dX6_meanMark_21 ?_
    refine zs_i2d hE dX6_meanMark_24 ?_
    refine zs_iload_n hE 0 dX6_meanMark_25 rfl rfl ?_
    refine zs_i2d hE dX6_meanMark_26 ?_
    refine zs_ddiv hE dX6_meanMark_27 (fl_mean (by omega) (by omega) (by omega)) ?_
    exact zs_dretX hE hr (op_ro hp.1 (by rw [o_meanMark, pI_f (by omega)])) (by decide) (by decide) dX6_meanMark_28
  · exact zs_throwW hE hl htab th_X6_293_298_297 dX6_meanMark_9 dX6_meanMark_12 dX6_meanMark_13 dX6_meanMark_16 dX6_meanMark_19 (by decide) (Nat.le_of_ble_eq_true rfl) (by decide) (by decide) (op_th hp 0 rfl (by rw [o_meanMark, pI_t (by omega)])) (by decide) (by decide)


/-! sheaves -/
noncomputable def pI {α : Type} (P : Prop) (a b : α) : α := @ite α P (Classical.propDecidable P) a b
theorem pI_t {α : Type} {P : Prop} {a b : α} (h : P) : pI P a b = a := @if_pos _ (Classical.propDecidable P) h _ _ _
theorem pI_f {α : Type} {P : Prop} {a b : α} (h : ¬ P) : pI P a b = b := @if_neg _ (Classical.propDecidable P) h _ _ _
theorem sp_at_in {j n b : Nat} {f : Nat → Option Nat} (h : j < n) (hn : n < 2 ^ 31) (hb : f j = some b) : va_rf (sp_at (nI j) n f) = .ref b := by
  rw [sp_at, sp_i_in h hn, Option.bind_some, hb]; rfl
def cs_s0 (D : va_G) (E : Nat → ClassId) (κ : Nat → Nat) (H : Heap) (a ha : Nat) (f : Nat → Option Nat) (rs : sp_Sh) : Prop := rs.length ≤ 4 ∧ zs_pt D a (.inr (4, [.ref ha, .int (nI rs.length)])) H ∧ zs_pt D ha (.inl (E 10, 4, .inr (.inr (.inr (.inr f))))) H ∧ ∀ j, j < rs.length → ∃ b : Nat, f j = some b ∧ cs_row D E κ H b (rs.getD j sp_d0)
theorem cs_sh.s0 {D : va_G} {E : Nat → ClassId} {κ : Nat → Nat} {H : Heap} {a : Nat} {rs : sp_Sh} (h : cs_sh D E κ H a rs) : ∃ (ha : Nat) (f : Nat → Option Nat), cs_s0 D E κ H a ha f rs := by
  obtain ⟨h0, h1, ha, f, h2, h3, h4, h5⟩ := h
  exact ⟨ha, f, h0, h3, h4, h5⟩
theorem gd_app {rs : sp_Sh} {r : sp_R} {j : Nat} (h : j < rs.length) : (rs ++ [r]).getD j sp_d0 = rs.getD j sp_d0 := by
  simp [List.getD, List.getElem?_append_left h]
theorem gd_app2 {rs : sp_Sh} {r : sp_R} : (rs ++ [r]).getD rs.length sp_d0 = r := by simp [List.getD]
/-- a sheaf that is being made: its rows stood in H0 -/
def cs_mk (D : va_G) (E : Nat → ClassId) (κ : Nat → Nat) (H0 H : Heap) (a ha : Nat) (rs : sp_Sh) : Prop := rs.length ≤ 4 ∧ zs_pt D a (.inr (4, [.ref ha, .int (nI rs.length)])) H ∧ ∃ f : Nat → Option Nat, zs_pt D ha (.inl (E 10, 4, .inr (.inr (.inr (.inr f))))) H ∧ ∀ j, j < rs.length → ∃ b : Nat, f j = some b ∧ cs_row D E κ H0 b (rs.getD j sp_d0)
theorem cs_mk.sh {D : va_G} {E : Nat → ClassId} {κ : Nat → Nat} {H0 H : Heap} {a ha : Nat} {rs : sp_Sh} (h : cs_mk D E κ H0 H a ha rs) (h1 : κ a = 0) (h2 : κ ha = 0) (hk : cs_kp κ H0 H) : cs_sh D E κ H a rs := by
  obtain ⟨q0, q1, f, q2, q3⟩ := h
  exact ⟨q0, h1, ha, f, h2, q1, q2, fun j hj => (q3 j hj).imp fun b z => ⟨z.1, z.2.kept hk⟩⟩
/-- the rows of one sheaf behind those of another, that aren't there by then, four at most -/
noncomputable def sp_jn (rs ts : sp_Sh) : Nat → sp_Sh
  | 0 => rs
  | k + 1 => pI (sp_has (sp_jn rs ts k) (ts.getD k sp_d0) ∨ 4 ≤ (sp_jn rs ts k).length) (sp_jn rs ts k) (sp_jn rs ts k ++ [ts.getD k sp_d0])
theorem sp_jn_len {rs ts : sp_Sh} (h : rs.length ≤ 4) : ∀ k, (sp_jn rs ts k).length ≤ 4
  | 0 => h
  | k + 1 => by
    show (pI _ _ _ : sp_Sh).length ≤ 4
    by_cases q : sp_has (sp_jn rs ts k) (ts.getD k sp_d0) ∨ 4 ≤ (sp_jn rs ts k).length
    · rw [pI_t q]; exact sp_jn_len h k
    · rw [pI_f q, List.length_append]
      show _ + 1 ≤ 4
      have := fun z => q (Or.inr z)
      omega

set_option maxHeartbeats 4000000 in
set_option maxRecDepth 100000 in
theorem m_X4_rowAt (D : va_G) (E : Nat → ClassId) (B : Nat) (l : Launch) (a ha n : Nat) (f : Nat → Option Nat) (x : Int32) (hn : n ≤ 4) : zs_Ct D E B l yX4_rowAt cX4_rowAt 2 (some (.object "ScoreSheaf$Row")) ({ frames := 0, cells := 0, slots := 0, locals := 0 } : Room) [.ref a, .int x] (fun H => zs_pt D a (.inr (4, [.ref ha, .int (nI n)])) H ∧ zs_pt D ha (.inl (E 10, 4, .inr (.inr (.inr (.inr f))))) H) (zs_N) (zs_ro (va_rf (sp_at x n f))) := by
  refine zs_ct (by decide) (Nat.le_of_ble_eq_true rfl) (fun p e s m below meth c hE hr hin hp => ?_)
  refine zs_lo (lo' := [(0, .ref a), (1, .int x)]) rfl ?_
  obtain ⟨q1, q2⟩ := hp
  refine zs_iload_n hE 1 dX4_rowAt_0 rfl rfl ?_
  refine zs_if_lt (tgt := 12) hE dX4_rowAt_1 (by decide) (fun h => ?_) (fun h => ?_)
  · refine zs_nullq hE dX4_rowAt_12 ?_
    refine zs_goto (tgt := 22) hE dX4_rowAt_13 (by decide) ?_
    refine zs_top (v' := va_rf (sp_at x n f)) (by rw [sp_at, sp_i_lo h]; rfl) ?_
    exact zs_aret hE hr (by first | exact Or.inl ⟨_, rfl⟩ | exact Or.inr ⟨_, rfl⟩) (⟨rfl, rfl⟩) (by decide) (by decide) dX4_rowAt_22
  · refine zs_iload_n hE 1 dX4_rowAt_4 rfl rfl ?_
    refine zs_aload_n hE 0 dX4_rowAt_5 rfl rfl ?_
    refine zs_get hE fl_X4_17 q1 rfl dX4_rowAt_6 ?_
    refine zs_icmp_lt (tgt := 16) hE dX4_rowAt_9 (by decide) (fun h2 => ?_) (fun h2 => ?_)
    · obtain ⟨j, hj, rfl⟩ := sp_dec (by omega) h h2
      refine zs_aload_n hE 0 dX4_rowAt_16 rfl rfl ?_
      refine zs_get hE fl_X4_11 q1 rfl dX4_rowAt_17 ?_
      refine zs_iload_n hE 1 dX4_rowAt_20 rfl rfl ?_
      refine zs_aald hE q2 rfl (by omega) (by decide) dX4_rowAt_21 ?_
      refine zs_top (v' := va_rf (sp_at (nI j) n f)) (by rw [sp_at, sp_i_in hj (by omega)]; rfl) ?_
      exact zs_aret hE hr (by first | exact Or.inl ⟨_, rfl⟩ | exact Or.inr ⟨_, rfl⟩) (⟨rfl, rfl⟩) (by decide) (by decide) dX4_rowAt_22
    · refine zs_nullq hE dX4_rowAt_12 ?_
      refine zs_goto (tgt := 22) hE dX4_rowAt_13 (by decide) ?_
      refine zs_top (v' := va_rf (sp_at x n f)) (by rw [sp_at, sp_i_hi (by omega) (sp_nlt_le h2)]; rfl) ?_
      exact zs_aret hE hr (by first | exact Or.inl ⟨_, rfl⟩ | exact Or.inr ⟨_, rfl⟩) (⟨rfl, rfl⟩) (by decide) (by decide) dX4_rowAt_22

set_option maxHeartbeats 4000000 in
set_option maxRecDepth 100000 in
theorem m_X4_take (D : va_G) (E : Nat → ClassId) (B : Nat) (l : Launch) (a ha n b : Nat) (f : Nat → Option Nat) (vs : List Value) (hn : n ≤ 4) (hne : ha ≠ a) : zs_Ct D E B l yX4_take cX4_take 2 none ({ frames := 0, cells := 0, slots := 0, locals := 0 } : Room) [.ref a, .ref b] (fun H => zs_pt D a (.inr (4, [.ref ha, .int (nI n)])) H ∧ zs_pt D ha (.inl (E 10, 4, .inr (.inr (.inr (.inr f))))) H ∧ zs_pt D b (.inr (3, vs)) H) (fun q => q = a ∨ q = ha) (fun v H H1 => v = none ∧ H1.size = H.size ∧ (n = 4 → H1 = H) ∧ (n < 4 → zs_pt D a (.inr (4, [.ref ha, .int (nI (n + 1))])) H1 ∧ zs_pt D ha (.inl (E 10, 4, .inr (.inr (.inr (.inr (va_up f n (some b))))))) H1)) := by
  refine zs_ct (by decide) (Nat.le_of_ble_eq_true rfl) (fun p e s m below meth c hE hr hin hp => ?_)
  refine zs_lo (lo' := [(0, .ref a), (1, .ref b)]) rfl ?_
  obtain ⟨q1, q2, q3⟩ := hp
  refine zs_aload_n hE 1 dX4_take_0 rfl rfl ?_
  refine zs_ifnullR hE dX4_take_1 ?_
  refine zs_aload_n hE 0 dX4_take_4 rfl rfl ?_
  refine zs_get hE fl_X4_17 q1 rfl dX4_take_5 ?_
  refine zs_iconst (v := (nI 4)) hE dX4_take_8 (by decide) ?_
  refine zs_icmp_geN (tgt := 32) hE (by omega) (by decide) dX4_take_9 (by decide) (fun h => ?_) (fun h => ?_)
  · exact zs_vret hE hr (⟨rfl, rfl, fun _ => rfl, fun q => absurd q (by omega)⟩) (by decide) (by decide) dX4_take_32
  · refine zs_aload_n hE 0 dX4_take_12 rfl rfl ?_
    refine zs_get hE fl_X4_11 q1 rfl dX4_take_13 ?_
    refine zs_aload_n hE 0 dX4_take_16 rfl rfl ?_
    refine zs_get hE fl_X4_17 q1 rfl dX4_take_17 ?_
    refine zs_aload_n hE 1 dX4_take_20 rfl rfl ?_
    refine zs_aast hE q2 rfl q3 rfl (Or.inl (Or.inr rfl)) (by omega) (by decide) dX4_take_21 (fun H1 hp1 hz1 ho1 => ?_)
    have q1 := zs_pt.kept q1 (ho1 _ hne.symm)
    refine zs_aload_n hE 0 dX4_take_22 rfl rfl ?_
    refine zs_dup hE dX4_take_23 rfl ?_
    refine zs_get hE fl_X4_17 q1 rfl dX4_take_24 ?_
    refine zs_iconst (v := (nI 1)) hE dX4_take_27 (by decide) ?_
    refine zs_iaddN hE dX4_take_28 ?_
    refine zs_put (v := .int (nI (n + 1))) hE fl_X4_17 q1 (Or.inl (Or.inl rfl)) (rfl) (rfl) (Nat.le_of_ble_eq_true rfl) dX4_take_29 (fun H2 hp2 hz2 ho2 => ?_)
    have hp1 := zs_pt.kept hp1 (ho2 _ hne)
    have hp2 : zs_pt D a (.inr (4, [.ref ha, .int (nI (n + 1))])) H2 := hp2
    exact zs_vret hE hr (⟨rfl, hz2.trans hz1, fun q => absurd q (by omega), fun _ => ⟨hp2, hp1⟩⟩) (by decide) (by decide) dX4_take_32

set_option maxHeartbeats 4000000 in
set_option maxRecDepth 100000 in
theorem m_X4_hasLike (D : va_G) (E : Nat → ClassId) (B : Nat) (l : Launch) (κ : Nat → Nat) (a ha b : Nat) (f : Nat → Option Nat) (rs : sp_Sh) (r : sp_R) : zs_Ct D E B l yX4_hasLike cX4_hasLike 4 (some .boolean) ({ frames := 1, cells := 0, slots := 0, locals := 22 } : Room) [.ref a, .ref b] (fun H => cs_s0 D E κ H a ha f rs ∧ cs_row D E κ H b r) (zs_N) (zs_ro (.int (zs_b (sp_has rs r)))) := by
  refine zs_ct (by decide) (Nat.le_of_ble_eq_true rfl) (fun p e s m below meth c hE hr hin hp => ?_)
  refine zs_lo (lo' := [(0, .ref a), (1, .ref b)]) rfl ?_
  obtain ⟨hs, rb⟩ := hp
  obtain ⟨x0, x1, x2, x3⟩ := hs
  refine zs_iconst (v := (nI 0)) hE dX4_hasLike_0 (by decide) ?_
  refine zs_istore_n (lo' := [(2, .int (nI 0)), (0, .ref a), (1, .ref b)]) hE dX4_hasLike_1 rfl (by decide) rfl ?_
  refine zs_sub (lo' := [(2, .int (nI 0)), (0, .ref a), (1, .ref b)]) [0, 1, 2] rfl ?_
  refine zs_ind1 (Hs := fun (i : Nat) => s.heap) (ks := fun (i : Nat) => 0) (ns := fun (i : Nat) => 0) (los := fun (i : Nat) => [(2, .int (nI i)), (0, .ref a), (1, .ref b)]) (I := fun (i : Nat) => i ≤ rs.length ∧ ∀ j, j < i → ¬ (rs.getD j sp_d0).2 = r.2) (μ := fun (i : Nat) => rs.length - i) 0 (⟨Nat.zero_le _, fun j hj => absurd hj (Nat.not_lt_zero _)⟩) (fun i hi ih => ?_)
  try dsimp only at hi ih ⊢
  refine zs_iload_n hE 0 dX4_hasLike_2 rfl rfl ?_
  refine zs_aload_n hE 1 dX4_hasLike_3 rfl rfl ?_
  refine zs_get hE fl_X4_17 x1 rfl dX4_hasLike_4 ?_
  refine zs_icmp_geN (tgt := 36) hE (by omega) (by omega) dX4_hasLike_7 (by decide) (fun h => ?_) (fun h => ?_)
  · refine zs_iconst (v := (nI 0)) hE dX4_hasLike_36 (by decide) ?_
    refine zs_top (v' := .int (zs_b (sp_has rs r))) (by rw [zs_b0 (fun ⟨j, h1, h2⟩ => hi.2 j (by omega) h2)]; rfl) ?_
    exact zs_zret hE hr (zs_bnar _) (⟨rfl, rfl⟩) (by decide) (by decide) dX4_hasLike_37
  · refine zs_aload_n hE 1 dX4_hasLike_10 rfl rfl ?_
    refine zs_iload_n hE 0 dX4_hasLike_11 rfl rfl ?_
    refine zs_callVR (av := [.int (nI i)]) (st := []) (b := a) hE (m_X4_rowAt D E B l a ha rs.length f (nI i) x0) rfl rfl sV_X4_21 x1 rfl rfl (⟨x1, x2⟩) ⟨by decide, by decide⟩ ⟨by decide, by decide⟩ (Nat.le_of_ble_eq_true rfl) dX4_hasLike_12 ?_
    obtain ⟨b2, b2e, b2r⟩ := x3 i (by omega)
    refine zs_top (v' := .ref b2) (sp_at_in (by omega) (by omega) b2e) ?_
    obtain ⟨-, -, b2n, -, b2p, -⟩ := id b2r
    refine zs_astore_n (lo' := [(3, .ref b2), (2, .int (nI i)), (0, .ref a), (1, .ref b)]) hE dX4_hasLike_15 rfl (by decide) rfl ?_
    refine zs_aload_n hE 0 dX4_hasLike_16 rfl rfl ?_
    refine zs_ifnullR hE dX4_hasLike_17 ?_
    refine zs_aload_n hE 0 dX4_hasLike_20 rfl rfl ?_
    refine zs_aload_n hE 3 dX4_hasLike_21 rfl rfl ?_
    refine zs_callVR (av := [.ref b]) (st := []) (b := b2) hE (m_X3_isLike D E B l κ b2 b (rs.getD i sp_d0) r) rfl rfl sV_X4_33 b2p rfl rfl (⟨b2r, rb⟩) ⟨by decide, by decide⟩ ⟨by decide, by decide⟩ (Nat.le_of_ble_eq_true rfl) dX4_hasLike_22 ?_
    refine zs_if_eqB (tgt := 30) hE dX4_hasLike_25 (by decide) (fun h2 => ?_) (fun h2 => ?_)
    · refine zs_iincN (lo' := [(2, .int (nI (i + 1))), (3, .ref b2), (0, .ref a), (1, .ref b)]) hE 1 dX4_hasLike_30 rfl (by decide) rfl ?_
      refine zs_goto (tgt := 2) hE dX4_hasLike_33 (by decide) ?_
      refine zs_sub (lo' := [(2, .int (nI (i + 1))), (0, .ref a), (1, .ref b)]) [0, 2, 3] rfl ?_
      exact ih (i + 1) (⟨by omega, fun j hj => by rcases Nat.lt_or_ge j i with q | q; exact hi.2 j q; rw [show j = i by omega]; exact h2⟩) (by omega)
    · refine zs_iconst (v := (nI 1)) hE dX4_hasLike_28 (by decide) ?_
      refine zs_top (v' := .int (zs_b (sp_has rs r))) (by rw [zs_b1 ⟨i, by omega, h2⟩]; rfl) ?_
      exact zs_zret hE hr (zs_bnar _) (⟨rfl, rfl⟩) (by decide) (by decide) dX4_hasLike_29

set_option maxHeartbeats 4000000 in
set_option maxRecDepth 100000 in
theorem m_X4_isLike (D : va_G) (E : Nat → ClassId) (B : Nat) (l : Launch) (κ : Nat → Nat) (a b : Nat) (rs ts : sp_Sh) : zs_Ct D E B l yX4_isLike cX4_isLike 4 (some .boolean) ({ frames := 1, cells := 0, slots := 0, locals := 22 } : Room) [.ref a, .ref b] (fun H => cs_sh D E κ H a rs ∧ cs_sh D E κ H b ts) (zs_N) (zs_ro (.int (zs_b (sp_al rs ts)))) := by
  refine zs_ct (by decide) (Nat.le_of_ble_eq_true rfl) (fun p e s m below meth c hE hr hin hp => ?_)
  refine zs_lo (lo' := [(0, .ref a), (1, .ref b)]) rfl ?_
  obtain ⟨hs, ht⟩ := hp
  obtain ⟨xh, xf, x0, x1, x2, x3⟩ := cs_sh.s0 hs
  obtain ⟨yh, yf, y0, y1, y2, y3⟩ := cs_sh.s0 ht
  refine zs_aload_n hE 1 dX4_isLike_0 rfl rfl ?_
  refine zs_ifnullR hE dX4_isLike_1 ?_
  refine zs_aload_n hE 1 dX4_isLike_4 rfl rfl ?_
  refine zs_get hE fl_X4_17 y1 rfl dX4_isLike_5 ?_
  refine zs_aload_n hE 0 dX4_isLike_8 rfl rfl ?_
  refine zs_get hE fl_X4_17 x1 rfl dX4_isLike_9 ?_
  refine zs_icmp_eqN (tgt := 17) hE (by omega) (by omega) dX4_isLike_12 (by decide) (fun h => ?_) (fun h => ?_)
  · have hn : ts.length = rs.length := h
    refine zs_iconst (v := (nI 0)) hE dX4_isLike_17 (by decide) ?_
    refine zs_istore_n (lo' := [(2, .int (nI 0)), (0, .ref a), (1, .ref b)]) hE dX4_isLike_18 rfl (by decide) rfl ?_
    refine zs_sub (lo' := [(2, .int (nI 0)), (0, .ref a), (1, .ref b)]) [0, 1, 2] rfl ?_
    refine zs_ind1 (Hs := fun (i : Nat) => s.heap) (ks := fun (i : Nat) => 0) (ns := fun (i : Nat) => 0) (los := fun (i : Nat) => [(2, .int (nI i)), (0, .ref a), (1, .ref b)]) (I := fun (i : Nat) => i ≤ rs.length ∧ ∀ j, j < i → (rs.getD j sp_d0).2 = (ts.getD j sp_d0).2) (μ := fun (i : Nat) => rs.length - i) 0 (⟨Nat.zero_le _, fun j hj => absurd hj (Nat.not_lt_zero _)⟩) (fun i hi ih => ?_)
    try dsimp only at hi ih ⊢
    refine zs_iload_n hE 0 dX4_isLike_19 rfl rfl ?_
    refine zs_aload_n hE 1 dX4_isLike_20 rfl rfl ?_
    refine zs_get hE fl_X4_17 x1 rfl dX4_isLike_21 ?_
    refine zs_icmp_geN (tgt := 57) hE (by omega) (by omega) dX4_isLike_24 (by decide) (fun h3 => ?_) (fun h3 => ?_)
    · refine zs_iconst (v := (nI 1)) hE dX4_isLike_57 (by decide) ?_
      refine zs_top (v' := .int (zs_b (sp_al rs ts))) (by rw [zs_b1 ⟨hn.symm, fun j hj => hi.2 j (by omega)⟩]; rfl) ?_
      exact zs_zret hE hr (zs_bnar _) (⟨rfl, rfl⟩) (by decide) (by decide) dX4_isLike_58
    · refine zs_aload_n hE 1 dX4_isLike_27 rfl rfl ?_
      refine zs_iload_n hE 0 dX4_isLike_28 rfl rfl ?_
      refine zs_callVR (av := [.int (nI i)]) (st := []) (b := a) hE (m_X4_rowAt D E B l a xh rs.length xf (nI i) x0) rfl rfl sV_X4_21 x1 rfl rfl (⟨x1, x2⟩) ⟨by decide, by decide⟩ ⟨by decide, by decide⟩ (Nat.le_of_ble_eq_true rfl) dX4_isLike_29 ?_
      obtain ⟨b2, b2e, b2r⟩ := x3 i (by omega)
      refine zs_top (v' := .ref b2) (sp_at_in (by omega) (by omega) b2e) ?_
      obtain ⟨-, -, b2n, -, b2p, -⟩ := id b2r
      refine zs_astore_n (lo' := [(3, .ref b2), (2, .int (nI i)), (0, .ref a), (1, .ref b)]) hE dX4_isLike_32 rfl (by decide) rfl ?_
      refine zs_aload_n hE 0 dX4_isLike_33 rfl rfl ?_
      refine zs_ifnullR hE dX4_isLike_34 ?_
      refine zs_aload_n hE 0 dX4_isLike_37 rfl rfl ?_
      refine zs_aload_n hE 3 dX4_isLike_38 rfl rfl ?_
      refine zs_iload_n hE 1 dX4_isLike_39 rfl rfl ?_
      refine zs_callVR (av := [.int (nI i)]) (st := [.ref b2]) (b := b) hE (m_X4_rowAt D E B l b yh ts.length yf (nI i) y0) rfl rfl sV_X4_21 y1 rfl rfl (⟨y1, y2⟩) ⟨by decide, by decide⟩ ⟨by decide, by decide⟩ (Nat.le_of_ble_eq_true rfl) dX4_isLike_40 ?_
      obtain ⟨b3, b3e, b3r⟩ := y3 i (by omega)
      refine zs_top (v' := .ref b3) (sp_at_in (by omega) (by omega) b3e) ?_
      obtain ⟨-, -, b3n, -, b3p, -⟩ := id b3r
      refine zs_callVR (av := [.ref b3]) (st := []) (b := b2) hE (m_X3_isLike D E B l κ b2 b3 (rs.getD i sp_d0) (ts.getD i sp_d0)) rfl rfl sV_X4_33 b2p rfl rfl (⟨b2r, b3r⟩) ⟨by decide, by decide⟩ ⟨by decide, by decide⟩ (Nat.le_of_ble_eq_true rfl) dX4_isLike_43 ?_
      refine zs_if_neB (tgt := 51) hE dX4_isLike_46 (by decide) (fun h2 => ?_) (fun h2 => ?_)
      · refine zs_iincN (lo' := [(2, .int (nI (i + 1))), (3, .ref b2), (0, .ref a), (1, .ref b)]) hE 1 dX4_isLike_51 rfl (by decide) rfl ?_
        refine zs_goto (tgt := 19) hE dX4_isLike_54 (by decide) ?_
        refine zs_sub (lo' := [(2, .int (nI (i + 1))), (0, .ref a), (1, .ref b)]) [0, 2, 3] rfl ?_
        exact ih (i + 1) (⟨by omega, fun j hj => by rcases Nat.lt_or_ge j i with q | q; exact hi.2 j q; rw [show j = i by omega]; exact h2⟩) (by omega)
      · refine zs_iconst (v := (nI 0)) hE dX4_isLike_49 (by decide) ?_
        refine zs_top (v' := .int (zs_b (sp_al rs ts))) (by rw [zs_b0 (fun e => h2 (e.2 i (by omega)))]; rfl) ?_
        exact zs_zret hE hr (zs_bnar _) (⟨rfl, rfl⟩) (by decide) (by decide) dX4_isLike_50
  · refine zs_iconst (v := (nI 0)) hE dX4_isLike_15 (by decide) ?_
    refine zs_top (v' := .int (zs_b (sp_al rs ts))) (by rw [zs_b0 (fun e => h e.1.symm)]; rfl) ?_
    exact zs_zret hE hr (zs_bnar _) (⟨rfl, rfl⟩) (by decide) (by decide) dX4_isLike_16

set_option maxHeartbeats 4000000 in
set_option maxRecDepth 100000 in
theorem m_X4_partsBy (D : va_G) (E : Nat → ClassId) (B : Nat) (l : Launch) (κ : Nat → Nat) (a ed : Nat) (rs : sp_Sh) (hed : ed < 64) : zs_Ct D E B l yX4_partsBy cX4_partsBy 5 (some .int) ({ frames := 1, cells := 0, slots := 0, locals := 21 } : Room) [.ref a, .int (nI ed)] (fun H => cs_sh D E κ H a rs) (zs_N) (zs_ro (.int (nI (sp_sp ed rs)))) := by
  refine zs_ct (by decide) (Nat.le_of_ble_eq_true rfl) (fun p e s m below meth c hE hr hin hp => ?_)
  refine zs_lo (lo' := [(0, .ref a), (1, .int (nI ed))]) rfl ?_
  obtain ⟨xh, xf, x0, x1, x2, x3⟩ := cs_sh.s0 hp
  refine zs_iconst (v := (nI 0)) hE dX4_partsBy_0 (by decide) ?_
  refine zs_istore_n (lo' := [(2, .int (nI 0)), (0, .ref a), (1, .int (nI ed))]) hE dX4_partsBy_1 rfl (by decide) rfl ?_
  refine zs_iconst (v := (nI 0)) hE dX4_partsBy_2 (by decide) ?_
  refine zs_istore_n (lo' := [(3, .int (nI 0)), (2, .int (nI 0)), (0, .ref a), (1, .int (nI ed))]) hE dX4_partsBy_3 rfl (by decide) rfl ?_
  refine zs_sub (lo' := [(3, .int (nI 0)), (2, .int (nI 0)), (0, .ref a), (1, .int (nI ed))]) [0, 1, 2, 3] rfl ?_
  refine zs_ind1 (Hs := fun (i : Nat) => s.heap) (ks := fun (i : Nat) => 0) (ns := fun (i : Nat) => 0) (los := fun (i : Nat) => [(3, .int (nI i)), (2, .int (nI (sm (fun k => sp_rp ed (rs.getD k sp_d0)) i))), (0, .ref a), (1, .int (nI ed))]) (I := fun (i : Nat) => i ≤ rs.length) (μ := fun (i : Nat) => rs.length - i) 0 (Nat.zero_le _) (fun i hi ih => ?_)
  try dsimp only at hi ih ⊢
  refine zs_iload_n hE 0 dX4_partsBy_4 rfl rfl ?_
  refine zs_aload_n hE 2 dX4_partsBy_5 rfl rfl ?_
  refine zs_get hE fl_X4_17 x1 rfl dX4_partsBy_6 ?_
  refine zs_icmp_geN (tgt := 39) hE (by omega) (by omega) dX4_partsBy_9 (by decide) (fun h => ?_) (fun h => ?_)
  · refine zs_iload_n hE 1 dX4_partsBy_39 rfl rfl ?_
    refine zs_top (v' := .int (nI (sp_sp ed rs))) (by rw [show i = rs.length by omega]; rfl) ?_
    exact zs_iret hE hr (⟨rfl, rfl⟩) (by decide) (by decide) dX4_partsBy_40
  · refine zs_aload_n hE 2 dX4_partsBy_12 rfl rfl ?_
    refine zs_iload_n hE 0 dX4_partsBy_13 rfl rfl ?_
    refine zs_callVR (av := [.int (nI i)]) (st := []) (b := a) hE (m_X4_rowAt D E B l a xh rs.length xf (nI i) x0) rfl rfl sV_X4_21 x1 rfl rfl (⟨x1, x2⟩) ⟨by decide, by decide⟩ ⟨by decide, by decide⟩ (Nat.le_of_ble_eq_true rfl) dX4_partsBy_14 ?_
    obtain ⟨b2, b2e, b2r⟩ := x3 i (by omega)
    refine zs_top (v' := .ref b2) (sp_at_in (by omega) (by omega) b2e) ?_
    obtain ⟨-, -, b2n, -, b2p, -⟩ := id b2r
    refine zs_astore (lo' := [(4, .ref b2), (3, .int (nI i)), (2, .int (nI (sm (fun k => sp_rp ed (rs.getD k sp_d0)) i))), (0, .ref a), (1, .int (nI ed))]) hE dX4_partsBy_17 (by decide) rfl ?_
    refine zs_aload hE 0 dX4_partsBy_19 rfl ?_
    refine zs_ifnullR hE dX4_partsBy_21 ?_
    refine zs_iload_n hE 2 dX4_partsBy_24 rfl rfl ?_
    refine zs_aload hE 0 dX4_partsBy_25 rfl ?_
    refine zs_iload_n hE 4 dX4_partsBy_27 rfl rfl ?_
    refine zs_callVR (av := [.int (nI ed)]) (st := [.int (nI (sm (fun k => sp_rp ed (rs.getD k sp_d0)) i))]) (b := b2) hE (m_X3_partsBy D E B l κ b2 ed (rs.getD i sp_d0) hed) rfl rfl sV_X4_40 b2p rfl rfl (b2r) ⟨by decide, by decide⟩ ⟨by decide, by decide⟩ (Nat.le_of_ble_eq_true rfl) dX4_partsBy_28 ?_
    refine zs_iaddN hE dX4_partsBy_31 ?_
    refine zs_istore_n (lo' := [(2, .int (nI (sm (fun k => sp_rp ed (rs.getD k sp_d0)) i + (sp_rp ed (rs.getD i sp_d0))))), (4, .ref b2), (3, .int (nI i)), (0, .ref a), (1, .int (nI ed))]) hE dX4_partsBy_32 rfl (by decide) rfl ?_
    refine zs_iincN (lo' := [(3, .int (nI (i + 1))), (2, .int (nI (sm (fun k => sp_rp ed (rs.getD k sp_d0)) i + (sp_rp ed (rs.getD i sp_d0))))), (4, .ref b2), (0, .ref a), (1, .int (nI ed))]) hE 2 dX4_partsBy_33 rfl (by decide) rfl ?_
    refine zs_goto (tgt := 4) hE dX4_partsBy_36 (by decide) ?_
    refine zs_sub (lo' := [(3, .int (nI (i + 1))), (2, .int (nI (sm (fun k => sp_rp ed (rs.getD k sp_d0)) i + (sp_rp ed (rs.getD i sp_d0))))), (0, .ref a), (1, .int (nI ed))]) [0, 1, 3, 4] rfl ?_
    exact ih (i + 1) (by omega) (by omega)

set_option maxHeartbeats 4000000 in
set_option maxRecDepth 100000 in
theorem m_X4_sumOnto (D : va_G) (E : Nat → ClassId) (B : Nat) (l : Launch) (κ : Nat → Nat) (a : Nat) (x : Int64) (rs : sp_Sh) : zs_Ct D E B l yX4_sumOnto cX4_sumOnto 7 (some .long) ({ frames := 1, cells := 0, slots := 0, locals := 28 } : Room) [.ref a, .long x] (fun H => cs_sh D E κ H a rs) (zs_N) (zs_ro (.long (sp_ss rs x rs.length))) := by
  refine zs_ct (by decide) (Nat.le_of_ble_eq_true rfl) (fun p e s m below meth c hE hr hin hp => ?_)
  refine zs_lo (lo' := [(0, .ref a), (1, .long x)]) rfl ?_
  obtain ⟨xh, xf, x0, x1, x2, x3⟩ := cs_sh.s0 hp
  refine zs_lload_n hE 1 dX4_sumOnto_0 rfl rfl ?_
  refine zs_lstore_n (lo' := [(3, .long x), (0, .ref a), (1, .long x)]) hE dX4_sumOnto_1 rfl (by decide) rfl ?_
  refine zs_iconst (v := (nI 0)) hE dX4_sumOnto_2 (by decide) ?_
  refine zs_istore (lo' := [(5, .int (nI 0)), (3, .long x), (0, .ref a), (1, .long x)]) hE dX4_sumOnto_3 (by decide) rfl ?_
  refine zs_sub (lo' := [(5, .int (nI 0)), (3, .long x), (0, .ref a)]) [0, 1, 2] rfl ?_
  refine zs_ind1 (Hs := fun (i : Nat) => s.heap) (ks := fun (i : Nat) => 0) (ns := fun (i : Nat) => 0) (los := fun (i : Nat) => [(5, .int (nI i)), (3, .long (sp_ss rs x i)), (0, .ref a)]) (I := fun (i : Nat) => i ≤ rs.length) (μ := fun (i : Nat) => rs.length - i) 0 (Nat.zero_le _) (fun i hi ih => ?_)
  try dsimp only at hi ih ⊢
  refine zs_iload hE 0 dX4_sumOnto_5 rfl ?_
  refine zs_aload_n hE 2 dX4_sumOnto_7 rfl rfl ?_
  refine zs_get hE fl_X4_17 x1 rfl dX4_sumOnto_8 ?_
  refine zs_icmp_geN (tgt := 40) hE (by omega) (by omega) dX4_sumOnto_11 (by decide) (fun h => ?_) (fun h => ?_)
  · refine zs_lload_n hE 1 dX4_sumOnto_40 rfl rfl ?_
    refine zs_top (v' := .long (sp_ss rs x rs.length)) (by rw [show i = rs.length by omega]) ?_
    exact zs_lret hE hr (⟨rfl, rfl⟩) (by decide) (by decide) dX4_sumOnto_41
  · refine zs_aload_n hE 2 dX4_sumOnto_14 rfl rfl ?_
    refine zs_iload hE 0 dX4_sumOnto_15 rfl ?_
    refine zs_callVR (av := [.int (nI i)]) (st := []) (b := a) hE (m_X4_rowAt D E B l a xh rs.length xf (nI i) x0) rfl rfl sV_X4_21 x1 rfl rfl (⟨x1, x2⟩) ⟨by decide, by decide⟩ ⟨by decide, by decide⟩ (Nat.le_of_ble_eq_true rfl) dX4_sumOnto_17 ?_
    obtain ⟨b2, b2e, b2r⟩ := x3 i (by omega)
    refine zs_top (v' := .ref b2) (sp_at_in (by omega) (by omega) b2e) ?_
    obtain ⟨-, -, b2n, -, b2p, -⟩ := id b2r
    refine zs_astore (lo' := [(6, .ref b2), (5, .int (nI i)), (3, .long (sp_ss rs x i)), (0, .ref a)]) hE dX4_sumOnto_20 (by decide) rfl ?_
    refine zs_aload hE 0 dX4_sumOnto_22 rfl ?_
    refine zs_ifnullR hE dX4_sumOnto_24 ?_
    refine zs_aload hE 0 dX4_sumOnto_27 rfl ?_
    refine zs_lload_n hE 2 dX4_sumOnto_29 rfl rfl ?_
    refine zs_callVR (av := [.long (sp_ss rs x i)]) (st := []) (b := b2) hE (m_X3_sumOnto D E B l κ b2 (sp_ss rs x i) (rs.getD i sp_d0)) rfl rfl sV_X4_41 b2p rfl rfl (b2r) ⟨by decide, by decide⟩ ⟨by decide, by decide⟩ (Nat.le_of_ble_eq_true rfl) dX4_sumOnto_30 ?_
    refine zs_lstore_n (lo' := [(3, .long (sp_ss rs x (i + 1))), (6, .ref b2), (5, .int (nI i)), (0, .ref a)]) hE dX4_sumOnto_33 rfl (by decide) rfl ?_
    refine zs_iincN (lo' := [(5, .int (nI (i + 1))), (3, .long (sp_ss rs x (i + 1))), (6, .ref b2), (0, .ref a)]) hE 2 dX4_sumOnto_34 rfl (by decide) rfl ?_
    refine zs_goto (tgt := 5) hE dX4_sumOnto_37 (by decide) ?_
    refine zs_sub (lo' := [(5, .int (nI (i + 1))), (3, .long (sp_ss rs x (i + 1))), (0, .ref a)]) [0, 1, 3] rfl ?_
    exact ih (i + 1) (by omega) (by omega)

theorem sp_sp63 {rs : sp_Sh} : ∀ n, (∀ j, j < n → (rs.getD j sp_d0).1 < 6) → sm (fun k => sp_rp 63 (rs.getD k sp_d0)) n = sm (fun k => (rs.getD k sp_d0).2.length) n + n
  | 0, _ => rfl
  | n + 1, h => by
    show sm _ n + sp_rp 63 _ = sm _ n + (rs.getD n sp_d0).2.length + (n + 1)
    have h1 := h n (by omega)
    have h2 : 63 / 2 ^ (rs.getD n sp_d0).1 % 2 = 1 := by
      revert h1
      generalize (rs.getD n sp_d0).1 = e
      intro h1
      rcases (show e = 0 ∨ e = 1 ∨ e = 2 ∨ e = 3 ∨ e = 4 ∨ e = 5 by omega) with rfl | rfl | rfl | rfl | rfl | rfl <;> rfl
    rw [sp_sp63 n (fun j hj => h j (by omega)), sp_rp, if_pos h2]
    omega
set_option maxHeartbeats 4000000 in
set_option maxRecDepth 100000 in
theorem m_X4_notesInAll (D : va_G) (E : Nat → ClassId) (B : Nat) (l : Launch) (κ : Nat → Nat) (a : Nat) (rs : sp_Sh) : zs_Ct D E B l yX4_notesInAll cX4_notesInAll 1 (some .int) ({ frames := 2, cells := 0, slots := 0, locals := 45 } : Room) [.ref a] (fun H => cs_sh D E κ H a rs) (zs_N) (zs_ro (.int (nI (sp_no rs)))) := by
  refine zs_ct (by decide) (Nat.le_of_ble_eq_true rfl) (fun p e s m below meth c hE hr hin hp => ?_)
  refine zs_lo (lo' := [(0, .ref a)]) rfl ?_
  have hs := hp
  obtain ⟨xh, xf, x0, x1, x2, x3⟩ := cs_sh.s0 hp
  refine zs_aload_n hE 0 dX4_notesInAll_0 rfl rfl ?_
  refine zs_bipush (v := (nI 63)) hE dX4_notesInAll_1 (by decide) ?_
  refine zs_callVR (av := [.int (nI 63)]) (st := []) (b := a) hE (m_X4_partsBy D E B l κ a 63 rs (by decide)) rfl rfl sV_X4_36 x1 rfl rfl (hs) ⟨by decide, by decide⟩ ⟨by decide, by decide⟩ (Nat.le_of_ble_eq_true rfl) dX4_notesInAll_3 ?_
  have e63 : sp_sp 63 rs = sp_no rs + rs.length := sp_sp63 rs.length (fun j hj => by obtain ⟨b, -, q, -⟩ := x3 j hj; exact q.1)
  refine zs_aload_n hE 0 dX4_notesInAll_6 rfl rfl ?_
  refine zs_get hE fl_X4_17 x1 rfl dX4_notesInAll_7 ?_
  refine zs_isubN hE (by omega) dX4_notesInAll_10 ?_
  refine zs_top (v' := .int (nI (sp_no rs))) (by rw [e63, Nat.add_sub_cancel]) ?_
  exact zs_iret hE hr (⟨rfl, rfl⟩) (by decide) (by decide) dX4_notesInAll_11

set_option maxHeartbeats 4000000 in
set_option maxRecDepth 100000 in
theorem m_X4_takeUnlike (D : va_G) (E : Nat → ClassId) (B : Nat) (l : Launch) (κ : Nat → Nat) (H0 : Heap) (a ha g : Nat) (rs ts : sp_Sh) (hne : ha ≠ a) (h1 : H0.size ≤ a) (h2 : H0.size ≤ ha) : zs_Ct D E B l yX4_takeUnlike cX4_takeUnlike 4 none ({ frames := 2, cells := 0, slots := 0, locals := 45 } : Room) [.ref a, .ref g] (fun H => cs_mk D E κ H0 H a ha rs ∧ cs_sh D E κ H0 g ts ∧ H0.size ≤ H.size ∧ ∀ q, q < H0.size → H[q]? = H0[q]?) (fun q => q = a ∨ q = ha) (fun v H H1 => v = none ∧ H1.size = H.size ∧ cs_mk D E κ H0 H1 a ha (sp_jn rs ts ts.length)) := by
  refine zs_ct (by decide) (Nat.le_of_ble_eq_true rfl) (fun p e s m below meth c hE hr hin hp => ?_)
  refine zs_lo (lo' := [(0, .ref a), (1, .ref g)]) rfl ?_
  obtain ⟨hmk, hc, hz, ho⟩ := hp
  have hl4 : rs.length ≤ 4 := hmk.1
  obtain ⟨yh, yf, y0, y1, y2, y3⟩ := cs_sh.s0 hc
  refine zs_iconst (v := (nI 0)) hE dX4_takeUnlike_0 (by decide) ?_
  refine zs_istore_n (lo' := [(2, .int (nI 0)), (0, .ref a), (1, .ref g)]) hE dX4_takeUnlike_1 rfl (by decide) rfl ?_
  refine zs_sub (lo' := [(2, .int (nI 0)), (0, .ref a), (1, .ref g)]) [0, 1, 2] rfl ?_
  refine zs_ind2 (Hs := fun (i : Nat) (K : Heap) => K) (ks := fun (i : Nat) (K : Heap) => 0) (ns := fun (i : Nat) (K : Heap) => 0) (los := fun (i : Nat) (K : Heap) => [(2, .int (nI i)), (0, .ref a), (1, .ref g)]) (I := fun (i : Nat) (K : Heap) => i ≤ ts.length ∧ cs_mk D E κ H0 K a ha (sp_jn rs ts i) ∧ K.size = s.heap.size ∧ ∀ q, q < H0.size → K[q]? = H0[q]?) (μ := fun (i : Nat) (K : Heap) => ts.length - i) 0 s.heap (⟨Nat.zero_le _, hmk, rfl, ho⟩) (fun i K hi ih => ?_)
  try dsimp only at hi ih ⊢
  have hmk := hi.2.1
  have hoK : ∀ q, q < H0.size → K[q]? = H0[q]? := hi.2.2.2
  have hzK : K.size = s.heap.size := hi.2.2.1
  have y1 := y1.kept (hoK _ y1.lt)
  have y2 := y2.kept (hoK _ y2.lt)
  refine zs_iload_n hE 0 dX4_takeUnlike_2 rfl rfl ?_
  refine zs_aload_n hE 2 dX4_takeUnlike_3 rfl rfl ?_
  refine zs_get hE fl_X4_17 y1 rfl dX4_takeUnlike_4 ?_
  refine zs_icmp_geN (tgt := 35) hE (by omega) (by omega) dX4_takeUnlike_7 (by decide) (fun h3 => ?_) (fun h3 => ?_)
  · exact zs_vret hE hr (⟨rfl, hzK, by rw [show ts.length = i by omega]; exact hmk⟩) (by decide) (by decide) dX4_takeUnlike_35
  · refine zs_aload_n hE 2 dX4_takeUnlike_10 rfl rfl ?_
    refine zs_iload_n hE 0 dX4_takeUnlike_11 rfl rfl ?_
    refine zs_callVR (av := [.int (nI i)]) (st := []) (b := g) hE (m_X4_rowAt D E B l g yh ts.length yf (nI i) y0) rfl rfl sV_X4_21 y1 rfl rfl (⟨y1, y2⟩) ⟨by decide, by decide⟩ ⟨by decide, by decide⟩ (Nat.le_of_ble_eq_true rfl) dX4_takeUnlike_12 ?_
    obtain ⟨b2, b2e, b2r⟩ := y3 i (by omega)
    refine zs_top (v' := .ref b2) (sp_at_in (by omega) (by omega) b2e) ?_
    obtain ⟨-, -, b2n, -, b2p, -⟩ := id b2r
    have b2r1 := b2r.kept (H1 := K) (fun q z _ => hoK q z)
    have b2p := b2p.kept (hoK _ b2p.lt)
    obtain ⟨k0, k1, f, k2, k3⟩ := id hmk
    have hs0 : cs_s0 D E κ K a ha f (sp_jn rs ts i) := ⟨k0, k1, k2, fun j hj => (k3 j hj).imp fun b z => ⟨z.1, z.2.kept (fun q z _ => hoK q z)⟩⟩
    refine zs_astore_n (lo' := [(3, .ref b2), (2, .int (nI i)), (0, .ref a), (1, .ref g)]) hE dX4_takeUnlike_15 rfl (by decide) rfl ?_
    refine zs_aload_n hE 2 dX4_takeUnlike_16 rfl rfl ?_
    refine zs_aload_n hE 0 dX4_takeUnlike_17 rfl rfl ?_
    refine zs_callVR (av := [.ref b2]) (st := []) (b := a) hE (m_X4_hasLike D E B l κ a ha b2 f (sp_jn rs ts i) (ts.getD i sp_d0)) rfl rfl sV_X4_25 k1 rfl rfl (⟨hs0, b2r1⟩) ⟨by decide, by decide⟩ ⟨by decide, by decide⟩ (Nat.le_of_ble_eq_true rfl) dX4_takeUnlike_18 ?_
    refine zs_if_neB (tgt := 29) hE dX4_takeUnlike_21 (by decide) (fun h4 => ?_) (fun h4 => ?_)
    · refine zs_iincN (lo' := [(2, .int (nI (i + 1))), (3, .ref b2), (0, .ref a), (1, .ref g)]) hE 1 dX4_takeUnlike_29 rfl (by decide) rfl ?_
      refine zs_goto (tgt := 2) hE dX4_takeUnlike_32 (by decide) ?_
      refine zs_sub (lo' := [(2, .int (nI (i + 1))), (0, .ref a), (1, .ref g)]) [0, 2, 3] rfl ?_
      exact ih (i + 1) K (⟨by omega, by rw [show sp_jn rs ts (i + 1) = sp_jn rs ts i from pI_t (Or.inl h4)]; exact hmk, hzK, hoK⟩) (by omega)
    · refine zs_aload_n hE 2 dX4_takeUnlike_24 rfl rfl ?_
      refine zs_aload_n hE 0 dX4_takeUnlike_25 rfl rfl ?_
      refine zs_callV (av := [.ref b2]) (st := []) hE (m_X4_take D E B l a ha (sp_jn rs ts i).length b2 f _ k0 hne) sV_X4_29 k1 rfl rfl (⟨k1, k2, b2p⟩) ⟨by decide, by decide⟩ ⟨by decide, by decide⟩ (fun q h => Or.inl h) (Nat.le_of_ble_eq_true rfl) dX4_takeUnlike_26 (fun v1 H1 hv1 hz1 hk1 => ?_)
      obtain ⟨rfl, cz, c4, c5⟩ := hv1
      refine zs_widen (k' := 0) (n' := 0) (by decide) (by decide) ?_
      have hoo : ∀ q, q < H0.size → H1[q]? = H0[q]? := fun q z => (hk1 q (by omega) (fun w => by rcases w with w | w <;> omega)).trans (hoK q z)
      refine zs_iincN (lo' := [(2, .int (nI (i + 1))), (3, .ref b2), (0, .ref a), (1, .ref g)]) hE 1 dX4_takeUnlike_29 rfl (by decide) rfl ?_
      refine zs_goto (tgt := 2) hE dX4_takeUnlike_32 (by decide) ?_
      refine zs_sub (lo' := [(2, .int (nI (i + 1))), (0, .ref a), (1, .ref g)]) [0, 2, 3] rfl ?_
      exact ih (i + 1) H1 (⟨by omega, by
              rcases Nat.lt_or_ge (sp_jn rs ts i).length 4 with q | q
              · obtain ⟨d1, d2⟩ := c5 q
                rw [show sp_jn rs ts (i + 1) = sp_jn rs ts i ++ [ts.getD i sp_d0] from pI_f (fun z => z.elim h4 (fun z => by omega))]
                refine ⟨by rw [List.length_append]; exact q, by rw [List.length_append]; exact d1, _, d2, fun j hj => ?_⟩
                rw [List.length_append] at hj
                have hj : j < (sp_jn rs ts i).length + 1 := hj
                rcases Nat.lt_or_ge j (sp_jn rs ts i).length with z | z
                · obtain ⟨b, e1, e2⟩ := k3 j z
                  exact ⟨b, by rw [va_up, if_neg (by omega)]; exact e1, by rw [gd_app z]; exact e2⟩
                · rw [show j = (sp_jn rs ts i).length by omega, gd_app2]
                  exact ⟨b2, by rw [va_up, if_pos rfl], b2r⟩
              · have e := c4 (by omega)
                rw [show sp_jn rs ts (i + 1) = sp_jn rs ts i from pI_t (Or.inr q)]
                rw [e]; exact hmk, cz.trans hzK, hoo⟩) (by omega)


/-! a further version; marks asked again -/
theorem cs_ver.kk {D : va_G} {E : Nat → ClassId} {κ κ' : Nat → Nat} {H H1 : Heap} {a num pn am : Nat} {wf : Int32} {sl : Nat → Option sp_Sh} (h : cs_ver D E κ H a num pn am wf sl) (hk : ∀ q, q < H.size → κ q = 0 → H1[q]? = H[q]?) (hκ : ∀ q, q < H.size → κ q = 0 → κ' q = 0) : cs_ver D E κ' H1 a num pn am wf sl := by
  have hc : cs_ver D E κ' H a num pn am wf sl := by
    obtain ⟨g0, g1, g2, g3, gh, gf, g4, ⟨g5, g6⟩, g7⟩ := h
    exact ⟨hκ _ g5.lt g0, g1, g2, g3, gh, gf, hκ _ g6.lt g4, ⟨g5, g6⟩, g7.kap hκ⟩
  have hm : cs_ver D E κ H1 a num pn am wf sl := h.kept hk
  obtain ⟨g0, g1, g2, g3, gh, gf, g4, ⟨g5, g6⟩, g7⟩ := h
  refine ⟨hκ _ g5.lt g0, g1, g2, g3, gh, gf, hκ _ g6.lt g4, ⟨g5.kept (hk _ g5.lt g0), g6.kept (hk _ g6.lt g4)⟩, fun j hj => ?_⟩
  obtain ⟨o1, o2⟩ := g7 j hj
  refine ⟨o1, fun rs e => (o2 rs e).imp fun b z => ⟨z.1, ?_⟩⟩
  obtain ⟨s0, s1, n, f, s2, s3, s4, s5⟩ := z.2
  refine ⟨s0, hκ _ s3.lt s1, n, f, hκ _ s4.lt s2, s3.kept (hk _ s3.lt s1), s4.kept (hk _ s4.lt s2), fun i hi => (s5 i hi).imp fun b2 z2 => ⟨z2.1, ?_⟩⟩
  obtain ⟨r0, r1, n2, r2, r3, r4⟩ := z2.2
  exact ⟨r0, hκ _ r3.lt r1, n2, hκ _ r4.lt r2, r3.kept (hk _ r3.lt r1), r4.kept (hk _ r4.lt r2)⟩
theorem cs_V.add {D : va_G} {E : Nat → ClassId} {κ κ' : Nat → Nat} {H H1 : Heap} {lv : Nat → Option Nat} {S S' : sp_S} (h : cs_V D E κ H lv S) (hk : ∀ q, q < H.size → κ q = 0 → H1[q]? = H[q]?) (hκ : ∀ q, q < H.size → κ q = 0 → κ' q = 0) (hn : sp_nv S' = sp_nv S + 1)
    (ho : ∀ w, w < sp_nv S → sp_vp S' w = sp_vp S w ∧ sp_am S' w = sp_am S w ∧ sp_wfr S' w = sp_wfr S w ∧ sp_sl S' w = sp_sl S w) {a : Nat} (hnew : cs_ver D E κ' H1 a (sp_nv S) (sp_vp S' (sp_nv S)) (sp_am S' (sp_nv S)) (sp_wfr S' (sp_nv S)) (sp_sl S' (sp_nv S))) : cs_V D E κ' H1 (va_up lv (sp_nv S) (some a)) S' := by
  intro w hw
  rw [hn] at hw
  by_cases e : w = sp_nv S
  · subst e; exact ⟨a, va_up_self _ _ _, hnew⟩
  · obtain ⟨b, h1, h2⟩ := h w (by omega)
    obtain ⟨e1, e2, e3, e4⟩ := ho w (by omega)
    rw [e1, e2, e3, e4]
    exact ⟨b, by rw [va_up_ne _ _ e]; exact h1, h2.kk hk hκ⟩
theorem sl_eq {S S' : sp_S} {w : Nat} (h1 : sp_vp S' w = sp_vp S w) (h2 : sp_ba S' (sp_vp S w) = sp_ba S (sp_vp S w)) (h3 : sp_pa S' (sp_vp S w) = sp_pa S (sp_vp S w)) (h4 : sp_sv S' w = sp_sv S w) : sp_sl S' w = sp_sl S w := by
  funext j
  unfold sp_sl
  rw [h1, h2, h3, h4]
theorem idx_inj {n b p b' p' : Nat} (h : p < n) (h' : p' < n) (e : n * b + p = n * b' + p') : b = b' ∧ p = p' := by
  have q1 : (n * b + p) / n = b := by rw [Nat.mul_add_div (by omega), Nat.div_eq_of_lt h]; rfl
  have q2 : (n * b' + p') / n = b' := by rw [Nat.mul_add_div (by omega), Nat.div_eq_of_lt h']; rfl
  rw [e, q2] at q1
  subst q1
  exact ⟨rfl, by omega⟩
theorem cs_G.cg {D : va_G} {E : Nat → ClassId} {κ : Nat → Nat} {H : Heap} {lh : Nat → Option Nat} {S S' : sp_S} (h : cs_G D E κ H lh S) (hn : sp_np S' = sp_np S) (ho : ∀ j q, sp_hv S' j q = sp_hv S j q ∧ sp_mk S' j q = sp_mk S j q ∧ sp_ct S' j q = sp_ct S j q) : cs_G D E κ H lh S' := by
  refine ⟨fun k k1 k2 => h.1 k (by omega) k2, fun k k4 => ?_⟩
  obtain ⟨a, t, g, h1, h2⟩ := h.2 k (by omega)
  obtain ⟨w1, w2, w3⟩ := ho (k / 4) (k % 4)
  exact ⟨a, t, g, h1, by rw [w1, w2, w3]; exact h2⟩

set_option maxHeartbeats 4000000 in
set_option maxRecDepth 100000 in
theorem m_X6_keep (D : va_G) (E : Nat → ClassId) (B : Nat) (l : Launch) (x a2 b n : Nat) (f : Nat → Option Nat) (vs : List Value) (v0 v1 v4 v5 v6 v7 v8 : Value) (hn : n < 40) (hxa : x ≠ a2) : zs_Ct D E B l yX6_keep cX6_keep 2 none ({ frames := 0, cells := 0, slots := 0, locals := 0 } : Room) [.ref x, .ref b] (fun H => zs_pt D x (.inr (6, [v0, v1, .ref a2, .int (nI n), v4, v5, v6, v7, v8])) H ∧ zs_pt D a2 (.inl (E 6, 40, .inr (.inr (.inr (.inr f))))) H ∧ zs_pt D b (.inr (5, vs)) H) (fun q => q = x ∨ q = a2) (fun v H H1 => v = none ∧ H1.size = H.size ∧ zs_pt D x (.inr (6, [v0, v1, .ref a2, .int (nI (n + 1)), v4, v5, v6, v7, v8])) H1 ∧ zs_pt D a2 (.inl (E 6, 40, .inr (.inr (.inr (.inr (va_up f n (some b))))))) H1) := by
  refine zs_ct (by decide) (Nat.le_of_ble_eq_true rfl) (fun p e s m below meth c hE hr hin hp => ?_)
  refine zs_lo (lo' := [(0, .ref x), (1, .ref b)]) rfl ?_
  obtain ⟨q1, q2, q3⟩ := hp
  refine zs_aload_n hE 0 dX6_keep_0 rfl rfl ?_
  refine zs_get hE fl_X6_48 q1 rfl dX6_keep_1 ?_
  refine zs_bipush (v := (nI 40)) hE dX6_keep_4 (by decide) ?_
  refine zs_icmp_geN (tgt := 29) hE (by omega) (by decide) dX6_keep_6 (by decide) (fun h1 => ?_) (fun h1 => ?_)
  · exact absurd h1 (by omega)
  · refine zs_aload_n hE 0 dX6_keep_9 rfl rfl ?_
    refine zs_get hE fl_X6_17 q1 rfl dX6_keep_10 ?_
    refine zs_aload_n hE 0 dX6_keep_13 rfl rfl ?_
    refine zs_get hE fl_X6_48 q1 rfl dX6_keep_14 ?_
    refine zs_aload_n hE 1 dX6_keep_17 rfl rfl ?_
    refine zs_aast hE q2 rfl q3 rfl (Or.inl (Or.inr rfl)) (by omega) (by decide) dX6_keep_18 (fun H1 hp1 hz1 ho1 => ?_)
    have q1 := zs_pt.kept q1 (ho1 _ hxa)
    refine zs_aload_n hE 0 dX6_keep_19 rfl rfl ?_
    refine zs_dup hE dX6_keep_20 rfl ?_
    refine zs_get hE fl_X6_48 q1 rfl dX6_keep_21 ?_
    refine zs_iconst (v := (nI 1)) hE dX6_keep_24 (by decide) ?_
    refine zs_iaddN hE dX6_keep_25 ?_
    refine zs_put (v := .int (nI (n + 1))) hE fl_X6_48 q1 (Or.inl (Or.inl rfl)) (rfl) (rfl) (Nat.le_of_ble_eq_true rfl) dX6_keep_26 (fun H2 hp2 hz2 ho2 => ?_)
    have hp1 := zs_pt.kept hp1 (ho2 _ hxa.symm)
    have hp2 : zs_pt D x (.inr (6, [v0, v1, .ref a2, .int (nI (n + 1)), v4, v5, v6, v7, v8])) H2 := hp2
    exact zs_vret hE hr (⟨rfl, by omega, hp2, hp1⟩) (by decide) (by decide) dX6_keep_29

set_option maxHeartbeats 4000000 in
set_option maxRecDepth 100000 in
theorem m_X6_askAgain (D : va_G) (E : Nat → ClassId) (B : Nat) (l : Launch) (κ : Nat → Nat) (S : sp_S) (x a3 b1 b2 mm v : Nat) (lh : Nat → Option Nat) (v0 v2 v3 v5 v6 v7 v8 : Value) (n6 : sp_np S ≤ 6) (hvp : sp_vp S v < sp_np S) (hvv : sp_vp S mm = sp_vp S v) (hv40 : v < 40) (hvb : ∀ i r, sp_hv S i r ≤ 40) : zs_Ct D E B l yX6_askAgain cX6_askAgain 5 none ({ frames := 4, cells := 0, slots := 0, locals := 89 } : Room) [.ref x, .ref b1, .ref b2] (fun H => zs_pt D x (.inr (6, [v0, .int (nI (sp_np S)), v2, v3, .ref a3, v5, v6, v7, v8])) H ∧ zs_pt D a3 (.inl (E 7, 24, .inr (.inr (.inr (.inr lh))))) H ∧ κ x = 1 ∧ κ a3 = 4 ∧ cs_G D E κ H lh S ∧ cs_ver D E κ H b1 mm (sp_vp S mm) (sp_am S mm) (sp_wfr S mm) (sp_sl S mm) ∧ cs_ver D E κ H b2 v (sp_vp S v) (sp_am S v) (sp_wfr S v) (sp_sl S v)) (fun q => 400 ≤ κ q ∧ κ q < 500) (fun u H H1 => u = none ∧ H1.size = H.size ∧ cs_G D E κ H1 lh (s_ask S mm v)) := by
  refine zs_ct (by decide) (Nat.le_of_ble_eq_true rfl) (fun p e s m below meth c hE hr hin hp => ?_)
  refine zs_lo (lo' := [(0, .ref x), (1, .ref b1), (2, .ref b2)]) rfl ?_
  obtain ⟨hx, r3, t0, t3, hG, h1v, h2v⟩ := hp
  obtain ⟨y0, y1, y2, y3, yh, yf, y4, ⟨y5, y6⟩, y7⟩ := id h1v
  obtain ⟨z0, z1, z2, z3, zh, zf, z4, ⟨z5, z6⟩, z7⟩ := id h2v
  refine zs_aload_n hE 1 dX6_askAgain_0 rfl rfl ?_
  refine zs_aload_n hE 2 dX6_askAgain_1 rfl rfl ?_
  refine zs_callVR (av := [.ref b2]) (st := []) (b := b1) hE (m_X5_sheavesUnlike D E B l κ b1 b2 mm (sp_vp S mm) (sp_am S mm) v (sp_vp S v) (sp_am S v) (sp_wfr S mm) (sp_wfr S v) (sp_sl S mm) (sp_sl S v) (fun j _ => sl_none hvv j)) rfl rfl sV_X6_204 y5 rfl rfl (⟨h1v, h2v⟩) ⟨by decide, by decide⟩ ⟨by decide, by decide⟩ (Nat.le_of_ble_eq_true rfl) dX6_askAgain_2 ?_
  have unb : sp_un (sp_sl S mm) (sp_sl S v) 32 ≤ 1 * 32 := sm_le (fun j _ => by by_cases w : sp_oal (sp_sl S mm j) (sp_sl S v j); rw [pI_t w]; decide; rw [pI_f w]; decide)
  refine zs_if_neN (tgt := 9) hE (by omega) dX6_askAgain_5 (by decide) (fun h1 => ?_) (fun h1 => ?_)
  · refine zs_iconst (v := (nI 0)) hE dX6_askAgain_9 (by decide) ?_
    refine zs_istore_n (lo' := [(3, .int (nI 0)), (0, .ref x), (1, .ref b1), (2, .ref b2)]) hE dX6_askAgain_10 rfl (by decide) rfl ?_
    have z5s := z5
    refine zs_sub (lo' := [(3, .int (nI 0)), (0, .ref x), (2, .ref b2)]) [0, 1, 3] rfl ?_
    refine zs_ind2 (Hs := fun (r : Nat) (K : Heap) => K) (ks := fun (r : Nat) (K : Heap) => 0) (ns := fun (r : Nat) (K : Heap) => 0) (los := fun (r : Nat) (K : Heap) => [(3, .int (nI r)), (0, .ref x), (2, .ref b2)]) (I := fun (r : Nat) (K : Heap) => r ≤ 4 ∧ K.size = s.heap.size ∧ (∀ q, q < s.heap.size → ¬ (400 ≤ κ q ∧ κ q < 500) → K[q]? = s.heap[q]?) ∧ cs_G D E κ K lh (s_ask1 S v r)) (μ := fun (r : Nat) (K : Heap) => 4 - r) 0 s.heap (⟨Nat.zero_le _, rfl, fun _ _ _ => rfl, hG.cg rfl (fun j q => ⟨rfl, rfl, funext fun k => if_neg (fun w => absurd w.2.1 (Nat.not_lt_zero _))⟩)⟩) (fun r K hi ih => ?_)
    try dsimp only at hi ih ⊢
    obtain ⟨r4, kz, ko, kG⟩ := hi
    have hx := hx.kept (ko _ hx.lt (by omega))
    have r3 := r3.kept (ko _ r3.lt (by omega))
    have z5 := z5s.kept (ko _ z5s.lt (by omega))
    refine zs_iload_n hE 0 dX6_askAgain_11 rfl rfl ?_
    refine zs_iconst (v := (nI 4)) hE dX6_askAgain_12 (by decide) ?_
    refine zs_icmp_geN (tgt := 59) hE (by omega) (by decide) dX6_askAgain_13 (by decide) (fun h7 => ?_) (fun h => ?_)
    · obtain rfl : r = 4 := by omega
      exact zs_vret hE hr (⟨rfl, kz, by rw [s_ask, pI_f (by omega)]; exact kG⟩) (by decide) (by decide) dX6_askAgain_59
    · refine zs_aload_n hE 1 dX6_askAgain_16 rfl rfl ?_
      refine zs_iload_n hE 0 dX6_askAgain_17 rfl rfl ?_
      refine zs_aload_n hE 2 dX6_askAgain_18 rfl rfl ?_
      refine zs_get hE fl_X6_88 z5 rfl dX6_askAgain_19 ?_
      obtain ⟨ha, ht, hg, hl, hh⟩ := kG.at (i := sp_vp S v) (r := r) hvp h
      obtain ⟨t6, t7, t8, hb, hc, hd⟩ := id hh
      have hb : zs_pt D ha (.inr (0, [.int (nI (sp_hv S (sp_vp S v) r) - 1), .ref ht, .ref hg])) K := hb
      refine zs_callVR (av := [.int (nI r), .int (nI (sp_vp S v))]) (st := []) (b := x) hE (m_X6_hearingAt D E B l x a3 (sp_np S) lh (nI r) (nI (sp_vp S v)) v0 v2 v3 v5 v6 v7 v8 n6) rfl rfl sV_X6_208 hx rfl rfl (⟨hx, r3⟩) ⟨by decide, by decide⟩ ⟨by decide, by decide⟩ (Nat.le_of_ble_eq_true rfl) dX6_askAgain_22 ?_
      refine zs_top (v' := .ref ha) (by rw [ath_in (S := S) hvp h n6, hl]; rfl) ?_
      refine zs_astore (lo' := [(4, .ref ha), (3, .int (nI r)), (0, .ref x), (2, .ref b2)]) hE dX6_askAgain_25 (by decide) rfl ?_
      refine zs_aload hE 0 dX6_askAgain_27 rfl ?_
      refine zs_ifnullR hE dX6_askAgain_29 ?_
      have hvbr := hvb (sp_vp S v) r
      refine zs_aload hE 0 dX6_askAgain_32 rfl ?_
      refine zs_get hE fl_X6_214 hb rfl dX6_askAgain_34 ?_
      refine zs_aload_n hE 3 dX6_askAgain_37 rfl rfl ?_
      refine zs_get hE fl_X6_116 z5 rfl dX6_askAgain_38 ?_
      refine zs_icmp_ne (tgt := 53) hE dX6_askAgain_41 (by decide) (fun h5 => ?_) (fun h5 => ?_)
      · have e1 : ¬ sp_hv S (sp_vp S v) r = v + 1 := fun w => h5 ((hv_eq (by omega) (by omega)).mpr w)
        refine zs_iincN (lo' := [(3, .int (nI (r + 1))), (4, .ref ha), (0, .ref x), (2, .ref b2)]) hE 1 dX6_askAgain_53 rfl (by decide) rfl ?_
        refine zs_goto (tgt := 11) hE dX6_askAgain_56 (by decide) ?_
        refine zs_sub (lo' := [(3, .int (nI (r + 1))), (0, .ref x), (2, .ref b2)]) [0, 2, 3] rfl ?_
        exact ih (r + 1) K (⟨by omega, kz, ko, kG.cg rfl (fun j q => ⟨rfl, rfl, funext fun k => ifc (show j = sp_vp S v ∧ q < r + 1 ∧ sp_hv S j q = v + 1 ↔ j = sp_vp S v ∧ q < r ∧ sp_hv S j q = v + 1 from ⟨fun ⟨w1, w2, w3⟩ => ⟨w1, by rcases Nat.lt_or_ge q r with z | z; exact z; exact absurd (by rw [← show q = r by omega, ← w1]; exact w3) e1, w3⟩, fun ⟨w1, w2, w3⟩ => ⟨w1, by omega, w3⟩⟩)⟩)⟩) (by omega)
      · have e1 : sp_hv S (sp_vp S v) r = v + 1 := (hv_eq (by omega) (by omega)).mp h5
        refine zs_aload hE 0 dX6_askAgain_44 rfl ?_
        refine zs_get hE fl_X6_233 hb rfl dX6_askAgain_46 ?_
        refine zs_iconst (v := (-1)) hE dX6_askAgain_49 (by decide) ?_
        refine zs_callS (av := [.ref hg, .int (-1)]) (st := []) hE (m_J7_fill_53178 D E B l hg 5 _ (-1) (by decide)) sS_X6_317 (hd) ⟨by decide, by decide⟩ ⟨by decide, by decide⟩ (fun q w => Or.inl (by subst w; exact ⟨by omega, by omega⟩)) (Nat.le_of_ble_eq_true rfl) dX6_askAgain_50 (fun v1 H1 hv1 hz1 hk1 => ?_)
        obtain ⟨rfl, cz, c1⟩ := hv1
        refine zs_widen (k' := 0) (n' := 0) (by decide) (by decide) ?_
        refine zs_iincN (lo' := [(3, .int (nI (r + 1))), (4, .ref ha), (0, .ref x), (2, .ref b2)]) hE 1 dX6_askAgain_53 rfl (by decide) rfl ?_
        refine zs_goto (tgt := 11) hE dX6_askAgain_56 (by decide) ?_
        refine zs_sub (lo' := [(3, .int (nI (r + 1))), (0, .ref x), (2, .ref b2)]) [0, 2, 3] rfl ?_
        exact ih (r + 1) H1 (⟨by omega, by omega, fun q w1 w2 => (hk1 q (by omega) (fun w => w2 (by subst w; exact ⟨by omega, by omega⟩))).trans (ko q w1 w2), cs_G.up (S := s_ask1 S v r) (S' := s_ask1 S v (r + 1)) kG rfl n6 hvp h (fun j q w => ⟨rfl, rfl, funext fun k => ifc (show j = sp_vp S v ∧ q < r + 1 ∧ sp_hv S j q = v + 1 ↔ j = sp_vp S v ∧ q < r ∧ sp_hv S j q = v + 1 from ⟨fun ⟨w1, w2, w3⟩ => ⟨w1, by omega, w3⟩, fun ⟨w1, w2, w3⟩ => ⟨w1, by omega, w3⟩⟩)⟩) (fun q z w1 w2 _ _ w5 => hk1 q z (fun w => w5 (w ▸ t8))) hl ⟨t6, t7, t8, hb.kept (hk1 _ hb.lt (cs_ne t6 t8 (by omega))), hc.kept (hk1 _ hc.lt (cs_ne t7 t8 (by omega))), c1.congA (fun k _ => by rw [show sp_ct (s_ask1 S v (r + 1)) (sp_vp S v) r k = 0 from if_pos ⟨rfl, by omega, e1⟩]; rfl)⟩⟩) (by omega)
  · exact zs_vret hE hr (⟨rfl, rfl, by rw [s_ask, pI_t (by omega)]; exact hG⟩) (by decide) (by decide) dX6_askAgain_8


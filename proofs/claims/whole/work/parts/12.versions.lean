/-! versions -/
theorem vb1 {P : Prop} (h : P) : Value.int (nI 1) = .int (zs_b P) := by rw [zs_b1 h]; rfl
theorem vb0 {P : Prop} (h : ¬ P) : Value.int (nI 0) = .int (zs_b P) := by rw [zs_b0 h]; rfl
theorem lN_shr {n : Nat} (h : n < 2 ^ 63) (x : Int64) (k : Nat) (hs : (x.toBitVec.smod 64).toNat = k) : lN n >>> x = lN (n / 2 ^ k) := by
  apply Int64.toInt_inj.mp
  have h2 : n / 2 ^ k ≤ n := Nat.div_le_self _ _
  have e : (lN n >>> x).toInt = (lN n).toInt >>> k := by
    show ((lN n).toBitVec.sshiftRight (x.toBitVec.smod 64).toNat).toInt = _
    rw [hs, BitVec.toInt_sshiftRight]
    rfl
  rw [e, pk_lT h, pk_lT (by omega), Int.shiftRight_eq_div_pow]
  rfl
theorem lN_and (a b : Nat) : lN a &&& lN b = lN (a &&& b) := by
  apply Int64.toBitVec_inj.mp
  show BitVec.ofNat 64 a &&& BitVec.ofNat 64 b = BitVec.ofNat 64 (a &&& b)
  rw [BitVec.ofNat_and]
theorem lN_or (a b : Nat) : lN a ||| lN b = lN (a ||| b) := by
  apply Int64.toBitVec_inj.mp
  show BitVec.ofNat 64 a ||| BitVec.ofNat 64 b = BitVec.ofNat 64 (a ||| b)
  rw [BitVec.ofNat_or]
theorem lN_one (m : Nat) : lN m &&& 1 = lN (m % 2) := by
  rw [show (1 : Int64) = lN 1 from rfl, lN_and, Nat.and_one_is_mod]
theorem lN_bit0 : ∀ v : Nat, v < 40 → (((nI v).toInt64 &&& 63).toBitVec.smod 64).toNat = v := by decide +kernel
theorem lN_bit {m v : Nat} (hm : m < 2 ^ 40) (hv : v < 40) : (lN m >>> ((nI v).toInt64 &&& 63)) &&& 1 = lN (m / 2 ^ v % 2) := by
  rw [lN_shr (by omega) _ v (lN_bit0 v hv), lN_one]
theorem lN_pow : ∀ v : Nat, v < 40 → (1 : Int64) <<< ((nI v).toInt64 &&& 63) = lN (2 ^ v) := by decide +kernel
theorem lg_cmp_lN {a b : Nat} (ha : a < 2 ^ 63) (hb : b < 2 ^ 63) : lg_cmp (lN a) (lN b) = if a = b then 0 else if b < a then 1 else -1 := by
  unfold lg_cmp
  by_cases h : b < a
  · rw [if_pos ((pk_lLT hb ha).mpr h), if_neg (by omega), if_pos h]
  · rw [if_neg (fun q => h ((pk_lLT hb ha).mp q))]
    by_cases h2 : a = b
    · rw [if_pos ((pk_lEQ ha hb).mpr h2), if_pos h2]
    · rw [if_neg (fun q => h2 ((pk_lEQ ha hb).mp q)), if_neg h2, if_neg h]
/-- what a cell holds is one thing -/
theorem pt_arr {D : va_G} {cA cB : ClassId} {a n n' : Nat} {f g : Nat → Int32} {H : Heap} (h : zs_pt D a (.inl (cA, n, .inl f)) H) (h' : zs_pt D a (.inl (cB, n', .inl g)) H) : n = n' ∧ ∀ j, j < n → f j = g j := by
  have e : vp_cell cA (n, .inl f) = vp_cell cB (n', .inl g) := Option.some.inj (Eq.trans (Eq.symm h) h')
  rw [vp_cell_i, vp_cell_i] at e
  have hn : n = n' := by rw [← arrV_size cA n (fun j => .int (f j)), ← arrV_size cB n' (fun j => .int (g j)), e]
  subst hn
  refine ⟨rfl, fun j hj => ?_⟩
  have e1 := arrV_read cA (fun j => .int (f j)) hj
  rw [e, arrV_read cB _ hj] at e1
  exact (Value.int.inj (Option.some.inj e1)).symm
theorem pt_arrq {D : va_G} {cA cB : ClassId} {a n n' : Nat} {f g : Nat → Option Nat} {H : Heap} (h : zs_pt D a (.inl (cA, n, .inr (.inr (.inr (.inr f))))) H) (h' : zs_pt D a (.inl (cB, n', .inr (.inr (.inr (.inr g))))) H) : n = n' ∧ ∀ j, j < n → f j = g j := by
  have e : vp_cell cA (n, .inr (.inr (.inr (.inr f)))) = vp_cell cB (n', .inr (.inr (.inr (.inr g)))) := Option.some.inj (Eq.trans (Eq.symm h) h')
  rw [vp_cell_q, vp_cell_q] at e
  have hn : n = n' := by rw [← arrV_size cA n (fun j => va_rf (f j)), ← arrV_size cB n' (fun j => va_rf (g j)), e]
  subst hn
  refine ⟨rfl, fun j hj => ?_⟩
  have e1 := arrV_read cA (fun j => va_rf (f j)) hj
  rw [e, arrV_read cB _ hj] at e1
  have e2 := Option.some.inj e1
  revert e2
  cases f j <;> cases g j <;> intro e2 <;> first | rfl | (cases e2; done) | (cases e2; rfl)
theorem pt_obj {D : va_G} {a ci : Nat} {fs gs : List Value} {H : Heap} {r : vw_C} (hc : zs_C[ci]? = some r) (h : zs_pt D a (.inr (ci, fs)) H) (h' : zs_pt D a (.inr (ci, gs)) H) : ∀ k, k < r.2.2 → vp_V fs k = vp_V gs k := by
  obtain ⟨r1, e1, cell, q1, q2, q3, q4⟩ := h
  obtain ⟨r2, e2, cell', p1, p2, p3, p4⟩ := h'
  cases Option.some.inj (e1.symm.trans hc)
  cases Option.some.inj (e2.symm.trans hc)
  cases Option.some.inj (q1.symm.trans p1)
  intro k hk
  exact Option.some.inj ((q4 k hk).symm.trans (p4 k hk))
theorem cs_row.inj {D : va_G} {E : Nat → ClassId} {κ : Nat → Nat} {H : Heap} {a : Nat} {r t : sp_R} (h : cs_row D E κ H a r) (h' : cs_row D E κ H a t) : r = t := by
  obtain ⟨⟨h0, h1, h2⟩, -, n, -, h3, h4⟩ := h
  obtain ⟨⟨g0, g1, g2⟩, -, n', -, g3, g4⟩ := h'
  have e := pt_obj (r := (RX3, TX3, 2)) rfl h3 g3
  have e0 : (Value.int (nI r.1)) = .int (nI t.1) := e 0 (by decide)
  have e1 : (Value.ref n) = .ref n' := e 1 (by decide)
  cases e1
  have e2 : nI r.1 = nI t.1 := Value.int.inj e0
  obtain ⟨l1, l2⟩ := pt_arr h4 g4
  refine Prod.ext ((nI_eq (by omega) (by omega)).mp e2) (gd_ext 0 l1 (fun j hj => ?_))
  exact (nI_eq (Nat.lt_of_le_of_lt (gd_gt h2 j) (by decide)) (Nat.lt_of_le_of_lt (gd_gt g2 j) (by decide))).mp (l2 j hj)
theorem cs_sh.inj {D : va_G} {E : Nat → ClassId} {κ : Nat → Nat} {H : Heap} {a : Nat} {rs ts : sp_Sh} (h : cs_sh D E κ H a rs) (h' : cs_sh D E κ H a ts) : rs = ts := by
  obtain ⟨n, f, h1, h2, h3, h4⟩ := h.s0
  obtain ⟨n', g, g1, g2, g3, g4⟩ := h'.s0
  have e := pt_obj (r := (RX4, TX4, 2)) rfl h2 g2
  have e0 : (Value.ref n) = .ref n' := e 0 (by decide)
  have e1 : (Value.int (nI rs.length)) = .int (nI ts.length) := e 1 (by decide)
  cases e0
  have e2 : nI rs.length = nI ts.length := Value.int.inj e1
  have hl := (nI_eq (by omega) (by omega)).mp e2
  refine gd_ext sp_d0 hl (fun j hj => ?_)
  obtain ⟨b, q1, q2⟩ := h4 j hj
  obtain ⟨b', p1, p2⟩ := g4 j (by omega)
  have := (pt_arrq h3 g3).2 j (by omega)
  rw [q1, p1] at this
  cases this
  exact q2.inj p2
theorem sp_al_rf (a : sp_Sh) : sp_al a a := ⟨rfl, fun _ _ => rfl⟩
theorem sp_al_sy {a b : sp_Sh} (h : sp_al a b) : sp_al b a := ⟨h.1.symm, fun j hj => (h.2 j (by rw [h.1]; exact hj)).symm⟩
theorem sp_al_tr {a b c : sp_Sh} (h : sp_al a b) (h2 : sp_al b c) : sp_al a c := ⟨h.1.trans h2.1, fun j hj => (h.2 j hj).trans (h2.2 j (by rw [← h.1]; exact hj))⟩
/-- a slot: no sheaf, or one -/
def cs_os (D : va_G) (E : Nat → ClassId) (κ : Nat → Nat) (H : Heap) (o : Option Nat) (s : Option sp_Sh) : Prop := (s = none → o = none) ∧ ∀ rs, s = some rs → ∃ a : Nat, o = some a ∧ cs_sh D E κ H a rs
theorem cs_os.kept {D : va_G} {E : Nat → ClassId} {κ : Nat → Nat} {H H1 : Heap} {o : Option Nat} {t : Option sp_Sh} (h : cs_os D E κ H o t) (hk : cs_kp κ H H1) : cs_os D E κ H1 o t := ⟨h.1, fun rs q => (h.2 rs q).imp fun a z => ⟨z.1, z.2.kept hk⟩⟩
def sp_oal (x y : Option sp_Sh) : Prop := ∀ a b, x = some a → y = some b → sp_al a b
def cs_vs (D : va_G) (E : Nat → ClassId) (κ : Nat → Nat) (H : Heap) (f : Nat → Option Nat) (sl : Nat → Option sp_Sh) : Prop := ∀ j, j < 32 → cs_os D E κ H (f j) (sl j)
theorem cs_vs.kept {D : va_G} {E : Nat → ClassId} {κ : Nat → Nat} {H H1 : Heap} {f : Nat → Option Nat} {sl : Nat → Option sp_Sh} (h : cs_vs D E κ H f sl) (hk : cs_kp κ H H1) : cs_vs D E κ H1 f sl := fun j hj => (h j hj).kept hk
/-- a version's cells; its number, piece, the versions above (bits), what it was written from -/
def cs_v0 (D : va_G) (E : Nat → ClassId) (H : Heap) (a h num pn am : Nat) (wf : Int32) (f : Nat → Option Nat) : Prop := zs_pt D a (.inr (5, [.int (nI num), .int (nI pn), .long (lN am), .int wf, .ref h])) H ∧ zs_pt D h (.inl (E 9, 32, .inr (.inr (.inr (.inr f))))) H
def cs_ver (D : va_G) (E : Nat → ClassId) (κ : Nat → Nat) (H : Heap) (a num pn am : Nat) (wf : Int32) (sl : Nat → Option sp_Sh) : Prop := κ a = 0 ∧ num < 40 ∧ pn < 6 ∧ am < 2 ^ 40 ∧ ∃ (h : Nat) (f : Nat → Option Nat), κ h = 0 ∧ cs_v0 D E H a h num pn am wf f ∧ cs_vs D E κ H f sl
theorem cs_ver.kept {D : va_G} {E : Nat → ClassId} {κ : Nat → Nat} {H H1 : Heap} {a num pn am : Nat} {wf : Int32} {sl : Nat → Option sp_Sh} (h : cs_ver D E κ H a num pn am wf sl) (hk : cs_kp κ H H1) : cs_ver D E κ H1 a num pn am wf sl := by
  obtain ⟨h1, h2, h3, h4, h5, f, h6, ⟨h7, h8⟩, h9⟩ := h
  exact ⟨h1, h2, h3, h4, h5, f, h6, ⟨h7.kept (hk _ h7.lt h1), h8.kept (hk _ h8.lt h6)⟩, h9.kept hk⟩

set_option maxHeartbeats 4000000 in
set_option maxRecDepth 100000 in
theorem m_X6_sheafOf (D : va_G) (E : Nat → ClassId) (B : Nat) (l : Launch) (κ : Nat → Nat) (b : Nat) (r : sp_R) : zs_Ct D E B l yX6_sheafOf cX6_sheafOf 2 (some (.object "ScoreSheaf$Sheaf")) ({ frames := 2, cells := 2, slots := 6, locals := 60 } : Room) [.ref b] (fun H => cs_row D E κ H b r ∧ ∀ q, H.size ≤ q → κ q = 0) (zs_N) (fun v H H1 => ∃ q : Nat, v = some (.ref q) ∧ H.size ≤ q ∧ cs_sh D E κ H1 q [r]) := by
  refine zs_ct (by decide) (Nat.le_of_ble_eq_true rfl) (fun p e s m below meth c hE hr hin hp => ?_)
  refine zs_lo (lo' := [(0, .ref b)]) rfl ?_
  obtain ⟨rb, hκ⟩ := hp
  have rb0 : cs_row D E κ s.heap b ([r].getD 0 sp_d0) := rb
  obtain ⟨-, -, bn, -, bp, -⟩ := id rb
  refine zs_new (fs := [.null, .int 0]) hE nl_X6_179 (fun j hj => by rcases (show j = 0 ∨ j = 1 by omega) with rfl | rfl <;> rfl) (by decide) (by decide) dX6_sheafOf_0 (fun q1 H1 hq1 hp1 hz1 ho1 => ?_)
  refine zs_widen (k' := 1) (n' := 2) (by omega) (by omega) ?_
  have ne2 : b ≠ q1 := by have := zs_pt.lt bp; omega
  have bp := zs_pt.kept bp (ho1 _ (zs_pt.lt bp))
  refine zs_dup hE dX6_sheafOf_3 rfl ?_
  refine zs_callIN (ret := none) (av := []) (st := [.ref q1]) hE (m_X4_init D E B l q1) sIN_X6_352 (hp1) ⟨by decide, by decide⟩ ⟨by decide, by decide⟩ (fun q h => Or.inr (by omega)) (Nat.le_of_ble_eq_true rfl) dX6_sheafOf_4 (fun v3 H3 hv3 hz3 hk3 => ?_)
  obtain ⟨rfl, ha, cz, cs, c1, c2⟩ := hv3
  refine zs_widen (k' := 2) (n' := 6) (by decide) (by decide) ?_
  have hoo : ∀ q, q < s.heap.size → H3[q]? = s.heap[q]? := fun q z => (hk3 q (by omega) (fun w => by omega)).trans (ho1 q z)
  have rb := rb.kept (H1 := H3) (fun q z _ => hoo q z)
  obtain ⟨-, -, bn, -, bp, -⟩ := id rb
  refine zs_astore_n (lo' := [(1, .ref q1), (0, .ref b)]) hE dX6_sheafOf_7 rfl (by decide) rfl ?_
  refine zs_aload_n hE 0 dX6_sheafOf_8 rfl rfl ?_
  refine zs_aload_n hE 1 dX6_sheafOf_9 rfl rfl ?_
  refine zs_callV (av := [.ref b]) (st := []) hE (m_X4_take D E B l q1 ha 0 b (fun _ => none) _ (by omega) (by omega)) sV_X6_353 c1 rfl rfl (⟨c1, c2, bp⟩) ⟨by decide, by decide⟩ ⟨by decide, by decide⟩ (fun q h => Or.inr (by rcases h with h | h <;> omega)) (Nat.le_of_ble_eq_true rfl) dX6_sheafOf_10 (fun v4 H4 hv4 hz4 hk4 => ?_)
  obtain ⟨rfl, dz, -, d0⟩ := hv4
  refine zs_widen (k' := 2) (n' := 6) (by decide) (by decide) ?_
  obtain ⟨d1, d2⟩ := d0 (by decide)
  refine zs_aload_n hE 0 dX6_sheafOf_13 rfl rfl ?_
  have hoo2 : ∀ q, q < s.heap.size → H4[q]? = H3[q]? := fun q z => hk4 q (by omega) (fun w => by rcases w with w | w <;> omega)
  refine zs_top (v' := va_rf (some q1)) rfl ?_
  exact zs_aret hE hr (by first | exact Or.inl ⟨_, rfl⟩ | exact Or.inr ⟨_, rfl⟩) (⟨q1, rfl, by omega, Nat.le_of_ble_eq_true rfl, hκ _ (by omega), ha, _, hκ _ (by omega), d1, d2, fun j hj => ⟨b, by rw [show j = 0 from Nat.lt_one_iff.mp hj]; rfl, by rw [show j = 0 from Nat.lt_one_iff.mp hj]; exact rb0.kept (H1 := H4) (fun q z _ => (hoo2 q z).trans (hoo q z))⟩⟩) (by decide) (by decide) dX6_sheafOf_14

set_option maxHeartbeats 4000000 in
set_option maxRecDepth 100000 in
theorem m_X6_areAlike (D : va_G) (E : Nat → ClassId) (B : Nat) (l : Launch) (κ : Nat → Nat) (x y : Option Nat) (rs ts : Option sp_Sh) (hst : rs = none ↔ ts = none) : zs_Ct D E B l yX6_areAlike cX6_areAlike 2 (some .boolean) ({ frames := 2, cells := 0, slots := 0, locals := 45 } : Room) [va_rf x, va_rf y] (fun H => cs_os D E κ H x rs ∧ cs_os D E κ H y ts) (zs_N) (zs_ro (.int (zs_b (sp_oal rs ts)))) := by
  refine zs_ct (by decide) (by cases x <;> cases y <;> exact Nat.le_of_ble_eq_true rfl) (fun p e s m below meth c hE hr hin hp => ?_)
  refine zs_lo (lo' := [(0, va_rf x), (1, va_rf y)]) (by cases x <;> cases y <;> rfl) ?_
  obtain ⟨hx, hy⟩ := hp
  refine zs_aload_nq hE 0 dX6_areAlike_0 rfl rfl ?_
  refine zs_aload_nq hE 1 dX6_areAlike_1 rfl rfl ?_
  refine zs_acmp_eq (tgt := 17) hE dX6_areAlike_2 (by decide) (fun h => ?_) (fun h => ?_)
  · refine zs_iconst (v := (nI 1)) hE dX6_areAlike_17 (by decide) ?_
    refine zs_goto (tgt := 22) hE dX6_areAlike_18 (by decide) ?_
    refine zs_top (v' := .int (zs_b (sp_oal rs ts))) (by
          refine vb1 (fun a b ha hb => ?_)
          obtain ⟨q, e1, e2⟩ := hx.2 a ha
          obtain ⟨q2, e3, e4⟩ := hy.2 b hb
          rw [h, e3] at e1
          cases e1
          rw [e2.inj e4]
          exact sp_al_rf b) ?_
    exact zs_zret hE hr (zs_bnar _) (⟨rfl, rfl⟩) (by decide) (by decide) dX6_areAlike_22
  · refine zs_aload_nq hE 0 dX6_areAlike_5 rfl rfl ?_
    obtain ⟨a, b, rfl, rfl⟩ : ∃ a b, rs = some a ∧ ts = some b := by
          cases rs with
          | none =>
            exact absurd ((hx.1 rfl).trans (hy.1 (hst.mp rfl)).symm) h
          | some a =>
            cases ts with
            | none => exact absurd (hst.mpr rfl) (by simp)
            | some b => exact ⟨a, b, rfl, rfl⟩
    obtain ⟨a1, rfl, e1⟩ := hx.2 a rfl
    obtain ⟨b1, rfl, e2⟩ := hy.2 b rfl
    refine zs_lo (lo' := [(0, .ref a1), (1, .ref b1)]) rfl ?_
    refine zs_top (v' := .ref a1) rfl ?_
    refine zs_ifnullR hE dX6_areAlike_6 ?_
    refine zs_aload_n hE 0 dX6_areAlike_9 rfl rfl ?_
    refine zs_aload_n hE 1 dX6_areAlike_10 rfl rfl ?_
    obtain ⟨a2, af, -, a3, -⟩ := e1.s0
    refine zs_callVR (av := [.ref b1]) (st := []) (b := a1) hE (m_X4_isLike D E B l κ a1 b1 a b) rfl rfl sV_X6_357 a3 rfl rfl (⟨e1, e2⟩) ⟨by decide, by decide⟩ ⟨by decide, by decide⟩ (Nat.le_of_ble_eq_true rfl) dX6_areAlike_11 ?_
    refine zs_if_eqB (tgt := 21) hE dX6_areAlike_14 (by decide) (fun h2 => ?_) (fun h2 => ?_)
    · refine zs_iconst (v := (nI 0)) hE dX6_areAlike_21 (by decide) ?_
      refine zs_top (v' := .int (zs_b (sp_oal (some a) (some b)))) (by rw [zs_b0 (fun z => h2 (z a b rfl rfl))]; rfl) ?_
      exact zs_zret hE hr (zs_bnar _) (⟨rfl, rfl⟩) (by decide) (by decide) dX6_areAlike_22
    · refine zs_iconst (v := (nI 1)) hE dX6_areAlike_17 (by decide) ?_
      refine zs_goto (tgt := 22) hE dX6_areAlike_18 (by decide) ?_
      refine zs_top (v' := .int (zs_b (sp_oal (some a) (some b)))) (vb1 (fun a' b' ha hb => by cases ha; cases hb; exact h2)) ?_
      exact zs_zret hE hr (zs_bnar _) (⟨rfl, rfl⟩) (by decide) (by decide) dX6_areAlike_22

set_option maxHeartbeats 4000000 in
set_option maxRecDepth 100000 in
theorem m_X5_init (D : va_G) (E : Nat → ClassId) (B : Nat) (l : Launch) (a num pn am : Nat) (wf : Int32) (hn : num < 40) : zs_Ct D E B l yX5_init cX5_init 6 none ({ frames := 1, cells := 1, slots := 32, locals := 40 } : Room) [.ref a, .int (nI num), .int (nI pn), .long (lN am), .int wf] (fun H => zs_pt D a (.inr (5, [.int 0, .int 0, .long 0, .int 0, .null])) H) (fun q => q = a) (fun v H H1 => v = none ∧ ∃ h : Nat, h = H.size ∧ H1.size = h + 1 ∧ cs_v0 D E H1 a h num pn (am ||| 2 ^ num) wf (fun _ => none)) := by
  refine zs_ct (by decide) (Nat.le_of_ble_eq_true rfl) (fun p e s m below meth c hE hr hin hp => ?_)
  refine zs_lo (lo' := [(0, .ref a), (1, .int (nI num)), (2, .int (nI pn)), (3, .long (lN am)), (5, .int wf)]) rfl ?_
  refine zs_aload_n hE 0 dX5_init_0 rfl rfl ?_
  refine zs_objInit hE ol_X5_3 q_objI q_objC dX5_init_1 (by decide) (Nat.le_of_ble_eq_true rfl) (by decide) ?_
  refine zs_aload_n hE 0 dX5_init_4 rfl rfl ?_
  refine zs_bipush (v := (nI 32)) hE dX5_init_5 (by decide) ?_
  refine zs_newq (t := 9) hE al_X5_9 rfl (by decide) (by decide) (by decide) (by decide) dX5_init_7 (fun q1 H1 hq1 hp1 hz1 ho1 => ?_)
  refine zs_widen (k' := 1) (n' := 32) (by omega) (by omega) ?_
  have ne2 : a ≠ q1 := by have := zs_pt.lt hp; omega
  have hp := zs_pt.kept hp (ho1 _ (zs_pt.lt hp))
  refine zs_putF (v := .ref q1) hE (hin rfl) fl_X5_11 ⟨_, _, _, rfl, rfl⟩ hp (Or.inl rfl) (rfl) (rfl) (Nat.le_of_ble_eq_true rfl) dX5_init_10 (fun H3 hp3 hz3 ho3 => ?_)
  have hp1 := zs_pt.kept hp1 (ho3 _ ne2.symm)
  have hp3 : zs_pt D a (.inr (5, [.int 0, .int 0, .long 0, .int 0, .ref q1])) H3 := hp3
  refine zs_aload_n hE 0 dX5_init_13 rfl rfl ?_
  refine zs_iload_n hE 1 dX5_init_14 rfl rfl ?_
  refine zs_putF (v := .int (nI num)) hE (hin rfl) fl_X5_17 ⟨_, _, _, rfl, rfl⟩ hp3 (Or.inl rfl) (rfl) (rfl) (Nat.le_of_ble_eq_true rfl) dX5_init_15 (fun H4 hp4 hz4 ho4 => ?_)
  have hp1 := zs_pt.kept hp1 (ho4 _ ne2.symm)
  have hp4 : zs_pt D a (.inr (5, [.int (nI num), .int 0, .long 0, .int 0, .ref q1])) H4 := hp4
  refine zs_aload_n hE 0 dX5_init_18 rfl rfl ?_
  refine zs_iload_n hE 2 dX5_init_19 rfl rfl ?_
  refine zs_putF (v := .int (nI pn)) hE (hin rfl) fl_X5_21 ⟨_, _, _, rfl, rfl⟩ hp4 (Or.inl rfl) (rfl) (rfl) (Nat.le_of_ble_eq_true rfl) dX5_init_20 (fun H5 hp5 hz5 ho5 => ?_)
  have hp1 := zs_pt.kept hp1 (ho5 _ ne2.symm)
  have hp5 : zs_pt D a (.inr (5, [.int (nI num), .int (nI pn), .long 0, .int 0, .ref q1])) H5 := hp5
  refine zs_aload_n hE 0 dX5_init_23 rfl rfl ?_
  refine zs_lload_n hE 3 dX5_init_24 rfl rfl ?_
  refine zs_lconst (v := (1 : Int64)) hE dX5_init_25 (by decide) ?_
  refine zs_iload_n hE 1 dX5_init_26 rfl rfl ?_
  refine zs_lshl hE dX5_init_27 ?_
  refine zs_top (v' := .long (lN (2 ^ num))) (by rw [lN_pow num hn]) ?_
  refine zs_lor hE dX5_init_28 ?_
  refine zs_top (v' := .long (lN (am ||| 2 ^ num))) (by rw [lN_or]) ?_
  refine zs_putF (v := .long (lN (am ||| 2 ^ num))) hE (hin rfl) fl_X5_24 ⟨_, _, _, rfl, rfl⟩ hp5 (Or.inl rfl) (rfl) (rfl) (Nat.le_of_ble_eq_true rfl) dX5_init_29 (fun H6 hp6 hz6 ho6 => ?_)
  have hp1 := zs_pt.kept hp1 (ho6 _ ne2.symm)
  have hp6 : zs_pt D a (.inr (5, [.int (nI num), .int (nI pn), .long (lN (am ||| 2 ^ num)), .int 0, .ref q1])) H6 := hp6
  refine zs_aload_n hE 0 dX5_init_32 rfl rfl ?_
  refine zs_iload hE 4 dX5_init_33 rfl ?_
  refine zs_putF (v := .int wf) hE (hin rfl) fl_X5_28 ⟨_, _, _, rfl, rfl⟩ hp6 (Or.inl rfl) (rfl) (rfl) (Nat.le_of_ble_eq_true rfl) dX5_init_35 (fun H7 hp7 hz7 ho7 => ?_)
  have hp1 := zs_pt.kept hp1 (ho7 _ ne2.symm)
  have hp7 : zs_pt D a (.inr (5, [.int (nI num), .int (nI pn), .long (lN (am ||| 2 ^ num)), .int wf, .ref q1])) H7 := hp7
  exact zs_vret hE hr (⟨rfl, q1, hq1, by omega, hp7, hp1⟩) (by decide) (by decide) dX5_init_38

def sp_at2 (x y : Int32) (f : Nat → Option Nat) : Option Nat := (sp_i x 8).bind (fun b => (sp_i y 4).bind (fun q => f (b * 4 + q)))
set_option maxHeartbeats 4000000 in
set_option maxRecDepth 100000 in
theorem m_X5_sheafAt (D : va_G) (E : Nat → ClassId) (B : Nat) (l : Launch) (a h num pn am : Nat) (wf : Int32) (f : Nat → Option Nat) (x y : Int32) : zs_Ct D E B l yX5_sheafAt cX5_sheafAt 3 (some (.object "ScoreSheaf$Sheaf")) ({ frames := 0, cells := 0, slots := 0, locals := 0 } : Room) [.ref a, .int x, .int y] (fun H => cs_v0 D E H a h num pn am wf f) (zs_N) (zs_ro (va_rf (sp_at2 x y f))) := by
  refine zs_ct (by decide) (Nat.le_of_ble_eq_true rfl) (fun p e s m below meth c hE hr hin hp => ?_)
  refine zs_lo (lo' := [(0, .ref a), (1, .int x), (2, .int y)]) rfl ?_
  obtain ⟨x5, x6⟩ := hp
  refine zs_iload_n hE 1 dX5_sheafAt_0 rfl rfl ?_
  refine zs_if_lt (tgt := 19) hE dX5_sheafAt_1 (by decide) (fun h1 => ?_) (fun h1 => ?_)
  · refine zs_nullq hE dX5_sheafAt_19 ?_
    refine zs_top (v' := va_rf (sp_at2 x y f)) (by rw [sp_at2, sp_i_lo h1]; rfl) ?_
    exact zs_aret hE hr (by first | exact Or.inl ⟨_, rfl⟩ | exact Or.inr ⟨_, rfl⟩) (⟨rfl, rfl⟩) (by decide) (by decide) dX5_sheafAt_20
  · refine zs_iload_n hE 1 dX5_sheafAt_4 rfl rfl ?_
    refine zs_bipush (v := (nI 8)) hE dX5_sheafAt_5 (by decide) ?_
    refine zs_icmp_ge (tgt := 19) hE dX5_sheafAt_7 (by decide) (fun h2 => ?_) (fun h2 => ?_)
    · refine zs_nullq hE dX5_sheafAt_19 ?_
      refine zs_top (v' := va_rf (sp_at2 x y f)) (by rw [sp_at2, sp_i_hi (by decide) h2]; rfl) ?_
      exact zs_aret hE hr (by first | exact Or.inl ⟨_, rfl⟩ | exact Or.inr ⟨_, rfl⟩) (⟨rfl, rfl⟩) (by decide) (by decide) dX5_sheafAt_20
    · obtain ⟨b, hb, rfl⟩ := sp_dec (n := 8) (by decide) h1 (sp_le_lt h2)
      refine zs_iload_n hE 2 dX5_sheafAt_10 rfl rfl ?_
      refine zs_if_lt (tgt := 19) hE dX5_sheafAt_11 (by decide) (fun h3 => ?_) (fun h3 => ?_)
      · refine zs_nullq hE dX5_sheafAt_19 ?_
        refine zs_top (v' := va_rf (sp_at2 (nI b) y f)) (by rw [sp_at2, sp_i_in hb (by decide), Option.bind_some, sp_i_lo h3]; rfl) ?_
        exact zs_aret hE hr (by first | exact Or.inl ⟨_, rfl⟩ | exact Or.inr ⟨_, rfl⟩) (⟨rfl, rfl⟩) (by decide) (by decide) dX5_sheafAt_20
      · refine zs_iload_n hE 2 dX5_sheafAt_14 rfl rfl ?_
        refine zs_iconst (v := (nI 4)) hE dX5_sheafAt_15 (by decide) ?_
        refine zs_icmp_lt (tgt := 21) hE dX5_sheafAt_16 (by decide) (fun h4 => ?_) (fun h4 => ?_)
        · obtain ⟨q, hq, rfl⟩ := sp_dec (n := 4) (by decide) h3 h4
          refine zs_aload_n hE 0 dX5_sheafAt_21 rfl rfl ?_
          refine zs_get hE fl_X5_11 x5 rfl dX5_sheafAt_22 ?_
          refine zs_iload_n hE 1 dX5_sheafAt_25 rfl rfl ?_
          refine zs_iconst (v := (nI 4)) hE dX5_sheafAt_26 (by decide) ?_
          refine zs_imulN hE dX5_sheafAt_27 ?_
          refine zs_iload_n hE 2 dX5_sheafAt_28 rfl rfl ?_
          refine zs_iaddN hE dX5_sheafAt_29 ?_
          refine zs_aald hE x6 rfl (by omega) (by decide) dX5_sheafAt_30 ?_
          refine zs_top (v' := va_rf (sp_at2 (nI b) (nI q) f)) (by rw [sp_at2, sp_i_in hb (by decide), Option.bind_some, sp_i_in hq (by decide), Option.bind_some]) ?_
          exact zs_aret hE hr (by first | exact Or.inl ⟨_, rfl⟩ | exact Or.inr ⟨_, rfl⟩) (⟨rfl, rfl⟩) (by decide) (by decide) dX5_sheafAt_31
        · refine zs_nullq hE dX5_sheafAt_19 ?_
          refine zs_top (v' := va_rf (sp_at2 (nI b) y f)) (by rw [sp_at2, sp_i_in hb (by decide), Option.bind_some, sp_i_hi (by decide) (sp_nlt_le h4)]; rfl) ?_
          exact zs_aret hE hr (by first | exact Or.inl ⟨_, rfl⟩ | exact Or.inr ⟨_, rfl⟩) (⟨rfl, rfl⟩) (by decide) (by decide) dX5_sheafAt_20

set_option maxHeartbeats 4000000 in
set_option maxRecDepth 100000 in
theorem m_X5_put (D : va_G) (E : Nat → ClassId) (B : Nat) (l : Launch) (a h num pn am j b : Nat) (wf : Int32) (f : Nat → Option Nat) (vs : List Value) (hj : j < 32) (hne : a ≠ h) : zs_Ct D E B l yX5_put cX5_put 3 none ({ frames := 0, cells := 0, slots := 0, locals := 0 } : Room) [.ref a, .int (nI j), .ref b] (fun H => cs_v0 D E H a h num pn am wf f ∧ zs_pt D b (.inr (4, vs)) H) (fun q => q = h) (fun v H H1 => v = none ∧ H1.size = H.size ∧ cs_v0 D E H1 a h num pn am wf (va_up f j (some b))) := by
  refine zs_ct (by decide) (Nat.le_of_ble_eq_true rfl) (fun p e s m below meth c hE hr hin hp => ?_)
  refine zs_lo (lo' := [(0, .ref a), (1, .int (nI j)), (2, .ref b)]) rfl ?_
  obtain ⟨⟨x5, x6⟩, hb⟩ := hp
  refine zs_iload_n hE 1 dX5_put_0 rfl rfl ?_
  refine zs_if_ltN (tgt := 17) hE (by omega) dX5_put_1 (by decide) ?_
  refine zs_iload_n hE 1 dX5_put_4 rfl rfl ?_
  refine zs_bipush (v := (nI 32)) hE dX5_put_5 (by decide) ?_
  refine zs_icmp_geN (tgt := 17) hE (by omega) (by decide) dX5_put_7 (by decide) (fun h1 => ?_) (fun h1 => ?_)
  · exact absurd h1 (by omega)
  · refine zs_aload_n hE 0 dX5_put_10 rfl rfl ?_
    refine zs_get hE fl_X5_11 x5 rfl dX5_put_11 ?_
    refine zs_iload_n hE 1 dX5_put_14 rfl rfl ?_
    refine zs_aload_n hE 2 dX5_put_15 rfl rfl ?_
    refine zs_aast hE x6 rfl hb rfl (Or.inl rfl) (by omega) (by decide) dX5_put_16 (fun H1 hp1 hz1 ho1 => ?_)
    have x5 := zs_pt.kept x5 (ho1 _ hne)
    exact zs_vret hE hr (⟨rfl, hz1, x5, hp1⟩) (by decide) (by decide) dX5_put_17

theorem tb_iff (a k : Nat) : a.testBit k = true ↔ a / 2 ^ k % 2 = 1 := by
  rw [Nat.testBit_eq_decide_div_mod_eq]
  simp
set_option maxHeartbeats 4000000 in
set_option maxRecDepth 100000 in
theorem m_X5_isUnder (D : va_G) (E : Nat → ClassId) (B : Nat) (l : Launch) (a b h1 h2 n1 p1 a1 n2 p2 a2 : Nat) (w1 w2 : Int32) (ha : a1 < 2 ^ 40) (hn : n2 < 40) : zs_Ct D E B l yX5_isUnder cX5_isUnder 2 (some .boolean) ({ frames := 0, cells := 0, slots := 0, locals := 0 } : Room) [.ref a, .ref b] (fun H => zs_pt D a (.inr (5, [.int (nI n1), .int (nI p1), .long (lN a1), .int w1, .ref h1])) H ∧ zs_pt D b (.inr (5, [.int (nI n2), .int (nI p2), .long (lN a2), .int w2, .ref h2])) H) (zs_N) (zs_ro (.int (zs_b (a1.testBit n2 = true)))) := by
  refine zs_ct (by decide) (Nat.le_of_ble_eq_true rfl) (fun p e s m below meth c hE hr hin hp => ?_)
  refine zs_lo (lo' := [(0, .ref a), (1, .ref b)]) rfl ?_
  obtain ⟨x5, y5⟩ := hp
  refine zs_aload_n hE 0 dX5_isUnder_0 rfl rfl ?_
  refine zs_get hE fl_X5_24 x5 rfl dX5_isUnder_1 ?_
  refine zs_aload_n hE 1 dX5_isUnder_4 rfl rfl ?_
  refine zs_get hE fl_X5_17 y5 rfl dX5_isUnder_5 ?_
  refine zs_lshr hE dX5_isUnder_8 ?_
  refine zs_lconst (v := (1 : Int64)) hE dX5_isUnder_9 (by decide) ?_
  refine zs_land hE dX5_isUnder_10 ?_
  refine zs_top (v' := .long (lN (a1 / 2 ^ n2 % 2))) (by rw [← lN_bit ha hn]) ?_
  refine zs_lconst (v := (1 : Int64)) hE dX5_isUnder_11 (by decide) ?_
  refine zs_lcmp hE dX5_isUnder_12 ?_
  refine zs_top (v' := .int (if a1 / 2 ^ n2 % 2 = 1 then (0 : Int32) else if 1 < a1 / 2 ^ n2 % 2 then 1 else -1)) (by rw [show (1 : Int64) = lN 1 from rfl, lg_cmp_lN (by omega) (by decide)]) ?_
  refine zs_if_ne (tgt := 20) hE dX5_isUnder_13 (by decide) (fun h => ?_) (fun h => ?_)
  · refine zs_iconst (v := (nI 0)) hE dX5_isUnder_20 (by decide) ?_
    refine zs_top (v' := .int (zs_b (a1.testBit n2 = true))) (vb0 (fun z => h (if_pos ((tb_iff _ _).mp z)))) ?_
    exact zs_zret hE hr (zs_bnar _) (⟨rfl, rfl⟩) (by decide) (by decide) dX5_isUnder_21
  · refine zs_iconst (v := (nI 1)) hE dX5_isUnder_16 (by decide) ?_
    refine zs_goto (tgt := 21) hE dX5_isUnder_17 (by decide) ?_
    refine zs_top (v' := .int (zs_b (a1.testBit n2 = true))) (vb1 ((tb_iff _ _).mpr (by by_cases z : a1 / 2 ^ n2 % 2 = 1; exact z; rw [if_neg z, if_neg (by omega)] at h; exact absurd h (by decide)))) ?_
    exact zs_zret hE hr (zs_bnar _) (⟨rfl, rfl⟩) (by decide) (by decide) dX5_isUnder_21

/-- how many slots are unlike -/
noncomputable def sp_un (x y : Nat → Option sp_Sh) : Nat → Nat := sm (fun j => pI (sp_oal (x j) (y j)) 0 1)
set_option maxHeartbeats 4000000 in
set_option maxRecDepth 100000 in
theorem m_X5_sheavesUnlike (D : va_G) (E : Nat → ClassId) (B : Nat) (l : Launch) (κ : Nat → Nat) (a b n1 p1 a1 n2 p2 a2 : Nat) (w1 w2 : Int32) (x y : Nat → Option sp_Sh) (hst : ∀ j, j < 32 → (x j = none ↔ y j = none)) : zs_Ct D E B l yX5_sheavesUnlike cX5_sheavesUnlike 4 (some .int) ({ frames := 3, cells := 0, slots := 0, locals := 66 } : Room) [.ref a, .ref b] (fun H => cs_ver D E κ H a n1 p1 a1 w1 x ∧ cs_ver D E κ H b n2 p2 a2 w2 y) (zs_N) (zs_ro (.int (nI (sp_un x y 32)))) := by
  refine zs_ct (by decide) (Nat.le_of_ble_eq_true rfl) (fun p e s m below meth c hE hr hin hp => ?_)
  refine zs_lo (lo' := [(0, .ref a), (1, .ref b)]) rfl ?_
  obtain ⟨h1, h2⟩ := hp
  obtain ⟨x0, x1, x2, x3, xh, xf, x4, ⟨x5, x6⟩, x7⟩ := h1
  obtain ⟨y0, y1, y2, y3, yh, yf, y4, ⟨y5, y6⟩, y7⟩ := h2
  refine zs_iconst (v := (nI 0)) hE dX5_sheavesUnlike_0 (by decide) ?_
  refine zs_istore_n (lo' := [(2, .int (nI 0)), (0, .ref a), (1, .ref b)]) hE dX5_sheavesUnlike_1 rfl (by decide) rfl ?_
  refine zs_iconst (v := (nI 0)) hE dX5_sheavesUnlike_2 (by decide) ?_
  refine zs_istore_n (lo' := [(3, .int (nI 0)), (2, .int (nI 0)), (0, .ref a), (1, .ref b)]) hE dX5_sheavesUnlike_3 rfl (by decide) rfl ?_
  refine zs_sub (lo' := [(3, .int (nI 0)), (2, .int (nI 0)), (0, .ref a), (1, .ref b)]) [0, 1, 2, 3] rfl ?_
  refine zs_ind1 (Hs := fun (i : Nat) => s.heap) (ks := fun (i : Nat) => 0) (ns := fun (i : Nat) => 0) (los := fun (i : Nat) => [(3, .int (nI i)), (2, .int (nI (sp_un x y i))), (0, .ref a), (1, .ref b)]) (I := fun (i : Nat) => i ≤ 32) (μ := fun (i : Nat) => 32 - i) 0 (Nat.zero_le _) (fun i hi ih => ?_)
  try dsimp only at hi ih ⊢
  refine zs_iload_n hE 0 dX5_sheavesUnlike_4 rfl rfl ?_
  refine zs_bipush (v := (nI 32)) hE dX5_sheavesUnlike_5 (by decide) ?_
  refine zs_icmp_geN (tgt := 37) hE (by omega) (by decide) dX5_sheavesUnlike_7 (by decide) (fun h => ?_) (fun h => ?_)
  · refine zs_iload_n hE 1 dX5_sheavesUnlike_37 rfl rfl ?_
    refine zs_top (v' := .int (nI (sp_un x y 32))) (by rw [show i = 32 by omega]) ?_
    exact zs_iret hE hr (⟨rfl, rfl⟩) (by decide) (by decide) dX5_sheavesUnlike_38
  · refine zs_aload_n hE 2 dX5_sheavesUnlike_10 rfl rfl ?_
    refine zs_get hE fl_X5_11 x5 rfl dX5_sheavesUnlike_11 ?_
    refine zs_iload_n hE 0 dX5_sheavesUnlike_14 rfl rfl ?_
    refine zs_aald hE x6 rfl (by omega) (by decide) dX5_sheavesUnlike_15 ?_
    refine zs_aload_n hE 3 dX5_sheavesUnlike_16 rfl rfl ?_
    refine zs_get hE fl_X5_11 y5 rfl dX5_sheavesUnlike_17 ?_
    refine zs_iload_n hE 0 dX5_sheavesUnlike_20 rfl rfl ?_
    refine zs_aald hE y6 rfl (by omega) (by decide) dX5_sheavesUnlike_21 ?_
    refine zs_callSNR (av := [va_rf (xf i), va_rf (yf i)]) (st := []) hE (m_X6_areAlike D E B l κ (xf i) (yf i) (x i) (y i) (hst i h)) rfl rfl sSN_X5_50 (⟨x7 i h, y7 i h⟩) ⟨by decide, by decide⟩ ⟨by decide, by decide⟩ (Nat.le_of_ble_eq_true rfl) dX5_sheavesUnlike_22 ?_
    refine zs_if_neB (tgt := 31) hE dX5_sheavesUnlike_25 (by decide) (fun h2 => ?_) (fun h2 => ?_)
    · refine zs_iincN (lo' := [(3, .int (nI (i + 1))), (2, .int (nI (sp_un x y i))), (0, .ref a), (1, .ref b)]) hE 0 dX5_sheavesUnlike_31 rfl (by decide) rfl ?_
      refine zs_goto (tgt := 4) hE dX5_sheavesUnlike_34 (by decide) ?_
      refine zs_lo (lo' := [(3, .int (nI (i + 1))), (2, .int (nI (sp_un x y (i + 1)))), (0, .ref a), (1, .ref b)]) (by rw [show sp_un x y (i + 1) = sp_un x y i + pI (sp_oal (x i) (y i)) 0 1 from rfl, pI_t h2]; rfl) ?_
      refine zs_sub (lo' := [(3, .int (nI (i + 1))), (2, .int (nI (sp_un x y (i + 1)))), (0, .ref a), (1, .ref b)]) [0, 1, 2, 3] rfl ?_
      exact ih (i + 1) (by omega) (by omega)
    · refine zs_iincN (lo' := [(2, .int (nI (sp_un x y i + 1))), (3, .int (nI i)), (0, .ref a), (1, .ref b)]) hE 1 dX5_sheavesUnlike_28 rfl (by decide) rfl ?_
      refine zs_iincN (lo' := [(3, .int (nI (i + 1))), (2, .int (nI (sp_un x y i + 1))), (0, .ref a), (1, .ref b)]) hE 1 dX5_sheavesUnlike_31 rfl (by decide) rfl ?_
      refine zs_goto (tgt := 4) hE dX5_sheavesUnlike_34 (by decide) ?_
      refine zs_lo (lo' := [(3, .int (nI (i + 1))), (2, .int (nI (sp_un x y (i + 1)))), (0, .ref a), (1, .ref b)]) (by rw [show sp_un x y (i + 1) = sp_un x y i + pI (sp_oal (x i) (y i)) 0 1 from rfl, pI_f h2]) ?_
      refine zs_sub (lo' := [(3, .int (nI (i + 1))), (2, .int (nI (sp_un x y (i + 1)))), (0, .ref a), (1, .ref b)]) [0, 1, 2, 3] rfl ?_
      exact ih (i + 1) (by omega) (by omega)

/-- a fold over the slots that are there -/
def sp_f {σ : Type} (sl : Nat → Option sp_Sh) (g : sp_Sh → σ → σ) : Nat → σ → σ := itn (fun j t => match sl j with | none => t | some rs => g rs t)
theorem sp_f0 {σ : Type} {sl : Nat → Option sp_Sh} {g : sp_Sh → σ → σ} {j : Nat} {t : σ} (h : sl j = none) : sp_f sl g (j + 1) t = sp_f sl g j t := by
  show (match sl j with | none => _ | some rs => _) = _
  rw [h]; rfl
theorem sp_f1 {σ : Type} {sl : Nat → Option sp_Sh} {g : sp_Sh → σ → σ} {j : Nat} {t : σ} {rs : sp_Sh} (h : sl j = some rs) : sp_f sl g (j + 1) t = g rs (sp_f sl g j t) := by
  show (match sl j with | none => _ | some rs => _) = _
  rw [h]; rfl
theorem cs_os.no {D : va_G} {E : Nat → ClassId} {κ : Nat → Nat} {H : Heap} {t : Option sp_Sh} (h : cs_os D E κ H none t) : t = none := by
  cases t with
  | none => rfl
  | some rs => obtain ⟨a, e, -⟩ := h.2 rs rfl; cases e
theorem cs_os.so {D : va_G} {E : Nat → ClassId} {κ : Nat → Nat} {H : Heap} {a : Nat} {t : Option sp_Sh} (h : cs_os D E κ H (some a) t) : ∃ rs, t = some rs ∧ cs_sh D E κ H a rs := by
  cases t with
  | none => exact absurd (h.1 rfl) (by simp)
  | some rs => obtain ⟨a', e, q⟩ := h.2 rs rfl; cases e; exact ⟨rs, rfl, q⟩
set_option maxHeartbeats 4000000 in
set_option maxRecDepth 100000 in
theorem m_X5_sheavesInDoubt (D : va_G) (E : Nat → ClassId) (B : Nat) (l : Launch) (κ : Nat → Nat) (a num pn am : Nat) (wf : Int32) (sl : Nat → Option sp_Sh) : zs_Ct D E B l yX5_sheavesInDoubt cX5_sheavesInDoubt 6 (some .int) ({ frames := 0, cells := 0, slots := 0, locals := 0 } : Room) [.ref a] (fun H => cs_ver D E κ H a num pn am wf sl) (zs_N) (zs_ro (.int (nI (sp_f sl (fun rs t => t + (if 1 < rs.length then 1 else 0)) 32 0)))) := by
  refine zs_ct (by decide) (Nat.le_of_ble_eq_true rfl) (fun p e s m below meth c hE hr hin hp => ?_)
  refine zs_lo (lo' := [(0, .ref a)]) rfl ?_
  obtain ⟨x0, x1, x2, x3, xh, xf, x4, ⟨x5, x6⟩, x7⟩ := hp
  refine zs_iconst (v := (nI 0)) hE dX5_sheavesInDoubt_0 (by decide) ?_
  refine zs_istore_n (lo' := [(1, .int (nI 0)), (0, .ref a)]) hE dX5_sheavesInDoubt_1 rfl (by decide) rfl ?_
  refine zs_aload_n hE 1 dX5_sheavesInDoubt_2 rfl rfl ?_
  refine zs_get hE fl_X5_11 x5 rfl dX5_sheavesInDoubt_3 ?_
  refine zs_astore_n (lo' := [(2, .ref xh), (1, .int (nI 0)), (0, .ref a)]) hE dX5_sheavesInDoubt_6 rfl (by decide) rfl ?_
  refine zs_aload_n hE 0 dX5_sheavesInDoubt_7 rfl rfl ?_
  refine zs_alen hE x6 rfl dX5_sheavesInDoubt_8 ?_
  refine zs_istore_n (lo' := [(3, .int (nI 32)), (2, .ref xh), (1, .int (nI 0)), (0, .ref a)]) hE dX5_sheavesInDoubt_9 rfl (by decide) rfl ?_
  refine zs_iconst (v := (nI 0)) hE dX5_sheavesInDoubt_10 (by decide) ?_
  refine zs_istore (lo' := [(4, .int (nI 0)), (3, .int (nI 32)), (2, .ref xh), (1, .int (nI 0)), (0, .ref a)]) hE dX5_sheavesInDoubt_11 (by decide) rfl ?_
  refine zs_sub (lo' := [(4, .int (nI 0)), (1, .int (nI 0)), (2, .ref xh), (3, .int (nI 32))]) [0, 3, 2, 1] rfl ?_
  refine zs_ind1 (Hs := fun (i : Nat) => s.heap) (ks := fun (i : Nat) => 0) (ns := fun (i : Nat) => 0) (los := fun (i : Nat) => [(4, .int (nI i)), (1, .int (nI (sp_f sl (fun rs t => t + (if 1 < rs.length then 1 else 0)) i 0))), (2, .ref xh), (3, .int (nI 32))]) (I := fun (i : Nat) => i ≤ 32) (μ := fun (i : Nat) => 32 - i) 0 (Nat.zero_le _) (fun i hi ih => ?_)
  try dsimp only at hi ih ⊢
  refine zs_iload hE 0 dX5_sheavesInDoubt_13 rfl ?_
  refine zs_iload_n hE 3 dX5_sheavesInDoubt_15 rfl rfl ?_
  refine zs_icmp_geN (tgt := 48) hE (by omega) (by decide) dX5_sheavesInDoubt_16 (by decide) (fun h => ?_) (fun h => ?_)
  · refine zs_iload_n hE 1 dX5_sheavesInDoubt_48 rfl rfl ?_
    refine zs_top (v' := .int (nI (sp_f sl (fun rs t => t + (if 1 < rs.length then 1 else 0)) 32 0))) (by rw [show i = 32 by omega]) ?_
    exact zs_iret hE hr (⟨rfl, rfl⟩) (by decide) (by decide) dX5_sheavesInDoubt_49
  · refine zs_aload_n hE 2 dX5_sheavesInDoubt_19 rfl rfl ?_
    refine zs_iload hE 0 dX5_sheavesInDoubt_20 rfl ?_
    refine zs_aald hE x6 rfl (by omega) (by decide) dX5_sheavesInDoubt_22 ?_
    refine zs_astoreq (lo' := [(5, va_rf (xf i)), (4, .int (nI i)), (1, .int (nI (sp_f sl (fun rs t => t + (if 1 < rs.length then 1 else 0)) i 0))), (2, .ref xh), (3, .int (nI 32))]) hE dX5_sheavesInDoubt_23 (by decide) rfl ?_
    refine zs_aloadq hE 0 dX5_sheavesInDoubt_25 rfl ?_
    have ho := x7 i h
    refine zs_ifnull (tgt := 42) hE dX5_sheavesInDoubt_27 (by decide) (fun h2 => ?_) (fun o h2 => ?_)
    · rw [h2] at ho
      refine zs_iincN (lo' := [(4, .int (nI (i + 1))), (5, va_rf (xf i)), (1, .int (nI (sp_f sl (fun rs t => t + (if 1 < rs.length then 1 else 0)) i 0))), (2, .ref xh), (3, .int (nI 32))]) hE 1 dX5_sheavesInDoubt_42 rfl (by decide) rfl ?_
      refine zs_goto (tgt := 13) hE dX5_sheavesInDoubt_45 (by decide) ?_
      refine zs_sub (lo' := [(4, .int (nI (i + 1))), (1, .int (nI (sp_f sl (fun rs t => t + (if 1 < rs.length then 1 else 0)) i 0))), (2, .ref xh), (3, .int (nI 32))]) [0, 2, 3, 4] rfl ?_
      refine zs_lo (lo' := [(4, .int (nI (i + 1))), (1, .int (nI (sp_f sl (fun rs t => t + (if 1 < rs.length then 1 else 0)) (i + 1) 0))), (2, .ref xh), (3, .int (nI 32))]) (by rw [sp_f0 ho.no]) ?_
      refine zs_sub (lo' := [(4, .int (nI (i + 1))), (1, .int (nI (sp_f sl (fun rs t => t + (if 1 < rs.length then 1 else 0)) (i + 1) 0))), (2, .ref xh), (3, .int (nI 32))]) [0, 1, 2, 3] rfl ?_
      exact ih (i + 1) (by omega) (by omega)
    · rw [h2] at ho
      obtain ⟨rs, e1, e2⟩ := ho.so
      obtain ⟨b, bf, c0, c1, -⟩ := e2.s0
      refine zs_lo (lo' := [(5, .ref o), (4, .int (nI i)), (1, .int (nI (sp_f sl (fun rs t => t + (if 1 < rs.length then 1 else 0)) i 0))), (2, .ref xh), (3, .int (nI 32))]) (by rw [h2]; rfl) ?_
      refine zs_aload hE 0 dX5_sheavesInDoubt_30 rfl ?_
      refine zs_get hE fl_X5_66 c1 rfl dX5_sheavesInDoubt_32 ?_
      refine zs_iconst (v := (nI 1)) hE dX5_sheavesInDoubt_35 (by decide) ?_
      refine zs_icmp_leN (tgt := 42) hE (by omega) (by decide) dX5_sheavesInDoubt_36 (by decide) (fun h3 => ?_) (fun h3 => ?_)
      · refine zs_iincN (lo' := [(4, .int (nI (i + 1))), (5, .ref o), (1, .int (nI (sp_f sl (fun rs t => t + (if 1 < rs.length then 1 else 0)) i 0))), (2, .ref xh), (3, .int (nI 32))]) hE 1 dX5_sheavesInDoubt_42 rfl (by decide) rfl ?_
        refine zs_goto (tgt := 13) hE dX5_sheavesInDoubt_45 (by decide) ?_
        refine zs_sub (lo' := [(4, .int (nI (i + 1))), (1, .int (nI (sp_f sl (fun rs t => t + (if 1 < rs.length then 1 else 0)) i 0))), (2, .ref xh), (3, .int (nI 32))]) [0, 2, 3, 4] rfl ?_
        refine zs_lo (lo' := [(4, .int (nI (i + 1))), (1, .int (nI (sp_f sl (fun rs t => t + (if 1 < rs.length then 1 else 0)) (i + 1) 0))), (2, .ref xh), (3, .int (nI 32))]) (by rw [sp_f1 e1, if_neg (by omega)]; rfl) ?_
        refine zs_sub (lo' := [(4, .int (nI (i + 1))), (1, .int (nI (sp_f sl (fun rs t => t + (if 1 < rs.length then 1 else 0)) (i + 1) 0))), (2, .ref xh), (3, .int (nI 32))]) [0, 1, 2, 3] rfl ?_
        exact ih (i + 1) (by omega) (by omega)
      · refine zs_iincN (lo' := [(1, .int (nI (sp_f sl (fun rs t => t + (if 1 < rs.length then 1 else 0)) i 0 + 1))), (5, .ref o), (4, .int (nI i)), (2, .ref xh), (3, .int (nI 32))]) hE 2 dX5_sheavesInDoubt_39 rfl (by decide) rfl ?_
        refine zs_iincN (lo' := [(4, .int (nI (i + 1))), (1, .int (nI (sp_f sl (fun rs t => t + (if 1 < rs.length then 1 else 0)) i 0 + 1))), (5, .ref o), (2, .ref xh), (3, .int (nI 32))]) hE 2 dX5_sheavesInDoubt_42 rfl (by decide) rfl ?_
        refine zs_goto (tgt := 13) hE dX5_sheavesInDoubt_45 (by decide) ?_
        refine zs_sub (lo' := [(4, .int (nI (i + 1))), (1, .int (nI (sp_f sl (fun rs t => t + (if 1 < rs.length then 1 else 0)) i 0 + 1))), (2, .ref xh), (3, .int (nI 32))]) [0, 1, 3, 4] rfl ?_
        refine zs_lo (lo' := [(4, .int (nI (i + 1))), (1, .int (nI (sp_f sl (fun rs t => t + (if 1 < rs.length then 1 else 0)) (i + 1) 0))), (2, .ref xh), (3, .int (nI 32))]) (by rw [sp_f1 e1, if_pos (by omega)]) ?_
        refine zs_sub (lo' := [(4, .int (nI (i + 1))), (1, .int (nI (sp_f sl (fun rs t => t + (if 1 < rs.length then 1 else 0)) (i + 1) 0))), (2, .ref xh), (3, .int (nI 32))]) [0, 1, 2, 3] rfl ?_
        exact ih (i + 1) (by omega) (by omega)

set_option maxHeartbeats 4000000 in
set_option maxRecDepth 100000 in
theorem m_X5_partsBy (D : va_G) (E : Nat → ClassId) (B : Nat) (l : Launch) (κ : Nat → Nat) (a num pn am ed : Nat) (wf : Int32) (sl : Nat → Option sp_Sh) (hed : ed < 64) : zs_Ct D E B l yX5_partsBy cX5_partsBy 7 (some .int) ({ frames := 2, cells := 0, slots := 0, locals := 45 } : Room) [.ref a, .int (nI ed)] (fun H => cs_ver D E κ H a num pn am wf sl) (zs_N) (zs_ro (.int (nI (sp_f sl (fun rs t => t + sp_sp ed rs) 32 0)))) := by
  refine zs_ct (by decide) (Nat.le_of_ble_eq_true rfl) (fun p e s m below meth c hE hr hin hp => ?_)
  refine zs_lo (lo' := [(0, .ref a), (1, .int (nI ed))]) rfl ?_
  obtain ⟨x0, x1, x2, x3, xh, xf, x4, ⟨x5, x6⟩, x7⟩ := hp
  refine zs_iconst (v := (nI 0)) hE dX5_partsBy_0 (by decide) ?_
  refine zs_istore_n (lo' := [(2, .int (nI 0)), (0, .ref a), (1, .int (nI ed))]) hE dX5_partsBy_1 rfl (by decide) rfl ?_
  refine zs_aload_n hE 1 dX5_partsBy_2 rfl rfl ?_
  refine zs_get hE fl_X5_11 x5 rfl dX5_partsBy_3 ?_
  refine zs_astore_n (lo' := [(3, .ref xh), (2, .int (nI 0)), (0, .ref a), (1, .int (nI ed))]) hE dX5_partsBy_6 rfl (by decide) rfl ?_
  refine zs_aload_n hE 0 dX5_partsBy_7 rfl rfl ?_
  refine zs_alen hE x6 rfl dX5_partsBy_8 ?_
  refine zs_istore (lo' := [(4, .int (nI 32)), (3, .ref xh), (2, .int (nI 0)), (0, .ref a), (1, .int (nI ed))]) hE dX5_partsBy_9 (by decide) rfl ?_
  refine zs_iconst (v := (nI 0)) hE dX5_partsBy_11 (by decide) ?_
  refine zs_istore (lo' := [(5, .int (nI 0)), (4, .int (nI 32)), (3, .ref xh), (2, .int (nI 0)), (0, .ref a), (1, .int (nI ed))]) hE dX5_partsBy_12 (by decide) rfl ?_
  refine zs_sub (lo' := [(5, .int (nI 0)), (2, .int (nI 0)), (3, .ref xh), (4, .int (nI 32)), (1, .int (nI ed))]) [0, 3, 2, 1, 5] rfl ?_
  refine zs_ind1 (Hs := fun (i : Nat) => s.heap) (ks := fun (i : Nat) => 0) (ns := fun (i : Nat) => 0) (los := fun (i : Nat) => [(5, .int (nI i)), (2, .int (nI (sp_f sl (fun rs t => t + sp_sp ed rs) i 0))), (3, .ref xh), (4, .int (nI 32)), (1, .int (nI ed))]) (I := fun (i : Nat) => i ≤ 32) (μ := fun (i : Nat) => 32 - i) 0 (Nat.zero_le _) (fun i hi ih => ?_)
  try dsimp only at hi ih ⊢
  refine zs_iload hE 0 dX5_partsBy_14 rfl ?_
  refine zs_iload hE 3 dX5_partsBy_16 rfl ?_
  refine zs_icmp_geN (tgt := 47) hE (by omega) (by decide) dX5_partsBy_18 (by decide) (fun h => ?_) (fun h => ?_)
  · refine zs_iload_n hE 1 dX5_partsBy_47 rfl rfl ?_
    refine zs_top (v' := .int (nI (sp_f sl (fun rs t => t + sp_sp ed rs) 32 0))) (by rw [show i = 32 by omega]) ?_
    exact zs_iret hE hr (⟨rfl, rfl⟩) (by decide) (by decide) dX5_partsBy_48
  · refine zs_aload_n hE 2 dX5_partsBy_21 rfl rfl ?_
    refine zs_iload hE 0 dX5_partsBy_22 rfl ?_
    refine zs_aald hE x6 rfl (by omega) (by decide) dX5_partsBy_24 ?_
    refine zs_astoreq (lo' := [(6, va_rf (xf i)), (5, .int (nI i)), (2, .int (nI (sp_f sl (fun rs t => t + sp_sp ed rs) i 0))), (3, .ref xh), (4, .int (nI 32)), (1, .int (nI ed))]) hE dX5_partsBy_25 (by decide) rfl ?_
    refine zs_aloadq hE 0 dX5_partsBy_27 rfl ?_
    have ho := x7 i h
    refine zs_ifnull (tgt := 41) hE dX5_partsBy_29 (by decide) (fun h2 => ?_) (fun o h2 => ?_)
    · rw [h2] at ho
      refine zs_iincN (lo' := [(5, .int (nI (i + 1))), (6, va_rf (xf i)), (2, .int (nI (sp_f sl (fun rs t => t + sp_sp ed rs) i 0))), (3, .ref xh), (4, .int (nI 32)), (1, .int (nI ed))]) hE 1 dX5_partsBy_41 rfl (by decide) rfl ?_
      refine zs_goto (tgt := 14) hE dX5_partsBy_44 (by decide) ?_
      refine zs_sub (lo' := [(5, .int (nI (i + 1))), (2, .int (nI (sp_f sl (fun rs t => t + sp_sp ed rs) i 0))), (3, .ref xh), (4, .int (nI 32)), (1, .int (nI ed))]) [0, 2, 3, 4, 5] rfl ?_
      refine zs_lo (lo' := [(5, .int (nI (i + 1))), (2, .int (nI (sp_f sl (fun rs t => t + sp_sp ed rs) (i + 1) 0))), (3, .ref xh), (4, .int (nI 32)), (1, .int (nI ed))]) (by rw [sp_f0 ho.no]) ?_
      refine zs_sub (lo' := [(5, .int (nI (i + 1))), (2, .int (nI (sp_f sl (fun rs t => t + sp_sp ed rs) (i + 1) 0))), (3, .ref xh), (4, .int (nI 32)), (1, .int (nI ed))]) [0, 1, 2, 3, 4] rfl ?_
      exact ih (i + 1) (by omega) (by omega)
    · rw [h2] at ho
      obtain ⟨rs, e1, e2⟩ := ho.so
      obtain ⟨b, bf, c0, c1, -⟩ := e2.s0
      refine zs_lo (lo' := [(6, .ref o), (5, .int (nI i)), (2, .int (nI (sp_f sl (fun rs t => t + sp_sp ed rs) i 0))), (3, .ref xh), (4, .int (nI 32)), (1, .int (nI ed))]) (by rw [h2]; rfl) ?_
      refine zs_iload_n hE 2 dX5_partsBy_32 rfl rfl ?_
      refine zs_aload hE 0 dX5_partsBy_33 rfl ?_
      refine zs_iload_n hE 5 dX5_partsBy_35 rfl rfl ?_
      refine zs_callVR (av := [.int (nI ed)]) (st := [.int (nI (sp_f sl (fun rs t => t + sp_sp ed rs) i 0))]) (b := o) hE (m_X4_partsBy D E B l κ o ed rs hed) rfl rfl sV_X5_81 c1 rfl rfl (e2) ⟨by decide, by decide⟩ ⟨by decide, by decide⟩ (Nat.le_of_ble_eq_true rfl) dX5_partsBy_36 ?_
      refine zs_iaddN hE dX5_partsBy_39 ?_
      refine zs_istore_n (lo' := [(2, .int (nI (sp_f sl (fun rs t => t + sp_sp ed rs) i 0 + (sp_sp ed rs)))), (6, .ref o), (5, .int (nI i)), (3, .ref xh), (4, .int (nI 32)), (1, .int (nI ed))]) hE dX5_partsBy_40 rfl (by decide) rfl ?_
      refine zs_iincN (lo' := [(5, .int (nI (i + 1))), (2, .int (nI (sp_f sl (fun rs t => t + sp_sp ed rs) i 0 + (sp_sp ed rs)))), (6, .ref o), (3, .ref xh), (4, .int (nI 32)), (1, .int (nI ed))]) hE 2 dX5_partsBy_41 rfl (by decide) rfl ?_
      refine zs_goto (tgt := 14) hE dX5_partsBy_44 (by decide) ?_
      refine zs_sub (lo' := [(5, .int (nI (i + 1))), (2, .int (nI (sp_f sl (fun rs t => t + sp_sp ed rs) i 0 + (sp_sp ed rs)))), (3, .ref xh), (4, .int (nI 32)), (1, .int (nI ed))]) [0, 1, 3, 4, 5] rfl ?_
      refine zs_lo (lo' := [(5, .int (nI (i + 1))), (2, .int (nI (sp_f sl (fun rs t => t + sp_sp ed rs) (i + 1) 0))), (3, .ref xh), (4, .int (nI 32)), (1, .int (nI ed))]) (by rw [sp_f1 e1]) ?_
      refine zs_sub (lo' := [(5, .int (nI (i + 1))), (2, .int (nI (sp_f sl (fun rs t => t + sp_sp ed rs) (i + 1) 0))), (3, .ref xh), (4, .int (nI 32)), (1, .int (nI ed))]) [0, 1, 2, 3, 4] rfl ?_
      exact ih (i + 1) (by omega) (by omega)

set_option maxHeartbeats 4000000 in
set_option maxRecDepth 100000 in
theorem m_X5_sum (D : va_G) (E : Nat → ClassId) (B : Nat) (l : Launch) (κ : Nat → Nat) (a num pn am : Nat) (wf : Int32) (sl : Nat → Option sp_Sh) : zs_Ct D E B l yX5_sum cX5_sum 7 (some .long) ({ frames := 2, cells := 0, slots := 0, locals := 54 } : Room) [.ref a] (fun H => cs_ver D E κ H a num pn am wf sl) (zs_N) (zs_ro (.long (sp_f sl (fun rs t => sp_ss rs t rs.length) 32 7))) := by
  refine zs_ct (by decide) (Nat.le_of_ble_eq_true rfl) (fun p e s m below meth c hE hr hin hp => ?_)
  refine zs_lo (lo' := [(0, .ref a)]) rfl ?_
  obtain ⟨x0, x1, x2, x3, xh, xf, x4, ⟨x5, x6⟩, x7⟩ := hp
  refine zs_ldc2 hE k_X5_85 dX5_sum_0 ?_
  refine zs_lstore_n (lo' := [(1, .long (7 : Int64)), (0, .ref a)]) hE dX5_sum_3 rfl (by decide) rfl ?_
  refine zs_aload_n hE 1 dX5_sum_4 rfl rfl ?_
  refine zs_get hE fl_X5_11 x5 rfl dX5_sum_5 ?_
  refine zs_astore_n (lo' := [(3, .ref xh), (1, .long (7 : Int64)), (0, .ref a)]) hE dX5_sum_8 rfl (by decide) rfl ?_
  refine zs_aload_n hE 0 dX5_sum_9 rfl rfl ?_
  refine zs_alen hE x6 rfl dX5_sum_10 ?_
  refine zs_istore (lo' := [(4, .int (nI 32)), (3, .ref xh), (1, .long (7 : Int64)), (0, .ref a)]) hE dX5_sum_11 (by decide) rfl ?_
  refine zs_iconst (v := (nI 0)) hE dX5_sum_13 (by decide) ?_
  refine zs_istore (lo' := [(5, .int (nI 0)), (4, .int (nI 32)), (3, .ref xh), (1, .long (7 : Int64)), (0, .ref a)]) hE dX5_sum_14 (by decide) rfl ?_
  refine zs_sub (lo' := [(5, .int (nI 0)), (1, .long (7 : Int64)), (3, .ref xh), (4, .int (nI 32))]) [0, 3, 2, 1] rfl ?_
  refine zs_ind1 (Hs := fun (i : Nat) => s.heap) (ks := fun (i : Nat) => 0) (ns := fun (i : Nat) => 0) (los := fun (i : Nat) => [(5, .int (nI i)), (1, .long (sp_f sl (fun rs t => sp_ss rs t rs.length) i 7)), (3, .ref xh), (4, .int (nI 32))]) (I := fun (i : Nat) => i ≤ 32) (μ := fun (i : Nat) => 32 - i) 0 (Nat.zero_le _) (fun i hi ih => ?_)
  try dsimp only at hi ih ⊢
  refine zs_iload hE 0 dX5_sum_16 rfl ?_
  refine zs_iload hE 3 dX5_sum_18 rfl ?_
  refine zs_icmp_geN (tgt := 47) hE (by omega) (by decide) dX5_sum_20 (by decide) (fun h => ?_) (fun h => ?_)
  · refine zs_lload_n hE 1 dX5_sum_47 rfl rfl ?_
    refine zs_top (v' := .long (sp_f sl (fun rs t => sp_ss rs t rs.length) 32 7)) (by rw [show i = 32 by omega]) ?_
    exact zs_lret hE hr (⟨rfl, rfl⟩) (by decide) (by decide) dX5_sum_48
  · refine zs_aload_n hE 2 dX5_sum_23 rfl rfl ?_
    refine zs_iload hE 0 dX5_sum_24 rfl ?_
    refine zs_aald hE x6 rfl (by omega) (by decide) dX5_sum_26 ?_
    refine zs_astoreq (lo' := [(6, va_rf (xf i)), (5, .int (nI i)), (1, .long (sp_f sl (fun rs t => sp_ss rs t rs.length) i 7)), (3, .ref xh), (4, .int (nI 32))]) hE dX5_sum_27 (by decide) rfl ?_
    refine zs_aloadq hE 0 dX5_sum_29 rfl ?_
    have ho := x7 i h
    refine zs_ifnull (tgt := 41) hE dX5_sum_31 (by decide) (fun h2 => ?_) (fun o h2 => ?_)
    · rw [h2] at ho
      refine zs_iincN (lo' := [(5, .int (nI (i + 1))), (6, va_rf (xf i)), (1, .long (sp_f sl (fun rs t => sp_ss rs t rs.length) i 7)), (3, .ref xh), (4, .int (nI 32))]) hE 1 dX5_sum_41 rfl (by decide) rfl ?_
      refine zs_goto (tgt := 16) hE dX5_sum_44 (by decide) ?_
      refine zs_sub (lo' := [(5, .int (nI (i + 1))), (1, .long (sp_f sl (fun rs t => sp_ss rs t rs.length) i 7)), (3, .ref xh), (4, .int (nI 32))]) [0, 2, 3, 4] rfl ?_
      refine zs_lo (lo' := [(5, .int (nI (i + 1))), (1, .long (sp_f sl (fun rs t => sp_ss rs t rs.length) (i + 1) 7)), (3, .ref xh), (4, .int (nI 32))]) (by rw [sp_f0 ho.no]) ?_
      refine zs_sub (lo' := [(5, .int (nI (i + 1))), (1, .long (sp_f sl (fun rs t => sp_ss rs t rs.length) (i + 1) 7)), (3, .ref xh), (4, .int (nI 32))]) [0, 1, 2, 3] rfl ?_
      exact ih (i + 1) (by omega) (by omega)
    · rw [h2] at ho
      obtain ⟨rs, e1, e2⟩ := ho.so
      obtain ⟨b, bf, c0, c1, -⟩ := e2.s0
      refine zs_lo (lo' := [(6, .ref o), (5, .int (nI i)), (1, .long (sp_f sl (fun rs t => sp_ss rs t rs.length) i 7)), (3, .ref xh), (4, .int (nI 32))]) (by rw [h2]; rfl) ?_
      refine zs_aload hE 0 dX5_sum_34 rfl ?_
      refine zs_lload_n hE 2 dX5_sum_36 rfl rfl ?_
      refine zs_callVR (av := [.long (sp_f sl (fun rs t => sp_ss rs t rs.length) i 7)]) (st := []) (b := o) hE (m_X4_sumOnto D E B l κ o (sp_f sl (fun rs t => sp_ss rs t rs.length) i 7) rs) rfl rfl sV_X5_87 c1 rfl rfl (e2) ⟨by decide, by decide⟩ ⟨by decide, by decide⟩ (Nat.le_of_ble_eq_true rfl) dX5_sum_37 ?_
      refine zs_lstore_n (lo' := [(1, .long (sp_ss rs (sp_f sl (fun rs t => sp_ss rs t rs.length) i 7) rs.length)), (6, .ref o), (5, .int (nI i)), (3, .ref xh), (4, .int (nI 32))]) hE dX5_sum_40 rfl (by decide) rfl ?_
      refine zs_iincN (lo' := [(5, .int (nI (i + 1))), (1, .long (sp_ss rs (sp_f sl (fun rs t => sp_ss rs t rs.length) i 7) rs.length)), (6, .ref o), (3, .ref xh), (4, .int (nI 32))]) hE 2 dX5_sum_41 rfl (by decide) rfl ?_
      refine zs_goto (tgt := 16) hE dX5_sum_44 (by decide) ?_
      refine zs_sub (lo' := [(5, .int (nI (i + 1))), (1, .long (sp_ss rs (sp_f sl (fun rs t => sp_ss rs t rs.length) i 7) rs.length)), (3, .ref xh), (4, .int (nI 32))]) [0, 1, 3, 4] rfl ?_
      refine zs_lo (lo' := [(5, .int (nI (i + 1))), (1, .long (sp_f sl (fun rs t => sp_ss rs t rs.length) (i + 1) 7)), (3, .ref xh), (4, .int (nI 32))]) (by rw [sp_f1 e1]) ?_
      refine zs_sub (lo' := [(5, .int (nI (i + 1))), (1, .long (sp_f sl (fun rs t => sp_ss rs t rs.length) (i + 1) 7)), (3, .ref xh), (4, .int (nI 32))]) [0, 1, 2, 3] rfl ?_
      exact ih (i + 1) (by omega) (by omega)


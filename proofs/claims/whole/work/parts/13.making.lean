/-! making versions -/
section ZO
variable {D : va_G} {E : Nat → ClassId} {B : Nat} {A : Nat → Prop} {p : Program} {l : Launch} {e : Env} {R : Room} {s : State} {m : MethodId} {args : Array Value} {below : List Frame} {meth : Method} {c : Code} {nL : Nat} {Q : State → Prop} {H : Heap} {k n pc : Nat} {lo lo' : List (Nat × Value)} {st : List Value} {cc : ByteArray} {own : String}
theorem zs_aastO (hE : zs_E D E B A s m args meth c p cc nL own) {a t N j ci : Nat} {x : Option Nat} {r : vw_C} {f : Nat → Option Nat} (hp : zs_pt D a (.inl (E t, N, .inr (.inr (.inr (.inr f))))) H) (ht : (zs_T E)[t]? = some (E t, .object r.1)) (hv : ∀ v, x = some v → ∃ vs, zs_pt D v (.inr (ci, vs)) H) (hc : zs_C[ci]? = some r) (hA : A a) (hj : j < N) (hN : N < 2 ^ 31) (hd : decode cc pc = .ok (.aastore, 1)) (K : ∀ H1 : Heap, zs_pt D a (.inl (E t, N, .inr (.inr (.inr (.inr (va_up f j x)))))) H1 → H1.size = H.size → (∀ q, q ≠ a → H1[q]? = H[q]?) → zs_W A p l e R s m args below meth c nL Q H1 k n (pc + 1) lo st) : zs_W A p l e R s m args below meth c nL Q H k n pc lo (va_rf x :: .int (nI j) :: .ref a :: st) := by
  cases x with
  | none => exact zs_aastN hE hp ht hA hj hN hd K
  | some v =>
    obtain ⟨vs, hv⟩ := hv v rfl
    exact zs_aast hE hp ht hv hc hA hj hN hd K
end ZO
theorem cs_row.kap {D : va_G} {E : Nat → ClassId} {κ κ' : Nat → Nat} {H : Heap} {a : Nat} {r : sp_R} (h : cs_row D E κ H a r) (hk : ∀ q, q < H.size → κ q = 0 → κ' q = 0) : cs_row D E κ' H a r := by
  obtain ⟨h0, h1, n, h2, h3, h4⟩ := h
  exact ⟨h0, hk _ h3.lt h1, n, hk _ h4.lt h2, h3, h4⟩
theorem cs_sh.kap {D : va_G} {E : Nat → ClassId} {κ κ' : Nat → Nat} {H : Heap} {a : Nat} {r : sp_Sh} (h : cs_sh D E κ H a r) (hk : ∀ q, q < H.size → κ q = 0 → κ' q = 0) : cs_sh D E κ' H a r := by
  obtain ⟨h0, h1, n, f, h2, h3, h4, h5⟩ := h
  exact ⟨h0, hk _ h3.lt h1, n, f, hk _ h4.lt h2, h3, h4, fun j hj => (h5 j hj).imp fun b z => ⟨z.1, z.2.kap hk⟩⟩
theorem cs_os.kap {D : va_G} {E : Nat → ClassId} {κ κ' : Nat → Nat} {H : Heap} {o : Option Nat} {t : Option sp_Sh} (h : cs_os D E κ H o t) (hk : ∀ q, q < H.size → κ q = 0 → κ' q = 0) : cs_os D E κ' H o t := ⟨h.1, fun rs q => (h.2 rs q).imp fun a z => ⟨z.1, z.2.kap hk⟩⟩
theorem cs_vs.kap {D : va_G} {E : Nat → ClassId} {κ κ' : Nat → Nat} {H : Heap} {f : Nat → Option Nat} {t : Nat → Option sp_Sh} (h : cs_vs D E κ H f t) (hk : ∀ q, q < H.size → κ q = 0 → κ' q = 0) : cs_vs D E κ' H f t := fun j hj => (h j hj).kap hk
theorem ifc {α : Type} {P Q : Prop} {hP : Decidable P} {hQ : Decidable Q} {x y : α} (h : P ↔ Q) : @ite α P hP x y = @ite α Q hQ x y := by
  by_cases q : P
  · rw [if_pos q, if_pos (h.mp q)]
  · rw [if_neg q, if_neg (fun z => q (h.mpr z))]
theorem hk_all {F : Nat → Prop} {H H1 : Heap} (hz : H1.size = H.size) (hk : ∀ q, q < H.size → ¬ F q → H1[q]? = H[q]?) : ∀ q, ¬ F q → H1[q]? = H[q]? := fun q hq => by
  rcases Nat.lt_or_ge q H.size with h | h
  · exact hk q h hq
  · rw [Array.getElem?_eq_none (by omega), Array.getElem?_eq_none h]
theorem cs_os.ob {D : va_G} {E : Nat → ClassId} {κ : Nat → Nat} {H : Heap} {o : Option Nat} {t : Option sp_Sh} (h : cs_os D E κ H o t) : ∀ v, o = some v → ∃ vs, zs_pt D v (.inr (4, vs)) H := by
  intro v e
  subst e
  obtain ⟨rs, -, q⟩ := h.so
  obtain ⟨x, f, -, q1, -⟩ := q.s0
  exact ⟨_, q1⟩

set_option maxHeartbeats 4000000 in
set_option maxRecDepth 100000 in
theorem m_X5_both (D : va_G) (E : Nat → ClassId) (B : Nat) (l : Launch) (κ : Nat → Nat) (a b : Nat) (rs ts : sp_Sh) : zs_Ct D E B l yX5_both cX5_both 4 (some (.object "ScoreSheaf$Sheaf")) ({ frames := 3, cells := 2, slots := 6, locals := 68 } : Room) [.ref a, .ref b] (fun H => cs_sh D E κ H a rs ∧ cs_sh D E κ H b ts ∧ ∀ q, H.size ≤ q → κ q = 0) (zs_N) (fun v H H1 => ∃ q : Nat, v = some (.ref q) ∧ H.size ≤ q ∧ H1.size = H.size + 2 ∧ cs_sh D E κ H1 q (sp_jn rs ts ts.length)) := by
  refine zs_ct (by decide) (Nat.le_of_ble_eq_true rfl) (fun p e s m below meth c hE hr hin hp => ?_)
  refine zs_lo (lo' := [(0, .ref a), (1, .ref b)]) rfl ?_
  obtain ⟨ha, hb, hκ⟩ := hp
  obtain ⟨xh, xf, x0, x1, x2, x3⟩ := ha.s0
  refine zs_aload_n hE 0 dX5_both_0 rfl rfl ?_
  refine zs_ifnullR hE dX5_both_1 ?_
  refine zs_aload_n hE 1 dX5_both_4 rfl rfl ?_
  refine zs_ifnonnullR (tgt := 10) hE dX5_both_5 (by decide) ?_
  refine zs_new (fs := [.null, .int 0]) hE nl_X5_9 (fun j hj => by rcases (show j = 0 ∨ j = 1 by omega) with rfl | rfl <;> rfl) (by decide) (by decide) dX5_both_10 (fun q1 H1 hq1 hp1 hz1 ho1 => ?_)
  refine zs_widen (k' := 1) (n' := 2) (by omega) (by omega) ?_
  refine zs_dup hE dX5_both_13 rfl ?_
  refine zs_callIN (ret := none) (av := []) (st := [.ref q1]) hE (m_X4_init D E B l q1) sIN_X5_65 (hp1) ⟨by decide, by decide⟩ ⟨by decide, by decide⟩ (fun q h => Or.inr (by omega)) (Nat.le_of_ble_eq_true rfl) dX5_both_14 (fun v2 H2 hv2 hz2 hk2 => ?_)
  obtain ⟨rfl, g, cz, cs, c1, c2⟩ := hv2
  refine zs_widen (k' := 2) (n' := 6) (by decide) (by decide) ?_
  have hoo : ∀ q, q < s.heap.size → H2[q]? = s.heap[q]? := fun q z => (hk2 q (by omega) (fun w => by omega)).trans (ho1 q z)
  refine zs_astore_n (lo' := [(2, .ref q1), (0, .ref a), (1, .ref b)]) hE dX5_both_17 rfl (by decide) rfl ?_
  refine zs_iconst (v := (nI 0)) hE dX5_both_18 (by decide) ?_
  refine zs_istore_n (lo' := [(3, .int (nI 0)), (2, .ref q1), (0, .ref a), (1, .ref b)]) hE dX5_both_19 rfl (by decide) rfl ?_
  refine zs_sub (lo' := [(3, .int (nI 0)), (0, .ref a), (1, .ref b), (2, .ref q1)]) [0, 2, 3, 1] rfl ?_
  refine zs_ind3 (Hs := fun (i : Nat) (K : Heap) (f : Nat → Option Nat) => K) (ks := fun (i : Nat) (K : Heap) (f : Nat → Option Nat) => 2) (ns := fun (i : Nat) (K : Heap) (f : Nat → Option Nat) => 6) (los := fun (i : Nat) (K : Heap) (f : Nat → Option Nat) => [(3, .int (nI i)), (0, .ref a), (1, .ref b), (2, .ref q1)]) (I := fun (i : Nat) (K : Heap) (f : Nat → Option Nat) => i ≤ rs.length ∧ zs_pt D q1 (.inr (4, [.ref g, .int (nI i)])) K ∧ zs_pt D g (.inl (E 10, 4, .inr (.inr (.inr (.inr f))))) K ∧ (∀ j, j < i → f j = xf j) ∧ K.size = s.heap.size + 2 ∧ ∀ q, q < s.heap.size → K[q]? = s.heap[q]?) (μ := fun (i : Nat) (K : Heap) (f : Nat → Option Nat) => rs.length - i) 0 H2 (fun _ => none) (⟨Nat.zero_le _, c1, c2, fun j hj => absurd hj (Nat.not_lt_zero _), by omega, hoo⟩) (fun i K f hi ih => ?_)
  try dsimp only at hi ih ⊢
  obtain ⟨hi0, k1, k2, k3, hz, hoK⟩ := hi
  have x1 := x1.kept (hoK _ x1.lt)
  have x2 := x2.kept (hoK _ x2.lt)
  refine zs_iload_n hE 0 dX5_both_20 rfl rfl ?_
  refine zs_aload_n hE 1 dX5_both_21 rfl rfl ?_
  refine zs_get hE fl_X5_66 x1 rfl dX5_both_22 ?_
  refine zs_icmp_geN (tgt := 43) hE (by omega) (by omega) dX5_both_25 (by decide) (fun h3 => ?_) (fun h3 => ?_)
  · have e : i = rs.length := by omega
    subst e
    have hmk : cs_mk D E κ s.heap K q1 g rs := ⟨x0, k1, f, k2, fun j hj => by rw [k3 j hj]; exact x3 j hj⟩
    refine zs_aload_n hE 3 dX5_both_43 rfl rfl ?_
    refine zs_aload_n hE 2 dX5_both_44 rfl rfl ?_
    refine zs_callV (av := [.ref b]) (st := []) hE (m_X4_takeUnlike D E B l κ s.heap q1 g b rs ts (by omega) (by omega) (by omega)) sV_X5_77 k1 rfl rfl (⟨hmk, hb, by omega, hoK⟩) ⟨by decide, by decide⟩ ⟨by decide, by decide⟩ (fun q h => Or.inr (by rcases h with h | h <;> omega)) (Nat.le_of_ble_eq_true rfl) dX5_both_45 (fun v3 H3 hv3 hz3 hk3 => ?_)
    obtain ⟨rfl, dz, d0⟩ := hv3
    refine zs_widen (k' := 2) (n' := 6) (by decide) (by decide) ?_
    refine zs_aload_n hE 3 dX5_both_48 rfl rfl ?_
    refine zs_top (v' := va_rf (some q1)) rfl ?_
    exact zs_aret hE hr (by first | exact Or.inl ⟨_, rfl⟩ | exact Or.inr ⟨_, rfl⟩) (⟨q1, rfl, by omega, by omega, d0.sh (hκ _ (by omega)) (hκ _ (by omega)) (fun q z _ => (hk3 q (by omega) (fun w => by rcases w with w | w <;> omega)).trans (hoK q z))⟩) (by decide) (by decide) dX5_both_49
  · refine zs_aload_n hE 3 dX5_both_28 rfl rfl ?_
    refine zs_aload_n hE 1 dX5_both_29 rfl rfl ?_
    refine zs_iload_n hE 0 dX5_both_30 rfl rfl ?_
    refine zs_callVR (av := [.int (nI i)]) (st := [.ref q1]) (b := a) hE (m_X4_rowAt D E B l a xh rs.length xf (nI i) x0) rfl rfl sV_X5_69 x1 rfl rfl (⟨x1, x2⟩) ⟨by decide, by decide⟩ ⟨by decide, by decide⟩ (Nat.le_of_ble_eq_true rfl) dX5_both_31 ?_
    obtain ⟨b2, b2e, b2r⟩ := x3 i (by omega)
    refine zs_top (v' := .ref b2) (sp_at_in (by omega) (by omega) b2e) ?_
    obtain ⟨-, -, b2n, -, b2p, -⟩ := id b2r
    have b2p := b2p.kept (hoK _ b2p.lt)
    refine zs_callV (av := [.ref b2]) (st := []) hE (m_X4_take D E B l q1 g i b2 f _ (by omega) (by omega)) sV_X5_73 k1 rfl rfl (⟨k1, k2, b2p⟩) ⟨by decide, by decide⟩ ⟨by decide, by decide⟩ (fun q h => Or.inr (by rcases h with h | h <;> omega)) (Nat.le_of_ble_eq_true rfl) dX5_both_34 (fun v4 H4 hv4 hz4 hk4 => ?_)
    obtain ⟨rfl, dz, -, d0⟩ := hv4
    refine zs_widen (k' := 2) (n' := 6) (by decide) (by decide) ?_
    obtain ⟨d1, d2⟩ := d0 (by omega)
    refine zs_iincN (lo' := [(3, .int (nI (i + 1))), (0, .ref a), (1, .ref b), (2, .ref q1)]) hE 0 dX5_both_37 rfl (by decide) rfl ?_
    refine zs_goto (tgt := 20) hE dX5_both_40 (by decide) ?_
    refine zs_sub (lo' := [(3, .int (nI (i + 1))), (0, .ref a), (1, .ref b), (2, .ref q1)]) [0, 1, 2, 3] rfl ?_
    exact ih (i + 1) H4 (va_up f i (some b2)) (⟨by omega, d1, d2, fun j hj => by rcases Nat.lt_or_ge j i with z | z; rw [va_up, if_neg (by omega)]; exact k3 j z; rw [show j = i by omega, va_up, if_pos rfl, b2e], by omega, fun q z => (hk4 q (by omega) (fun w => by rcases w with w | w <;> omega)).trans (hoK q z)⟩) (by omega)

theorem cs_sh.nol {D : va_G} {E : Nat → ClassId} {κ : Nat → Nat} {H : Heap} {a : Nat} {rs : sp_Sh} (h : cs_sh D E κ H a rs) : sp_no rs ≤ 32 := by
  obtain ⟨n, f, h1, -, -, h4⟩ := h.s0
  have := sm_le (f := fun k => (rs.getD k sp_d0).2.length) (c := 8) (n := rs.length) (fun j hj => by obtain ⟨b, -, ⟨-, q, -⟩, -⟩ := h4 j hj; exact q)
  show sm _ _ ≤ 32
  omega
set_option maxHeartbeats 4000000 in
set_option maxRecDepth 100000 in
theorem m_X5_fuller (D : va_G) (E : Nat → ClassId) (B : Nat) (l : Launch) (κ : Nat → Nat) (a b : Nat) (rs ts : sp_Sh) : zs_Ct D E B l yX5_fuller cX5_fuller 2 (some (.object "ScoreSheaf$Sheaf")) ({ frames := 3, cells := 0, slots := 0, locals := 65 } : Room) [.ref a, .ref b] (fun H => cs_sh D E κ H a rs ∧ cs_sh D E κ H b ts) (zs_N) (zs_ro (va_rf (if sp_no rs < sp_no ts then some b else some a))) := by
  refine zs_ct (by decide) (Nat.le_of_ble_eq_true rfl) (fun p e s m below meth c hE hr hin hp => ?_)
  refine zs_lo (lo' := [(0, .ref a), (1, .ref b)]) rfl ?_
  obtain ⟨ha, hb⟩ := hp
  obtain ⟨xh, xf, x0, x1, x2, x3⟩ := ha.s0
  obtain ⟨yh, yf, y0, y1, y2, y3⟩ := hb.s0
  have bx := cs_sh.nol ha
  have bx2 := cs_sh.nol hb
  refine zs_aload_n hE 0 dX5_fuller_0 rfl rfl ?_
  refine zs_ifnullR hE dX5_fuller_1 ?_
  refine zs_aload_n hE 1 dX5_fuller_4 rfl rfl ?_
  refine zs_ifnonnullR (tgt := 10) hE dX5_fuller_5 (by decide) ?_
  refine zs_aload_n hE 1 dX5_fuller_10 rfl rfl ?_
  refine zs_callVR (av := []) (st := []) (b := b) hE (m_X4_notesInAll D E B l κ b ts) rfl rfl sV_X5_61 y1 rfl rfl (hb) ⟨by decide, by decide⟩ ⟨by decide, by decide⟩ (Nat.le_of_ble_eq_true rfl) dX5_fuller_11 ?_
  refine zs_aload_n hE 0 dX5_fuller_14 rfl rfl ?_
  refine zs_callVR (av := []) (st := [.int (nI (sp_no ts))]) (b := a) hE (m_X4_notesInAll D E B l κ a rs) rfl rfl sV_X5_61 x1 rfl rfl (ha) ⟨by decide, by decide⟩ ⟨by decide, by decide⟩ (Nat.le_of_ble_eq_true rfl) dX5_fuller_15 ?_
  refine zs_icmp_leN (tgt := 25) hE (by omega) (by omega) dX5_fuller_18 (by decide) (fun h => ?_) (fun h => ?_)
  · refine zs_aload_n hE 0 dX5_fuller_25 rfl rfl ?_
    refine zs_top (v' := va_rf (if sp_no rs < sp_no ts then some b else some a)) (by rw [if_neg (by omega)]; rfl) ?_
    exact zs_aret hE hr (by first | exact Or.inl ⟨_, rfl⟩ | exact Or.inr ⟨_, rfl⟩) (⟨rfl, rfl⟩) (by decide) (by decide) dX5_fuller_26
  · refine zs_aload_n hE 1 dX5_fuller_21 rfl rfl ?_
    refine zs_goto (tgt := 26) hE dX5_fuller_22 (by decide) ?_
    refine zs_top (v' := va_rf (if sp_no rs < sp_no ts then some b else some a)) (by rw [if_pos h]; rfl) ?_
    exact zs_aret hE hr (by first | exact Or.inl ⟨_, rfl⟩ | exact Or.inr ⟨_, rfl⟩) (⟨rfl, rfl⟩) (by decide) (by decide) dX5_fuller_26

set_option maxHeartbeats 4000000 in
set_option maxRecDepth 100000 in
theorem m_X5_copySheaves (D : va_G) (E : Nat → ClassId) (B : Nat) (l : Launch) (a h b g n1 p1 a1 n2 p2 a2 : Nat) (w1 w2 : Int32) (f0 f : Nat → Option Nat) (hah : a ≠ h) (hbh : b ≠ h) (hgh : g ≠ h) : zs_Ct D E B l yX5_copySheaves cX5_copySheaves 3 none ({ frames := 0, cells := 0, slots := 0, locals := 0 } : Room) [.ref a, .ref b] (fun H => cs_v0 D E H a h n1 p1 a1 w1 f0 ∧ cs_v0 D E H b g n2 p2 a2 w2 f ∧ ∀ j, j < 32 → ∀ v, f j = some v → v ≠ h ∧ ∃ vs, zs_pt D v (.inr (4, vs)) H) (fun q => q = h) (fun v H H1 => v = none ∧ H1.size = H.size ∧ ∃ f1, (∀ j, j < 32 → f1 j = f j) ∧ cs_v0 D E H1 a h n1 p1 a1 w1 f1) := by
  refine zs_ct (by decide) (Nat.le_of_ble_eq_true rfl) (fun p e s m below meth c hE hr hin hp => ?_)
  refine zs_lo (lo' := [(0, .ref a), (1, .ref b)]) rfl ?_
  obtain ⟨⟨x5, x6⟩, ⟨y5, y6⟩, hf⟩ := hp
  refine zs_iconst (v := (nI 0)) hE dX5_copySheaves_0 (by decide) ?_
  refine zs_istore_n (lo' := [(2, .int (nI 0)), (0, .ref a), (1, .ref b)]) hE dX5_copySheaves_1 rfl (by decide) rfl ?_
  refine zs_sub (lo' := [(2, .int (nI 0)), (0, .ref a), (1, .ref b)]) [0, 1, 2] rfl ?_
  refine zs_ind3 (Hs := fun (i : Nat) (K : Heap) (f1 : Nat → Option Nat) => K) (ks := fun (i : Nat) (K : Heap) (f1 : Nat → Option Nat) => 0) (ns := fun (i : Nat) (K : Heap) (f1 : Nat → Option Nat) => 0) (los := fun (i : Nat) (K : Heap) (f1 : Nat → Option Nat) => [(2, .int (nI i)), (0, .ref a), (1, .ref b)]) (I := fun (i : Nat) (K : Heap) (f1 : Nat → Option Nat) => i ≤ 32 ∧ K.size = s.heap.size ∧ (∀ q, q ≠ h → K[q]? = s.heap[q]?) ∧ zs_pt D h (.inl (E 9, 32, .inr (.inr (.inr (.inr f1))))) K ∧ ∀ j, j < i → f1 j = f j) (μ := fun (i : Nat) (K : Heap) (f1 : Nat → Option Nat) => 32 - i) 0 s.heap f0 (⟨Nat.zero_le _, rfl, fun _ _ => rfl, x6, fun j hj => absurd hj (Nat.not_lt_zero _)⟩) (fun i K f1 hi ih => ?_)
  try dsimp only at hi ih ⊢
  obtain ⟨i32, hz, hoK, k6, k7⟩ := hi
  have x5 := x5.kept (hoK _ hah)
  have y5 := y5.kept (hoK _ hbh)
  have y6 := y6.kept (hoK _ hgh)
  refine zs_iload_n hE 0 dX5_copySheaves_2 rfl rfl ?_
  refine zs_bipush (v := (nI 32)) hE dX5_copySheaves_3 (by decide) ?_
  refine zs_icmp_geN (tgt := 26) hE (by omega) (by decide) dX5_copySheaves_5 (by decide) (fun h4 => ?_) (fun h3 => ?_)
  · exact zs_vret hE hr (⟨rfl, hz, f1, fun j hj => k7 j (by omega), x5, k6⟩) (by decide) (by decide) dX5_copySheaves_26
  · refine zs_aload_n hE 1 dX5_copySheaves_8 rfl rfl ?_
    refine zs_get hE fl_X5_11 x5 rfl dX5_copySheaves_9 ?_
    refine zs_iload_n hE 0 dX5_copySheaves_12 rfl rfl ?_
    refine zs_aload_n hE 2 dX5_copySheaves_13 rfl rfl ?_
    refine zs_get hE fl_X5_11 y5 rfl dX5_copySheaves_14 ?_
    refine zs_iload_n hE 0 dX5_copySheaves_17 rfl rfl ?_
    refine zs_aald hE y6 rfl (by omega) (by decide) dX5_copySheaves_18 ?_
    refine zs_aastO (ci := 4) (r := _) hE k6 rfl (fun v z => (hf i h3 v z).2.imp fun vs z2 => z2.kept (hoK _ (hf i h3 v z).1)) rfl (Or.inl rfl) (by omega) (by decide) dX5_copySheaves_19 (fun H1 hp1 hz1 ho1 => ?_)
    have x5 := zs_pt.kept x5 (ho1 _ hah)
    have y5 := zs_pt.kept y5 (ho1 _ hbh)
    have y6 := zs_pt.kept y6 (ho1 _ hgh)
    refine zs_iincN (lo' := [(2, .int (nI (i + 1))), (0, .ref a), (1, .ref b)]) hE 0 dX5_copySheaves_20 rfl (by decide) rfl ?_
    refine zs_goto (tgt := 2) hE dX5_copySheaves_23 (by decide) ?_
    refine zs_sub (lo' := [(2, .int (nI (i + 1))), (0, .ref a), (1, .ref b)]) [0, 1, 2] rfl ?_
    exact ih (i + 1) H1 (va_up f1 i (f i)) (⟨by omega, hz1.trans hz, fun q z => (ho1 q z).trans (hoK q z), hp1, fun j hj => by rcases Nat.lt_or_ge j i with z | z; rw [va_up, if_neg (by omega)]; exact k7 j z; rw [show j = i by omega, va_up, if_pos rfl]⟩) (by omega)

theorem zs_pt.congA {D : va_G} {a n : Nat} {cA : ClassId} {f g : Nat → Int32} {H : Heap} (h : zs_pt D a (.inl (cA, n, .inl f)) H) (e : ∀ j, j < n → f j = g j) : zs_pt D a (.inl (cA, n, .inl g)) H := by
  show H[a]? = some (vp_cell cA (n, .inl g))
  have h0 : H[a]? = some (vp_cell cA (n, .inl f)) := h
  rw [h0, vp_cell_i, vp_cell_i]
  congr 1
  unfold arrV
  congr 1
  apply Array.ext
  · simp
  · intro i h1 h2
    have h3 : i < n := by simpa using h1
    simp [e i h3]
theorem zs_pt.cong0 {D : va_G} {a : Nat} {cA : ClassId} {f g : Nat → Int32} {H : Heap} (h : zs_pt D a (.inl (cA, 0, .inl f)) H) : zs_pt D a (.inl (cA, 0, .inl g)) H := h.congA (fun j hj => absurd hj (Nat.not_lt_zero _))
set_option maxHeartbeats 4000000 in
set_option maxRecDepth 100000 in
theorem m_X5_fillEmpty (D : va_G) (E : Nat → ClassId) (B : Nat) (l : Launch) (κ : Nat → Nat) (a h n1 p1 a1 b q : Nat) (w1 : Int32) (hb : b ≤ 8) (hq : q ≤ 4) (hah : a ≠ h) : zs_Ct D E B l yX5_fillEmpty cX5_fillEmpty 6 none ({ frames := 3, cells := 4, slots := 8, locals := 81 } : Room) [.ref a, .int (nI b), .int (nI q)] (fun H => cs_v0 D E H a h n1 p1 a1 w1 (fun _ => none) ∧ ∀ q, H.size ≤ q → κ q = 0) (fun q => q = h) (fun v H H1 => v = none ∧ ∃ f, cs_v0 D E H1 a h n1 p1 a1 w1 f ∧ cs_vs D E κ H1 f (fun j => if j / 4 < b ∧ j % 4 < q then some [(0, [])] else none)) := by
  refine zs_ct (by decide) (Nat.le_of_ble_eq_true rfl) (fun p e s m below meth c hE hr hin hp => ?_)
  refine zs_lo (lo' := [(0, .ref a), (1, .int (nI b)), (2, .int (nI q))]) rfl ?_
  obtain ⟨⟨x5, x6⟩, hκ⟩ := hp
  refine zs_new (fs := [.int 0, .null]) hE nl_X5_31 (fun j hj => by rcases (show j = 0 ∨ j = 1 by omega) with rfl | rfl <;> rfl) (by decide) (by decide) dX5_fillEmpty_0 (fun q1 H1 hq1 hp1 hz1 ho1 => ?_)
  refine zs_widen (k' := 1) (n' := 2) (by omega) (by omega) ?_
  have ne2 : a ≠ q1 := by have := zs_pt.lt x5; omega
  have x5 := zs_pt.kept x5 (ho1 _ (zs_pt.lt x5))
  have ne3 : h ≠ q1 := by have := zs_pt.lt x6; omega
  have x6 := zs_pt.kept x6 (ho1 _ (zs_pt.lt x6))
  refine zs_dup hE dX5_fillEmpty_3 rfl ?_
  refine zs_iconst (v := (nI 0)) hE dX5_fillEmpty_4 (by decide) ?_
  refine zs_iconst (v := (nI 0)) hE dX5_fillEmpty_5 (by decide) ?_
  refine zs_newi hE q_arr_int (by decide) (by decide) (by decide) dX5_fillEmpty_6 (fun q4 H4 hq4 hp4 hz4 ho4 => ?_)
  refine zs_widen (k' := 2) (n' := 2) (by omega) (by omega) ?_
  have ne5 : a ≠ q4 := by have := zs_pt.lt x5; omega
  have x5 := zs_pt.kept x5 (ho4 _ (zs_pt.lt x5))
  have ne6 : h ≠ q4 := by have := zs_pt.lt x6; omega
  have x6 := zs_pt.kept x6 (ho4 _ (zs_pt.lt x6))
  have ne7 : q1 ≠ q4 := by have := zs_pt.lt hp1; omega
  have hp1 := zs_pt.kept hp1 (ho4 _ (zs_pt.lt hp1))
  refine zs_callI (ret := none) (av := [.int (nI 0), .ref q4]) (st := [.ref q1]) hE (m_X3_init D E B l q1 q4 (nI 0)) sI_X5_33 (hp1) ⟨by decide, by decide⟩ ⟨by decide, by decide⟩ (fun q h => Or.inr (by omega)) (Nat.le_of_ble_eq_true rfl) dX5_fillEmpty_8 (fun v8 H8 hv8 hz8 hk8 => ?_)
  obtain ⟨rfl, c1, cz⟩ := hv8
  refine zs_widen (k' := 2) (n' := 2) (by decide) (by decide) ?_
  have x5 := zs_pt.kept x5 (hk8 _ (zs_pt.lt x5) (fun w => by omega))
  have x6 := zs_pt.kept x6 (hk8 _ (zs_pt.lt x6) (fun w => by omega))
  have hp4 := zs_pt.kept hp4 (hk8 _ (zs_pt.lt hp4) (fun w => by omega))
  have hx := hp4
  have hκ2 : ∀ q, H8.size ≤ q → (va_up κ h 1) q = 0 := fun q z => by rw [va_up, if_neg (by have := x6.lt; omega)]; exact hκ q (by omega)
  have hlt := x6.lt
  have hrow1 : cs_row D E (va_up κ h 1) H8 q1 (0, []) := ⟨⟨by decide, by decide, fun x hx => by cases hx⟩, by rw [va_up, if_neg (by omega)]; exact hκ _ (by omega), q4, by rw [va_up, if_neg (by omega)]; exact hκ _ (by omega), c1, zs_pt.cong0 hp4⟩
  refine zs_callSN (av := [.ref q1]) (st := []) hE (m_X6_sheafOf D E B l (va_up κ h 1) q1 (0, [])) sSN_X5_36 (⟨hrow1, hκ2⟩) ⟨by decide, by decide⟩ ⟨by decide, by decide⟩ (fun _ w => w.elim) (Nat.le_of_ble_eq_true rfl) dX5_fillEmpty_11 (fun v9 H9 hv9 hz9 hk9 => ?_)
  obtain ⟨qs, rfl, qz, hsh⟩ := hv9
  refine zs_widen (k' := 4) (n' := 8) (by decide) (by decide) ?_
  have x5 := zs_pt.kept x5 (hk9 _ (zs_pt.lt x5) (fun w => w.elim))
  have x6 := zs_pt.kept x6 (hk9 _ (zs_pt.lt x6) (fun w => w.elim))
  refine zs_astore_n (lo' := [(3, .ref qs), (0, .ref a), (1, .int (nI b)), (2, .int (nI q))]) hE dX5_fillEmpty_14 rfl (by decide) rfl ?_
  refine zs_iconst (v := (nI 0)) hE dX5_fillEmpty_15 (by decide) ?_
  refine zs_istore (lo' := [(4, .int (nI 0)), (3, .ref qs), (0, .ref a), (1, .int (nI b)), (2, .int (nI q))]) hE dX5_fillEmpty_16 (by decide) rfl ?_
  refine zs_sub (lo' := [(4, .int (nI 0)), (0, .ref a), (1, .int (nI b)), (2, .int (nI q)), (3, .ref qs)]) [0, 2, 3, 4, 1] rfl ?_
  refine zs_ind3 (Hs := fun (i : Nat) (K : Heap) (f1 : Nat → Option Nat) => K) (ks := fun (i : Nat) (K : Heap) (f1 : Nat → Option Nat) => 4) (ns := fun (i : Nat) (K : Heap) (f1 : Nat → Option Nat) => 8) (los := fun (i : Nat) (K : Heap) (f1 : Nat → Option Nat) => [(4, .int (nI i)), (0, .ref a), (1, .int (nI b)), (2, .int (nI q)), (3, .ref qs)]) (I := fun (i : Nat) (K : Heap) (f1 : Nat → Option Nat) => i ≤ b ∧ K.size = H9.size ∧ (∀ q, q ≠ h → K[q]? = H9[q]?) ∧ zs_pt D h (.inl (E 9, 32, .inr (.inr (.inr (.inr f1))))) K ∧ ∀ j, j < 32 → cs_os D E (va_up κ h 1) K (f1 j) (if j / 4 < i ∧ j % 4 < q then some [(0, [])] else none)) (μ := fun (i : Nat) (K : Heap) (f1 : Nat → Option Nat) => b - i) 0 H9 (fun _ => none) (⟨Nat.zero_le _, rfl, fun _ _ => rfl, x6, fun j hj => by rw [if_neg (by omega)]; exact ⟨fun _ => rfl, fun rs z => by cases z⟩⟩) (fun i K f1 hi ih => ?_)
  try dsimp only at hi ih ⊢
  obtain ⟨i0, hzK, hoK, k6, k7⟩ := hi
  refine zs_iload hE 0 dX5_fillEmpty_18 rfl ?_
  refine zs_iload_n hE 2 dX5_fillEmpty_20 rfl rfl ?_
  refine zs_icmp_geN (tgt := 57) hE (by omega) (by omega) dX5_fillEmpty_21 (by decide) (fun h4 => ?_) (fun h4 => ?_)
  · exact zs_vret hE hr (⟨rfl, f1, ⟨x5.kept (hoK _ hah), k6⟩, fun j hj => (show i = b by omega) ▸ (k7 j hj).kap (fun q _ z => by rcases Nat.decEq q h with e | e; rw [va_up, if_neg e] at z; exact z; rw [va_up, if_pos e] at z; cases z)⟩) (by decide) (by decide) dX5_fillEmpty_57
  · refine zs_iconst (v := (nI 0)) hE dX5_fillEmpty_24 (by decide) ?_
    refine zs_istore (lo' := [(5, .int (nI 0)), (4, .int (nI i)), (0, .ref a), (1, .int (nI b)), (2, .int (nI q)), (3, .ref qs)]) hE dX5_fillEmpty_25 (by decide) rfl ?_
    have ih0 := ih
    refine zs_sub (lo' := [(5, .int (nI 0)), (0, .ref a), (1, .int (nI b)), (2, .int (nI q)), (3, .ref qs), (4, .int (nI i))]) [0, 2, 3, 4, 5, 1] rfl ?_
    refine zs_ind3 (Hs := fun (u : Nat) (K2 : Heap) (f2 : Nat → Option Nat) => K2) (ks := fun (u : Nat) (K2 : Heap) (f2 : Nat → Option Nat) => 4) (ns := fun (u : Nat) (K2 : Heap) (f2 : Nat → Option Nat) => 8) (los := fun (u : Nat) (K2 : Heap) (f2 : Nat → Option Nat) => [(5, .int (nI u)), (0, .ref a), (1, .int (nI b)), (2, .int (nI q)), (3, .ref qs), (4, .int (nI i))]) (I := fun (u : Nat) (K2 : Heap) (f2 : Nat → Option Nat) => u ≤ q ∧ K2.size = H9.size ∧ (∀ q, q ≠ h → K2[q]? = H9[q]?) ∧ zs_pt D h (.inl (E 9, 32, .inr (.inr (.inr (.inr f2))))) K2 ∧ ∀ j, j < 32 → cs_os D E (va_up κ h 1) K2 (f2 j) (if (j / 4 < i ∧ j % 4 < q) ∨ (j / 4 = i ∧ j % 4 < u) then some [(0, [])] else none)) (μ := fun (u : Nat) (K2 : Heap) (f2 : Nat → Option Nat) => q - u) 0 K f1 (⟨Nat.zero_le _, hzK, hoK, k6, fun j hj => by
            have := k7 j hj
            rw [ifc (show j / 4 < i ∧ j % 4 < q ∨ j / 4 = i ∧ j % 4 < 0 ↔ j / 4 < i ∧ j % 4 < q by omega)]
            exact this⟩) (fun u K2 f2 hi ih => ?_)
    try dsimp only at hi ih ⊢
    obtain ⟨u0, hzJ, hoJ, j6, j7⟩ := hi
    refine zs_iload hE 0 dX5_fillEmpty_27 rfl ?_
    refine zs_iload_n hE 3 dX5_fillEmpty_29 rfl rfl ?_
    refine zs_icmp_geN (tgt := 51) hE (by omega) (by omega) dX5_fillEmpty_30 (by decide) (fun h5 => ?_) (fun h5 => ?_)
    · refine zs_iincN (lo' := [(4, .int (nI (i + 1))), (5, .int (nI u)), (0, .ref a), (1, .int (nI b)), (2, .int (nI q)), (3, .ref qs)]) hE 5 dX5_fillEmpty_51 rfl (by decide) rfl ?_
      refine zs_goto (tgt := 18) hE dX5_fillEmpty_54 (by decide) ?_
      refine zs_sub (lo' := [(4, .int (nI (i + 1))), (0, .ref a), (1, .int (nI b)), (2, .int (nI q)), (3, .ref qs)]) [0, 2, 3, 4, 5] rfl ?_
      exact ih0 (i + 1) K2 f2 (⟨by omega, hzJ, hoJ, j6, fun j hj => by
                have := j7 j hj
                rw [ifc (show j / 4 < i + 1 ∧ j % 4 < q ↔ j / 4 < i ∧ j % 4 < q ∨ j / 4 = i ∧ j % 4 < u by omega)]
                exact this⟩) (by omega)
    · refine zs_aload_n hE 1 dX5_fillEmpty_33 rfl rfl ?_
      refine zs_iload hE 5 dX5_fillEmpty_34 rfl ?_
      refine zs_iconst (v := (nI 4)) hE dX5_fillEmpty_36 (by decide) ?_
      refine zs_imulN hE dX5_fillEmpty_37 ?_
      refine zs_iload hE 0 dX5_fillEmpty_38 rfl ?_
      refine zs_iaddN hE dX5_fillEmpty_40 ?_
      refine zs_aload_n hE 4 dX5_fillEmpty_41 rfl rfl ?_
      have hshJ := hsh.kept (H1 := K2) (fun q z1 z2 => hoJ q (fun e => by rw [e, va_up, if_pos rfl] at z2; cases z2))
      obtain ⟨g1, g2, -, g3, -⟩ := hshJ.s0
      have x5J := x5.kept (hoJ _ hah)
      refine zs_callV (av := [.int (nI (i * 4 + u)), .ref qs]) (st := []) hE (m_X5_put D E B l a h n1 p1 a1 (i * 4 + u) qs w1 f2 _ (by omega) hah) sV_X5_40 x5J rfl rfl (⟨⟨x5J, j6⟩, g3⟩) ⟨by decide, by decide⟩ ⟨by decide, by decide⟩ (fun q w => Or.inl w) (Nat.le_of_ble_eq_true rfl) dX5_fillEmpty_42 (fun v10 H10 hv10 hz10 hk10 => ?_)
      obtain ⟨rfl, dz, d0⟩ := hv10
      refine zs_widen (k' := 4) (n' := 8) (by decide) (by decide) ?_
      refine zs_iincN (lo' := [(5, .int (nI (u + 1))), (0, .ref a), (1, .int (nI b)), (2, .int (nI q)), (3, .ref qs), (4, .int (nI i))]) hE 0 dX5_fillEmpty_45 rfl (by decide) rfl ?_
      refine zs_goto (tgt := 27) hE dX5_fillEmpty_48 (by decide) ?_
      refine zs_sub (lo' := [(5, .int (nI (u + 1))), (0, .ref a), (1, .int (nI b)), (2, .int (nI q)), (3, .ref qs), (4, .int (nI i))]) [0, 1, 2, 3, 4, 5] rfl ?_
      exact ih (u + 1) H10 (va_up f2 (i * 4 + u) (some qs)) (⟨by omega, by omega, fun q w => (hk_all dz hk10 q w).trans (hoJ q w), d0.2, fun j hj => by
              by_cases ej : j = i * 4 + u
              · subst ej
                rw [va_up, if_pos rfl, if_pos (Or.inr ⟨by omega, by omega⟩)]
                exact ⟨fun z => (by cases z), fun rs z => by cases z; exact ⟨qs, rfl, hsh.kept (fun q z1 z2 => (hk_all dz hk10 q (fun e => by rw [e, va_up, if_pos rfl] at z2; cases z2)).trans (hoJ q (fun e => by rw [e, va_up, if_pos rfl] at z2; cases z2)))⟩⟩
              · rw [va_up, if_neg ej, ifc (show j / 4 < i ∧ j % 4 < q ∨ j / 4 = i ∧ j % 4 < u + 1 ↔ j / 4 < i ∧ j % 4 < q ∨ j / 4 = i ∧ j % 4 < u by omega)]
                exact (j7 j hj).kept (fun q z1 z2 => hk_all dz hk10 q (fun e => by rw [e, va_up, if_pos rfl] at z2; cases z2))⟩) (by omega)

/-- one sheaf merged, by the part's rule: r, the rule; gt, whether the first has the greater number -/
noncomputable def sp_m1 (r : Nat) (gt : Prop) (a b z : sp_Sh) : sp_Sh := pI (sp_al a b ∨ sp_al b z) a (pI (sp_al a z) b (pI (r = 108) (pI gt a b) (pI (r = 110) (if sp_no a < sp_no b then b else a) (sp_jn a b b.length))))
noncomputable def sp_mo (r : Nat) (gt : Prop) : Option sp_Sh → Option sp_Sh → Option sp_Sh → Option sp_Sh
  | some a, some b, some z => some (sp_m1 r gt a b z)
  | _, _, _ => none
theorem cs_os.none {D : va_G} {E : Nat → ClassId} {κ : Nat → Nat} {H : Heap} : cs_os D E κ H none none := ⟨fun _ => rfl, fun rs z => by cases z⟩
theorem cs_os.some {D : va_G} {E : Nat → ClassId} {κ : Nat → Nat} {H : Heap} {a : Nat} {rs : sp_Sh} (h : cs_sh D E κ H a rs) : cs_os D E κ H (some a) (some rs) := ⟨fun z => (by cases z), fun t z => by cases z; exact ⟨a, rfl, h⟩⟩
theorem sp_oal_n {y : Option sp_Sh} : sp_oal none y := fun _ _ h => by cases h
theorem sp_oal_s {a b : sp_Sh} : sp_oal (some a) (some b) ↔ sp_al a b := ⟨fun h => h a b rfl rfl, fun h x y h1 h2 => by cases h1; cases h2; exact h⟩
set_option maxHeartbeats 4000000 in
set_option maxRecDepth 100000 in
theorem m_X5_mergeSheaves (D : va_G) (E : Nat → ClassId) (B : Nat) (l : Launch) (κ : Nat → Nat) (H0 : Heap) (a h n0 p0 a0 b1 n1 p1 a1 b2 n2 p2 a2 b3 n3 p3 a3 pc2 ra : Nat) (w0 w1 w2 w3 : Int32) (f0 : Nat → Option Nat) (x y z : Nat → Option sp_Sh) (vp1 vp2 : Value) (ru : Nat → Nat) (hah : a ≠ h) (hrh : ra ≠ h) (hph : pc2 ≠ h) (hH : H0.size ≤ h) (hxy : ∀ j, j < 32 → (x j = none ↔ y j = none)) (hxz : ∀ j, j < 32 → (x j = none ↔ z j = none)) (hn1 : n1 < 40) (hn2 : n2 < 40) (hru : ∀ q, ru q < 65536) : zs_Ct D E B l yX5_mergeSheaves cX5_mergeSheaves 9 none ({ frames := 4, cells := 64, slots := 192, locals := 91 } : Room) [.ref a, .ref b1, .ref b2, .ref b3, .ref pc2] (fun H => cs_v0 D E H a h n0 p0 a0 w0 f0 ∧ cs_ver D E κ H0 b1 n1 p1 a1 w1 x ∧ cs_ver D E κ H0 b2 n2 p2 a2 w2 y ∧ cs_ver D E κ H0 b3 n3 p3 a3 w3 z ∧ zs_pt D pc2 (.inr (1, [vp1, vp2, .ref ra])) H ∧ zs_pt D ra (.inl (E 1, 4, .inl (fun j => nI (ru j)))) H ∧ (∀ q, H.size ≤ q → κ q = 0) ∧ H0.size ≤ H.size ∧ ∀ q, q < H0.size → H[q]? = H0[q]?) (fun q => q = h) (fun v H H1 => v = none ∧ ∃ f, cs_v0 D E H1 a h n0 p0 a0 w0 f ∧ cs_vs D E κ H1 f (fun j => sp_mo (ru (j % 4)) (n2 < n1) (x j) (y j) (z j))) := by
  refine zs_ct (by decide) (Nat.le_of_ble_eq_true rfl) (fun p e s m below meth c hE hr hin hp => ?_)
  refine zs_lo (lo' := [(0, .ref a), (1, .ref b1), (2, .ref b2), (3, .ref b3), (4, .ref pc2)]) rfl ?_
  obtain ⟨⟨x5, x6⟩, v1, v2, v3, r5, r6, hκ, hzz, hoo⟩ := hp
  have hlt := x6.lt
  have hκ1 : ∀ q, s.heap.size ≤ q → (va_up κ h 1) q = 0 := fun q z => by rw [va_up, if_neg (by omega)]; exact hκ q z
  have hkk : ∀ q, q < H0.size → κ q = 0 → (va_up κ h 1) q = 0 := fun q z1 z2 => by rw [va_up, if_neg (by omega)]; exact z2
  obtain ⟨y0, y1, y2, y3, yh, yf, y4, ⟨y5, y6⟩, y7⟩ := v1
  obtain ⟨z0, z1, z2, z3, zh, zf, z4, ⟨z5, z6⟩, z7⟩ := v2
  obtain ⟨u0, u1, u2, u3, uh, uf, u4, ⟨u5, u6⟩, u7⟩ := v3
  refine zs_iconst (v := (nI 0)) hE dX5_mergeSheaves_0 (by decide) ?_
  refine zs_istore (lo' := [(5, .int (nI 0)), (0, .ref a), (1, .ref b1), (2, .ref b2), (3, .ref b3), (4, .ref pc2)]) hE dX5_mergeSheaves_1 (by decide) rfl ?_
  have ny5 : b1 ≠ h := by have := zs_pt.lt y5; omega
  have ny6 : yh ≠ h := by have := zs_pt.lt y6; omega
  have nz5 : b2 ≠ h := by have := zs_pt.lt z5; omega
  have nz6 : zh ≠ h := by have := zs_pt.lt z6; omega
  have nu5 : b3 ≠ h := by have := zs_pt.lt u5; omega
  have nu6 : uh ≠ h := by have := zs_pt.lt u6; omega
  refine zs_sub (lo' := [(5, .int (nI 0)), (0, .ref a), (1, .ref b1), (2, .ref b2), (3, .ref b3), (4, .ref pc2)]) [0, 1, 2, 3, 4, 5] rfl ?_
  refine zs_ind3 (Hs := fun (i : Nat) (K : Heap) (f : Nat → Option Nat) => K) (ks := fun (i : Nat) (K : Heap) (f : Nat → Option Nat) => 2 * i) (ns := fun (i : Nat) (K : Heap) (f : Nat → Option Nat) => 6 * i) (los := fun (i : Nat) (K : Heap) (f : Nat → Option Nat) => [(5, .int (nI i)), (0, .ref a), (1, .ref b1), (2, .ref b2), (3, .ref b3), (4, .ref pc2)]) (I := fun (i : Nat) (K : Heap) (f : Nat → Option Nat) => i ≤ 32 ∧ K.size ≤ s.heap.size + 2 * i ∧ (∀ q, q < s.heap.size → q ≠ h → K[q]? = s.heap[q]?) ∧ zs_pt D h (.inl (E 9, 32, .inr (.inr (.inr (.inr f))))) K ∧ (∀ j, j < i → cs_os D E (va_up κ h 1) K (f j) (sp_mo (ru (j % 4)) (n2 < n1) (x j) (y j) (z j))) ∧ s.heap.size ≤ K.size ∧ True) (μ := fun (i : Nat) (K : Heap) (f : Nat → Option Nat) => 32 - i) 0 s.heap f0 (⟨Nat.zero_le _, by omega, fun _ _ _ => rfl, x6, fun j hj => absurd hj (Nat.not_lt_zero _), Nat.le_refl _, trivial⟩) (fun i K f hi ih => ?_)
  try dsimp only at hi ih ⊢
  obtain ⟨i32, hzK, hoK, k6, k7, k8, hκK⟩ := hi
  have hoK0 : ∀ q, q < H0.size → K[q]? = H0[q]? := fun q w => (hoK q (by omega) (by omega)).trans (hoo q w)
  have y5 := zs_pt.kept y5 (hoK0 _ (zs_pt.lt y5))
  have y6 := zs_pt.kept y6 (hoK0 _ (zs_pt.lt y6))
  have z5 := zs_pt.kept z5 (hoK0 _ (zs_pt.lt z5))
  have z6 := zs_pt.kept z6 (hoK0 _ (zs_pt.lt z6))
  have u5 := zs_pt.kept u5 (hoK0 _ (zs_pt.lt u5))
  have u6 := zs_pt.kept u6 (hoK0 _ (zs_pt.lt u6))
  have r6lt := r6.lt
  have r5lt := r5.lt
  have x5lt := x5.lt
  have x5 := x5.kept (hoK _ x5lt hah)
  have r5 := r5.kept (hoK _ r5lt hph)
  have r6 := r6.kept (hoK _ r6lt hrh)
  refine zs_iload hE 0 dX5_mergeSheaves_3 rfl ?_
  refine zs_bipush (v := (nI 32)) hE dX5_mergeSheaves_5 (by decide) ?_
  refine zs_icmp_geN (tgt := 176) hE (by omega) (by decide) dX5_mergeSheaves_7 (by decide) (fun h5 => ?_) (fun h4 => ?_)
  · refine zs_widen (k' := 64) (n' := 192) (by omega) (by omega) ?_
    exact zs_vret hE hr (⟨rfl, f, ⟨x5, k6⟩, fun j hj => (k7 j (by omega)).kap (fun q _ w => by rcases Nat.decEq q h with e | e; rw [va_up, if_neg e] at w; exact w; rw [va_up, if_pos e] at w; cases w)⟩) (by decide) (by decide) dX5_mergeSheaves_176
  · refine zs_aload hE 5 dX5_mergeSheaves_10 rfl ?_
    refine zs_get hE fl_X5_44 r5 rfl dX5_mergeSheaves_12 ?_
    refine zs_iload hE 0 dX5_mergeSheaves_15 rfl ?_
    refine zs_iconst (v := (nI 4)) hE dX5_mergeSheaves_17 (by decide) ?_
    refine zs_irem hE dX5_mergeSheaves_18 (by decide) ?_
    refine zs_top (v' := .int (nI (i % 4))) (by rw [pk_rem (by omega) (by decide) (by decide)]) ?_
    refine zs_cald hE r6 (Nat.mod_lt _ (by decide)) (by decide) dX5_mergeSheaves_19 ?_
    refine zs_istore (lo' := [(6, .int (nI (ru (i % 4)))), (5, .int (nI i)), (0, .ref a), (1, .ref b1), (2, .ref b2), (3, .ref b3), (4, .ref pc2)]) hE dX5_mergeSheaves_20 (by decide) rfl ?_
    refine zs_aload_n hE 3 dX5_mergeSheaves_22 rfl rfl ?_
    refine zs_get hE fl_X5_11 y5 rfl dX5_mergeSheaves_23 ?_
    refine zs_iload hE 1 dX5_mergeSheaves_26 rfl ?_
    refine zs_aald hE y6 rfl (by omega) (by decide) dX5_mergeSheaves_28 ?_
    refine zs_astoreq (lo' := [(7, va_rf (yf i)), (6, .int (nI (ru (i % 4)))), (5, .int (nI i)), (0, .ref a), (1, .ref b1), (2, .ref b2), (3, .ref b3), (4, .ref pc2)]) hE dX5_mergeSheaves_29 (by decide) rfl ?_
    refine zs_aload_n hE 5 dX5_mergeSheaves_31 rfl rfl ?_
    refine zs_get hE fl_X5_11 z5 rfl dX5_mergeSheaves_32 ?_
    refine zs_iload hE 2 dX5_mergeSheaves_35 rfl ?_
    refine zs_aald hE z6 rfl (by omega) (by decide) dX5_mergeSheaves_37 ?_
    refine zs_astoreq (lo' := [(8, va_rf (zf i)), (7, va_rf (yf i)), (6, .int (nI (ru (i % 4)))), (5, .int (nI i)), (0, .ref a), (1, .ref b1), (2, .ref b2), (3, .ref b3), (4, .ref pc2)]) hE dX5_mergeSheaves_38 (by decide) (by generalize yf i = o9; cases o9 <;> rfl) ?_
    refine zs_aloadq hE 1 dX5_mergeSheaves_40 rfl ?_
    refine zs_aloadq hE 0 dX5_mergeSheaves_42 rfl ?_
    have oy := ((y7 i h4).kap hkk).kept (H1 := K) (fun q w _ => hoK0 q w)
    have oz := ((z7 i h4).kap hkk).kept (H1 := K) (fun q w _ => hoK0 q w)
    have ou := ((u7 i h4).kap hkk).kept (H1 := K) (fun q w _ => hoK0 q w)
    refine zs_callSNR (av := [va_rf (yf i), va_rf (zf i)]) (st := []) hE (m_X6_areAlike D E B l (va_up κ h 1) (yf i) (zf i) (x i) (y i) (hxy i h4)) rfl rfl sSN_X5_50 (⟨oy, oz⟩) ⟨by decide, by decide⟩ ⟨show 2 * i ≤ 64 by omega, show 6 * i ≤ 192 by omega⟩ (Nat.le_of_ble_eq_true rfl) dX5_mergeSheaves_44 ?_
    refine zs_if_neB (tgt := 65) hE dX5_mergeSheaves_47 (by decide) (fun c1 => ?_) (fun c1 => ?_)
    · have hoKc := hoK
      have k7c := k7
      refine zs_aload_n hE 4 dX5_mergeSheaves_65 rfl rfl ?_
      refine zs_get hE fl_X5_11 x5 rfl dX5_mergeSheaves_66 ?_
      refine zs_iload hE 3 dX5_mergeSheaves_69 rfl ?_
      refine zs_aloadq hE 1 dX5_mergeSheaves_71 rfl ?_
      have hnew : cs_os D E (va_up κ h 1) K (yf i) (sp_mo (ru (i % 4)) (n2 < n1) (x i) (y i) (z i)) := by
                  cases hx : x i with
                  | none =>
                    rw [hx] at oy
                    show cs_os D E (va_up κ h 1) _ _ (sp_mo _ _ none _ _)
                    exact oy
                  | some va =>
                    cases hy : y i with
                    | none => rw [(hxy i h4).mpr hy] at hx; cases hx
                    | some vb =>
                      cases hz : z i with
                      | none => rw [(hxz i h4).mpr hz] at hx; cases hx
                      | some vz =>
                        rw [hx, hy] at c1
                        rw [hx] at oy
                        show cs_os D E (va_up κ h 1) _ _ (some (sp_m1 _ _ _ _ _))
                        rw [sp_m1, pI_t (Or.inl (sp_oal_s.mp c1))]
                        exact oy
      refine zs_aastO (ci := 4) (r := _) hE k6 rfl (hnew.ob) rfl (Or.inl rfl) (by omega) (by decide) dX5_mergeSheaves_73 (fun H1 hp1 hz1 ho1 => ?_)
      have x5 := zs_pt.kept x5 (ho1 _ hah)
      have y5 := zs_pt.kept y5 (ho1 _ ny5)
      have y6 := zs_pt.kept y6 (ho1 _ ny6)
      have z5 := zs_pt.kept z5 (ho1 _ nz5)
      have z6 := zs_pt.kept z6 (ho1 _ nz6)
      have u5 := zs_pt.kept u5 (ho1 _ nu5)
      have u6 := zs_pt.kept u6 (ho1 _ nu6)
      have r5 := zs_pt.kept r5 (ho1 _ hph)
      have r6 := zs_pt.kept r6 (ho1 _ hrh)
      refine zs_goto (tgt := 170) hE dX5_mergeSheaves_74 (by decide) ?_
      refine zs_iincN (lo' := [(5, .int (nI (i + 1))), (8, va_rf (zf i)), (7, va_rf (yf i)), (6, .int (nI (ru (i % 4)))), (0, .ref a), (1, .ref b1), (2, .ref b2), (3, .ref b3), (4, .ref pc2)]) hE 3 dX5_mergeSheaves_170 rfl (by decide) rfl ?_
      refine zs_goto (tgt := 3) hE dX5_mergeSheaves_173 (by decide) ?_
      refine zs_widen (k' := 2 * (i + 1)) (n' := 6 * (i + 1)) (by omega) (by omega) ?_
      refine zs_sub (lo' := [(5, .int (nI (i + 1))), (0, .ref a), (1, .ref b1), (2, .ref b2), (3, .ref b3), (4, .ref pc2)]) [0, 4, 5, 6, 7, 8] rfl ?_
      exact ih (i + 1) H1 (va_up f i (yf i)) (⟨by omega, by omega, fun q w1 w2 => (ho1 q w2).trans (hoKc q w1 w2), hp1, fun j hj => by
              rcases Nat.lt_or_ge j i with w | w
              · rw [va_up, if_neg (by omega)]
                exact (k7c j w).kept (fun q _ w2 => ho1 q (fun e => by rw [e, va_up, if_pos rfl] at w2; cases w2))
              · rw [show j = i by omega, va_up, if_pos rfl]
                exact hnew.kept (fun q _ w2 => ho1 q (fun e => by rw [e, va_up, if_pos rfl] at w2; cases w2)), by omega, by omega⟩) (by omega)
    · refine zs_aloadq hE 0 dX5_mergeSheaves_50 rfl ?_
      refine zs_aload_n hE 7 dX5_mergeSheaves_52 rfl rfl ?_
      refine zs_get hE fl_X5_11 u5 rfl dX5_mergeSheaves_53 ?_
      refine zs_iload hE 3 dX5_mergeSheaves_56 rfl ?_
      refine zs_aald hE u6 rfl (by omega) (by decide) dX5_mergeSheaves_58 ?_
      refine zs_callSNR (av := [va_rf (zf i), va_rf (uf i)]) (st := []) hE (m_X6_areAlike D E B l (va_up κ h 1) (zf i) (uf i) (y i) (z i) ((hxy i h4).symm.trans (hxz i h4))) rfl rfl sSN_X5_50 (⟨oz, ou⟩) ⟨by decide, by decide⟩ ⟨show 2 * i ≤ 64 by omega, show 6 * i ≤ 192 by omega⟩ (Nat.le_of_ble_eq_true rfl) dX5_mergeSheaves_59 ?_
      refine zs_if_eqB (tgt := 77) hE dX5_mergeSheaves_62 (by decide) (fun c2 => ?_) (fun c2 => ?_)
      · obtain ⟨va, vb, vz, ea, eb, ez⟩ : ∃ va vb vz, x i = some va ∧ y i = some vb ∧ z i = some vz := by
                  cases hx : x i with
                  | none => rw [hx] at c1; exact absurd sp_oal_n c1
                  | some va =>
                    cases hy : y i with
                    | none => rw [(hxy i h4).mpr hy] at hx; cases hx
                    | some vb =>
                      cases hz : z i with
                      | none => rw [(hxz i h4).mpr hz] at hx; cases hx
                      | some vz => exact ⟨va, vb, vz, rfl, rfl, rfl⟩
        rw [ea] at c1 oy
        rw [eb] at c1 c2 oz
        rw [ez] at c2 ou
        have d1 : ¬ (sp_al va vb ∨ sp_al vb vz) := fun w => w.elim (fun w => c1 (sp_oal_s.mpr w)) (fun w => c2 (sp_oal_s.mpr w))
        refine zs_aloadq hE 1 dX5_mergeSheaves_77 rfl ?_
        refine zs_aload_n hE 7 dX5_mergeSheaves_79 rfl rfl ?_
        refine zs_get hE fl_X5_11 u5 rfl dX5_mergeSheaves_80 ?_
        refine zs_iload hE 3 dX5_mergeSheaves_83 rfl ?_
        refine zs_aald hE u6 rfl (by omega) (by decide) dX5_mergeSheaves_85 ?_
        refine zs_callSNR (av := [va_rf (yf i), va_rf (uf i)]) (st := []) hE (m_X6_areAlike D E B l (va_up κ h 1) (yf i) (uf i) (some va) (some vz) (by simp)) rfl rfl sSN_X5_50 (⟨oy, ou⟩) ⟨by decide, by decide⟩ ⟨show 2 * i ≤ 64 by omega, show 6 * i ≤ 192 by omega⟩ (Nat.le_of_ble_eq_true rfl) dX5_mergeSheaves_86 ?_
        refine zs_if_eqB (tgt := 104) hE dX5_mergeSheaves_89 (by decide) (fun c3 => ?_) (fun c3 => ?_)
        · have d2 : ¬ sp_al va vz := fun w => c3 (sp_oal_s.mpr w)
          refine zs_iload hE 2 dX5_mergeSheaves_104 rfl ?_
          refine zs_bipush (v := (nI 108)) hE dX5_mergeSheaves_106 (by decide) ?_
          refine zs_icmp_neN (tgt := 139) hE (Nat.lt_trans (hru _) (by decide)) (by decide) dX5_mergeSheaves_108 (by decide) (fun c4 => ?_) (fun c4 => ?_)
          · obtain ⟨oa, ea1, sa⟩ := oy.2 va rfl
            obtain ⟨ob, eb1, sb⟩ := oz.2 vb rfl
            refine zs_aload_n hE 4 dX5_mergeSheaves_139 rfl rfl ?_
            refine zs_get hE fl_X5_11 x5 rfl dX5_mergeSheaves_140 ?_
            refine zs_iload hE 3 dX5_mergeSheaves_143 rfl ?_
            refine zs_iload hE 2 dX5_mergeSheaves_145 rfl ?_
            refine zs_bipush (v := (nI 110)) hE dX5_mergeSheaves_147 (by decide) ?_
            refine zs_icmp_neN (tgt := 162) hE (Nat.lt_trans (hru _) (by decide)) (by decide) dX5_mergeSheaves_149 (by decide) (fun c6 => ?_) (fun c6 => ?_)
            · refine zs_lo (lo' := [(8, .ref ob), (7, .ref oa), (6, .int (nI (ru (i % 4)))), (5, .int (nI i)), (0, .ref a), (1, .ref b1), (2, .ref b2), (3, .ref b3), (4, .ref pc2)]) (by rw [ea1, eb1]; rfl) ?_
              refine zs_aload hE 1 dX5_mergeSheaves_162 rfl ?_
              refine zs_aload hE 0 dX5_mergeSheaves_164 rfl ?_
              have hκK2 : ∀ q, K.size ≤ q → (va_up κ h 1) q = 0 := fun q w => hκ1 q (by omega)
              refine zs_callS (av := [.ref oa, .ref ob]) (st := [.int (nI i), .ref h]) hE (m_X5_both D E B l (va_up κ h 1) oa ob va vb) sS_X5_58 (⟨sa, sb, hκK2⟩) ⟨by decide, by decide⟩ ⟨show 2 * i + 2 ≤ 64 by omega, show 6 * i + 6 ≤ 192 by omega⟩ (fun _ w => w.elim) (Nat.le_of_ble_eq_true rfl) dX5_mergeSheaves_166 (fun v2 H2 hv2 hz2 hk2 => ?_)
              obtain ⟨qj, rfl, gz, gs, hj⟩ := hv2
              refine zs_widen (k' := 2 * i + 2) (n' := 6 * i + 6) (show 2 * i + 2 ≤ 2 * i + 2 by omega) (show 6 * i + 6 ≤ 6 * i + 6 by omega) ?_
              have x5 := zs_pt.kept x5 (hk2 _ (zs_pt.lt x5) (fun w => w.elim))
              have k6 := zs_pt.kept k6 (hk2 _ (zs_pt.lt k6) (fun w => w.elim))
              have hoKc : ∀ q, q < s.heap.size → q ≠ h → H2[q]? = s.heap[q]? := fun q w1 w2 => (hk2 q (by omega) (fun w => w.elim)).trans (hoK q w1 w2)
              have k7c := fun j hj => (k7 j hj).kept (H1 := H2) (fun q w _ => hk2 q w (fun w => w.elim))
              have hnew : cs_os D E (va_up κ h 1) H2 (some qj) (sp_mo (ru (i % 4)) (n2 < n1) (x i) (y i) (z i)) := by rw [ea, eb, ez]; show cs_os D E (va_up κ h 1) _ _ (some (sp_m1 _ _ _ _ _)); rw [sp_m1, pI_f d1, pI_f d2, pI_f c4, pI_f c6]; exact cs_os.some hj
              refine zs_top (v' := va_rf (some qj)) (rfl) ?_
              refine zs_aastO (ci := 4) (r := _) hE k6 rfl (hnew.ob) rfl (Or.inl rfl) (by omega) (by decide) dX5_mergeSheaves_169 (fun H3 hp3 hz3 ho3 => ?_)
              have x5 := zs_pt.kept x5 (ho3 _ hah)
              refine zs_iincN (lo' := [(5, .int (nI (i + 1))), (8, .ref ob), (7, .ref oa), (6, .int (nI (ru (i % 4)))), (0, .ref a), (1, .ref b1), (2, .ref b2), (3, .ref b3), (4, .ref pc2)]) hE 3 dX5_mergeSheaves_170 rfl (by decide) rfl ?_
              refine zs_goto (tgt := 3) hE dX5_mergeSheaves_173 (by decide) ?_
              refine zs_widen (k' := 2 * (i + 1)) (n' := 6 * (i + 1)) (by omega) (by omega) ?_
              refine zs_sub (lo' := [(5, .int (nI (i + 1))), (0, .ref a), (1, .ref b1), (2, .ref b2), (3, .ref b3), (4, .ref pc2)]) [0, 4, 5, 6, 7, 8] rfl ?_
              exact ih (i + 1) H3 (va_up f i (some qj)) (⟨by omega, by omega, fun q w1 w2 => (ho3 q w2).trans (hoKc q w1 w2), hp3, fun j hj => by
                              rcases Nat.lt_or_ge j i with w | w
                              · rw [va_up, if_neg (by omega)]
                                exact (k7c j w).kept (fun q _ w2 => ho3 q (fun e => by rw [e, va_up, if_pos rfl] at w2; cases w2))
                              · rw [show j = i by omega, va_up, if_pos rfl]
                                exact hnew.kept (fun q _ w2 => ho3 q (fun e => by rw [e, va_up, if_pos rfl] at w2; cases w2)), by omega, by omega⟩) (by omega)
            · refine zs_lo (lo' := [(8, .ref ob), (7, .ref oa), (6, .int (nI (ru (i % 4)))), (5, .int (nI i)), (0, .ref a), (1, .ref b1), (2, .ref b2), (3, .ref b3), (4, .ref pc2)]) (by rw [ea1, eb1]; rfl) ?_
              have hoKc := hoK
              have k7c := k7
              refine zs_aload hE 1 dX5_mergeSheaves_152 rfl ?_
              refine zs_aload hE 0 dX5_mergeSheaves_154 rfl ?_
              refine zs_callSR (av := [.ref oa, .ref ob]) (st := [.int (nI i), .ref h]) hE (m_X5_fuller D E B l (va_up κ h 1) oa ob va vb) rfl rfl sS_X5_54 (⟨sa, sb⟩) ⟨by decide, by decide⟩ ⟨show 2 * i ≤ 64 by omega, show 6 * i ≤ 192 by omega⟩ (Nat.le_of_ble_eq_true rfl) dX5_mergeSheaves_156 ?_
              refine zs_goto (tgt := 169) hE dX5_mergeSheaves_159 (by decide) ?_
              have hnew : cs_os D E (va_up κ h 1) K (if sp_no va < sp_no vb then some ob else some oa) (sp_mo (ru (i % 4)) (n2 < n1) (x i) (y i) (z i)) := by rw [ea, eb, ez]; show cs_os D E (va_up κ h 1) _ _ (some (sp_m1 _ _ _ _ _)); rw [sp_m1, pI_f d1, pI_f d2, pI_f c4, pI_t c6]; by_cases w : sp_no va < sp_no vb; rw [if_pos w, if_pos w]; exact cs_os.some sb; rw [if_neg w, if_neg w]; exact cs_os.some sa
              refine zs_aastO (ci := 4) (r := _) hE k6 rfl (hnew.ob) rfl (Or.inl rfl) (by omega) (by decide) dX5_mergeSheaves_169 (fun H4 hp4 hz4 ho4 => ?_)
              have x5 := zs_pt.kept x5 (ho4 _ hah)
              have y5 := zs_pt.kept y5 (ho4 _ ny5)
              have y6 := zs_pt.kept y6 (ho4 _ ny6)
              have z5 := zs_pt.kept z5 (ho4 _ nz5)
              have z6 := zs_pt.kept z6 (ho4 _ nz6)
              have u5 := zs_pt.kept u5 (ho4 _ nu5)
              have u6 := zs_pt.kept u6 (ho4 _ nu6)
              have r5 := zs_pt.kept r5 (ho4 _ hph)
              have r6 := zs_pt.kept r6 (ho4 _ hrh)
              refine zs_iincN (lo' := [(5, .int (nI (i + 1))), (8, .ref ob), (7, .ref oa), (6, .int (nI (ru (i % 4)))), (0, .ref a), (1, .ref b1), (2, .ref b2), (3, .ref b3), (4, .ref pc2)]) hE 3 dX5_mergeSheaves_170 rfl (by decide) rfl ?_
              refine zs_goto (tgt := 3) hE dX5_mergeSheaves_173 (by decide) ?_
              refine zs_widen (k' := 2 * (i + 1)) (n' := 6 * (i + 1)) (by omega) (by omega) ?_
              refine zs_sub (lo' := [(5, .int (nI (i + 1))), (0, .ref a), (1, .ref b1), (2, .ref b2), (3, .ref b3), (4, .ref pc2)]) [0, 4, 5, 6, 7, 8] rfl ?_
              exact ih (i + 1) H4 (va_up f i (if sp_no va < sp_no vb then some ob else some oa)) (⟨by omega, by omega, fun q w1 w2 => (ho4 q w2).trans (hoKc q w1 w2), hp4, fun j hj => by
                              rcases Nat.lt_or_ge j i with w | w
                              · rw [va_up, if_neg (by omega)]
                                exact (k7c j w).kept (fun q _ w2 => ho4 q (fun e => by rw [e, va_up, if_pos rfl] at w2; cases w2))
                              · rw [show j = i by omega, va_up, if_pos rfl]
                                exact hnew.kept (fun q _ w2 => ho4 q (fun e => by rw [e, va_up, if_pos rfl] at w2; cases w2)), by omega, by omega⟩) (by omega)
          · refine zs_aload_n hE 4 dX5_mergeSheaves_111 rfl rfl ?_
            refine zs_get hE fl_X5_11 x5 rfl dX5_mergeSheaves_112 ?_
            refine zs_iload hE 3 dX5_mergeSheaves_115 rfl ?_
            refine zs_aload_n hE 5 dX5_mergeSheaves_117 rfl rfl ?_
            refine zs_get hE fl_X5_17 y5 rfl dX5_mergeSheaves_118 ?_
            refine zs_aload_n hE 6 dX5_mergeSheaves_121 rfl rfl ?_
            refine zs_get hE fl_X5_17 z5 rfl dX5_mergeSheaves_122 ?_
            refine zs_icmp_leN (tgt := 133) hE (by omega) (by omega) dX5_mergeSheaves_125 (by decide) (fun c5 => ?_) (fun c5 => ?_)
            · have hoKc := hoK
              have k7c := k7
              refine zs_aloadq hE 0 dX5_mergeSheaves_133 rfl ?_
              have hnew : cs_os D E (va_up κ h 1) K (zf i) (sp_mo (ru (i % 4)) (n2 < n1) (x i) (y i) (z i)) := by rw [ea, eb, ez]; show cs_os D E (va_up κ h 1) _ _ (some (sp_m1 _ _ _ _ _)); rw [sp_m1, pI_f d1, pI_f d2, pI_t c4, pI_f (by omega)]; exact oz
              refine zs_aastO (ci := 4) (r := _) hE k6 rfl (hnew.ob) rfl (Or.inl rfl) (by omega) (by decide) dX5_mergeSheaves_135 (fun H5 hp5 hz5 ho5 => ?_)
              have x5 := zs_pt.kept x5 (ho5 _ hah)
              have y5 := zs_pt.kept y5 (ho5 _ ny5)
              have y6 := zs_pt.kept y6 (ho5 _ ny6)
              have z5 := zs_pt.kept z5 (ho5 _ nz5)
              have z6 := zs_pt.kept z6 (ho5 _ nz6)
              have u5 := zs_pt.kept u5 (ho5 _ nu5)
              have u6 := zs_pt.kept u6 (ho5 _ nu6)
              have r5 := zs_pt.kept r5 (ho5 _ hph)
              have r6 := zs_pt.kept r6 (ho5 _ hrh)
              refine zs_goto (tgt := 170) hE dX5_mergeSheaves_136 (by decide) ?_
              refine zs_iincN (lo' := [(5, .int (nI (i + 1))), (8, va_rf (zf i)), (7, va_rf (yf i)), (6, .int (nI (ru (i % 4)))), (0, .ref a), (1, .ref b1), (2, .ref b2), (3, .ref b3), (4, .ref pc2)]) hE 3 dX5_mergeSheaves_170 rfl (by decide) rfl ?_
              refine zs_goto (tgt := 3) hE dX5_mergeSheaves_173 (by decide) ?_
              refine zs_widen (k' := 2 * (i + 1)) (n' := 6 * (i + 1)) (by omega) (by omega) ?_
              refine zs_sub (lo' := [(5, .int (nI (i + 1))), (0, .ref a), (1, .ref b1), (2, .ref b2), (3, .ref b3), (4, .ref pc2)]) [0, 4, 5, 6, 7, 8] rfl ?_
              exact ih (i + 1) H5 (va_up f i (zf i)) (⟨by omega, by omega, fun q w1 w2 => (ho5 q w2).trans (hoKc q w1 w2), hp5, fun j hj => by
                              rcases Nat.lt_or_ge j i with w | w
                              · rw [va_up, if_neg (by omega)]
                                exact (k7c j w).kept (fun q _ w2 => ho5 q (fun e => by rw [e, va_up, if_pos rfl] at w2; cases w2))
                              · rw [show j = i by omega, va_up, if_pos rfl]
                                exact hnew.kept (fun q _ w2 => ho5 q (fun e => by rw [e, va_up, if_pos rfl] at w2; cases w2)), by omega, by omega⟩) (by omega)
            · have hoKc := hoK
              have k7c := k7
              refine zs_aloadq hE 1 dX5_mergeSheaves_128 rfl ?_
              refine zs_goto (tgt := 135) hE dX5_mergeSheaves_130 (by decide) ?_
              have hnew : cs_os D E (va_up κ h 1) K (yf i) (sp_mo (ru (i % 4)) (n2 < n1) (x i) (y i) (z i)) := by rw [ea, eb, ez]; show cs_os D E (va_up κ h 1) _ _ (some (sp_m1 _ _ _ _ _)); rw [sp_m1, pI_f d1, pI_f d2, pI_t c4, pI_t c5]; exact oy
              refine zs_aastO (ci := 4) (r := _) hE k6 rfl (hnew.ob) rfl (Or.inl rfl) (by omega) (by decide) dX5_mergeSheaves_135 (fun H6 hp6 hz6 ho6 => ?_)
              have x5 := zs_pt.kept x5 (ho6 _ hah)
              have y5 := zs_pt.kept y5 (ho6 _ ny5)
              have y6 := zs_pt.kept y6 (ho6 _ ny6)
              have z5 := zs_pt.kept z5 (ho6 _ nz5)
              have z6 := zs_pt.kept z6 (ho6 _ nz6)
              have u5 := zs_pt.kept u5 (ho6 _ nu5)
              have u6 := zs_pt.kept u6 (ho6 _ nu6)
              have r5 := zs_pt.kept r5 (ho6 _ hph)
              have r6 := zs_pt.kept r6 (ho6 _ hrh)
              refine zs_goto (tgt := 170) hE dX5_mergeSheaves_136 (by decide) ?_
              refine zs_iincN (lo' := [(5, .int (nI (i + 1))), (8, va_rf (zf i)), (7, va_rf (yf i)), (6, .int (nI (ru (i % 4)))), (0, .ref a), (1, .ref b1), (2, .ref b2), (3, .ref b3), (4, .ref pc2)]) hE 3 dX5_mergeSheaves_170 rfl (by decide) rfl ?_
              refine zs_goto (tgt := 3) hE dX5_mergeSheaves_173 (by decide) ?_
              refine zs_widen (k' := 2 * (i + 1)) (n' := 6 * (i + 1)) (by omega) (by omega) ?_
              refine zs_sub (lo' := [(5, .int (nI (i + 1))), (0, .ref a), (1, .ref b1), (2, .ref b2), (3, .ref b3), (4, .ref pc2)]) [0, 4, 5, 6, 7, 8] rfl ?_
              exact ih (i + 1) H6 (va_up f i (yf i)) (⟨by omega, by omega, fun q w1 w2 => (ho6 q w2).trans (hoKc q w1 w2), hp6, fun j hj => by
                              rcases Nat.lt_or_ge j i with w | w
                              · rw [va_up, if_neg (by omega)]
                                exact (k7c j w).kept (fun q _ w2 => ho6 q (fun e => by rw [e, va_up, if_pos rfl] at w2; cases w2))
                              · rw [show j = i by omega, va_up, if_pos rfl]
                                exact hnew.kept (fun q _ w2 => ho6 q (fun e => by rw [e, va_up, if_pos rfl] at w2; cases w2)), by omega, by omega⟩) (by omega)
        · have hoKc := hoK
          have k7c := k7
          refine zs_aload_n hE 4 dX5_mergeSheaves_92 rfl rfl ?_
          refine zs_get hE fl_X5_11 x5 rfl dX5_mergeSheaves_93 ?_
          refine zs_iload hE 3 dX5_mergeSheaves_96 rfl ?_
          refine zs_aloadq hE 0 dX5_mergeSheaves_98 rfl ?_
          have hnew : cs_os D E (va_up κ h 1) K (zf i) (sp_mo (ru (i % 4)) (n2 < n1) (x i) (y i) (z i)) := by rw [ea, eb, ez]; show cs_os D E (va_up κ h 1) _ _ (some (sp_m1 _ _ _ _ _)); rw [sp_m1, pI_f d1, pI_t (sp_oal_s.mp c3)]; exact oz
          refine zs_aastO (ci := 4) (r := _) hE k6 rfl (hnew.ob) rfl (Or.inl rfl) (by omega) (by decide) dX5_mergeSheaves_100 (fun H7 hp7 hz7 ho7 => ?_)
          have x5 := zs_pt.kept x5 (ho7 _ hah)
          have y5 := zs_pt.kept y5 (ho7 _ ny5)
          have y6 := zs_pt.kept y6 (ho7 _ ny6)
          have z5 := zs_pt.kept z5 (ho7 _ nz5)
          have z6 := zs_pt.kept z6 (ho7 _ nz6)
          have u5 := zs_pt.kept u5 (ho7 _ nu5)
          have u6 := zs_pt.kept u6 (ho7 _ nu6)
          have r5 := zs_pt.kept r5 (ho7 _ hph)
          have r6 := zs_pt.kept r6 (ho7 _ hrh)
          refine zs_goto (tgt := 170) hE dX5_mergeSheaves_101 (by decide) ?_
          refine zs_iincN (lo' := [(5, .int (nI (i + 1))), (8, va_rf (zf i)), (7, va_rf (yf i)), (6, .int (nI (ru (i % 4)))), (0, .ref a), (1, .ref b1), (2, .ref b2), (3, .ref b3), (4, .ref pc2)]) hE 3 dX5_mergeSheaves_170 rfl (by decide) rfl ?_
          refine zs_goto (tgt := 3) hE dX5_mergeSheaves_173 (by decide) ?_
          refine zs_widen (k' := 2 * (i + 1)) (n' := 6 * (i + 1)) (by omega) (by omega) ?_
          refine zs_sub (lo' := [(5, .int (nI (i + 1))), (0, .ref a), (1, .ref b1), (2, .ref b2), (3, .ref b3), (4, .ref pc2)]) [0, 4, 5, 6, 7, 8] rfl ?_
          exact ih (i + 1) H7 (va_up f i (zf i)) (⟨by omega, by omega, fun q w1 w2 => (ho7 q w2).trans (hoKc q w1 w2), hp7, fun j hj => by
                      rcases Nat.lt_or_ge j i with w | w
                      · rw [va_up, if_neg (by omega)]
                        exact (k7c j w).kept (fun q _ w2 => ho7 q (fun e => by rw [e, va_up, if_pos rfl] at w2; cases w2))
                      · rw [show j = i by omega, va_up, if_pos rfl]
                        exact hnew.kept (fun q _ w2 => ho7 q (fun e => by rw [e, va_up, if_pos rfl] at w2; cases w2)), by omega, by omega⟩) (by omega)
      · have hoKc := hoK
        have k7c := k7
        refine zs_aload_n hE 4 dX5_mergeSheaves_65 rfl rfl ?_
        refine zs_get hE fl_X5_11 x5 rfl dX5_mergeSheaves_66 ?_
        refine zs_iload hE 3 dX5_mergeSheaves_69 rfl ?_
        refine zs_aloadq hE 1 dX5_mergeSheaves_71 rfl ?_
        have hnew : cs_os D E (va_up κ h 1) K (yf i) (sp_mo (ru (i % 4)) (n2 < n1) (x i) (y i) (z i)) := by
                      cases hx : x i with
                      | none => rw [hx] at c1; exact absurd sp_oal_n c1
                      | some va =>
                        cases hy : y i with
                        | none => rw [(hxy i h4).mpr hy] at hx; cases hx
                        | some vb =>
                          cases hz : z i with
                          | none => rw [(hxz i h4).mpr hz] at hx; cases hx
                          | some vz =>
                            rw [hy, hz] at c2
                            rw [hx] at oy
                            show cs_os D E (va_up κ h 1) _ _ (some (sp_m1 _ _ _ _ _))
                            rw [sp_m1, pI_t (Or.inr (sp_oal_s.mp c2))]
                            exact oy
        refine zs_aastO (ci := 4) (r := _) hE k6 rfl (hnew.ob) rfl (Or.inl rfl) (by omega) (by decide) dX5_mergeSheaves_73 (fun H8 hp8 hz8 ho8 => ?_)
        have x5 := zs_pt.kept x5 (ho8 _ hah)
        have y5 := zs_pt.kept y5 (ho8 _ ny5)
        have y6 := zs_pt.kept y6 (ho8 _ ny6)
        have z5 := zs_pt.kept z5 (ho8 _ nz5)
        have z6 := zs_pt.kept z6 (ho8 _ nz6)
        have u5 := zs_pt.kept u5 (ho8 _ nu5)
        have u6 := zs_pt.kept u6 (ho8 _ nu6)
        have r5 := zs_pt.kept r5 (ho8 _ hph)
        have r6 := zs_pt.kept r6 (ho8 _ hrh)
        refine zs_goto (tgt := 170) hE dX5_mergeSheaves_74 (by decide) ?_
        refine zs_iincN (lo' := [(5, .int (nI (i + 1))), (8, va_rf (zf i)), (7, va_rf (yf i)), (6, .int (nI (ru (i % 4)))), (0, .ref a), (1, .ref b1), (2, .ref b2), (3, .ref b3), (4, .ref pc2)]) hE 3 dX5_mergeSheaves_170 rfl (by decide) rfl ?_
        refine zs_goto (tgt := 3) hE dX5_mergeSheaves_173 (by decide) ?_
        refine zs_widen (k' := 2 * (i + 1)) (n' := 6 * (i + 1)) (by omega) (by omega) ?_
        refine zs_sub (lo' := [(5, .int (nI (i + 1))), (0, .ref a), (1, .ref b1), (2, .ref b2), (3, .ref b3), (4, .ref pc2)]) [0, 4, 5, 6, 7, 8] rfl ?_
        exact ih (i + 1) H8 (va_up f i (yf i)) (⟨by omega, by omega, fun q w1 w2 => (ho8 q w2).trans (hoKc q w1 w2), hp8, fun j hj => by
                  rcases Nat.lt_or_ge j i with w | w
                  · rw [va_up, if_neg (by omega)]
                    exact (k7c j w).kept (fun q _ w2 => ho8 q (fun e => by rw [e, va_up, if_pos rfl] at w2; cases w2))
                  · rw [show j = i by omega, va_up, if_pos rfl]
                    exact hnew.kept (fun q _ w2 => ho8 q (fun e => by rw [e, va_up, if_pos rfl] at w2; cases w2)), by omega, by omega⟩) (by omega)


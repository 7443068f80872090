/-! hearings, pieces -/
theorem nI_m1 {a : Nat} (h : a < 2 ^ 31) : nI a - 1 = -1 ↔ a = 0 := by
  constructor
  · intro e
    have e2 : nI a = nI 0 := by
      have := congrArg (fun z => z + 1) e
      simpa [nI] using this
    exact (nI_eq h (by decide)).mp e2
  · rintro rfl; rfl
theorem nI_m2 {a : Nat} (h : 0 < a) : nI a - 1 = nI (a - 1) := by
  rw [show (1 : Int32) = nI 1 from rfl, pk_sub h]
def sc_n (g : Nat → Nat) : Nat → Nat := sm (fun j => if g j = 0 then 0 else 1)
def sc_s (g : Nat → Nat) : Nat → Nat := sm (fun j => g j - 1)
def sc_l (g : Nat → Nat) : Nat → Nat
  | 0 => 20
  | k + 1 => if g k = 0 then sc_l g k else if g k - 1 < sc_l g k then g k - 1 else sc_l g k
def sc_g (g : Nat → Nat) : Nat → Nat
  | 0 => 0
  | k + 1 => if g k = 0 then sc_g g k else if sc_g g k < g k - 1 then g k - 1 else sc_g g k
/-- the points: of the marks that count (each kept one greater, 0 for none) -/
def sp_pt (g : Nat → Nat) : Nat := if 4 ≤ sc_n g 5 then sc_s g 5 - sc_l g 5 - sc_g g 5 else sc_s g 5
def sc_key (g : Nat → Nat) : Nat → Nat := sm (fun j => if g j = 0 then 0 else 2 ^ (3 * (g j - 1)))
theorem sc_l0 {g : Nat → Nat} {k : Nat} (z : g k = 0) : sc_l g (k + 1) = sc_l g k := by rw [sc_l, if_pos z]
theorem sc_l1 {g : Nat → Nat} {k : Nat} (z : 0 < g k) (h : g k - 1 < sc_l g k) : sc_l g (k + 1) = g k - 1 := by rw [sc_l, if_neg (Nat.ne_of_gt z), if_pos h]
theorem sc_l2 {g : Nat → Nat} {k : Nat} (z : 0 < g k) (h : sc_l g k ≤ g k - 1) : sc_l g (k + 1) = sc_l g k := by rw [sc_l, if_neg (Nat.ne_of_gt z), if_neg (Nat.not_lt.mpr h)]
theorem sc_g0 {g : Nat → Nat} {k : Nat} (z : g k = 0) : sc_g g (k + 1) = sc_g g k := by rw [sc_g, if_pos z]
theorem sc_g1 {g : Nat → Nat} {k : Nat} (z : 0 < g k) (h : sc_g g k < g k - 1) : sc_g g (k + 1) = g k - 1 := by rw [sc_g, if_neg (Nat.ne_of_gt z), if_pos h]
theorem sc_g2 {g : Nat → Nat} {k : Nat} (z : 0 < g k) (h : g k - 1 ≤ sc_g g k) : sc_g g (k + 1) = sc_g g k := by rw [sc_g, if_neg (Nat.ne_of_gt z), if_neg (Nat.not_lt.mpr h)]
theorem sc_n0 {g : Nat → Nat} {k : Nat} (z : g k = 0) : sc_n g (k + 1) = sc_n g k := by show sc_n g k + (if g k = 0 then 0 else 1) = _; rw [if_pos z]; rfl
theorem sc_n1 {g : Nat → Nat} {k : Nat} (z : 0 < g k) : sc_n g (k + 1) = sc_n g k + 1 := by show sc_n g k + (if g k = 0 then 0 else 1) = _; rw [if_neg (Nat.ne_of_gt z)]
theorem sc_s0 {g : Nat → Nat} {k : Nat} (z : g k = 0) : sc_s g (k + 1) = sc_s g k := by show sc_s g k + (g k - 1) = _; rw [z]; rfl
theorem sc_s1 {g : Nat → Nat} {k : Nat} : sc_s g (k + 1) = sc_s g k + (g k - 1) := rfl
theorem sc_k0 {g : Nat → Nat} {k : Nat} (z : g k = 0) : sc_key g (k + 1) = sc_key g k := by show sc_key g k + (if g k = 0 then 0 else 2 ^ (3 * (g k - 1))) = _; rw [if_pos z]; rfl
theorem sc_k1 {g : Nat → Nat} {k : Nat} (z : 0 < g k) : sc_key g (k + 1) = sc_key g k + 2 ^ (3 * (g k - 1)) := by show sc_key g k + (if g k = 0 then 0 else 2 ^ (3 * (g k - 1))) = _; rw [if_neg (Nat.ne_of_gt z)]
theorem sc_b {g : Nat → Nat} (h : ∀ j, j < 5 → g j ≤ 21) : ∀ k, k ≤ 5 → sc_s g k ≤ 20 * k ∧ sc_n g k ≤ k ∧ sc_l g k ≤ 20 ∧ sc_g g k ≤ 20 ∧ (sc_n g k = 0 → sc_s g k = 0 ∧ sc_l g k = 20 ∧ sc_g g k = 0) ∧ (sc_n g k = 1 → sc_s g k = sc_l g k ∧ sc_g g k = sc_l g k) ∧ (1 ≤ sc_n g k → sc_l g k ≤ sc_g g k ∧ sc_g g k ≤ sc_s g k) ∧ (2 ≤ sc_n g k → sc_l g k + sc_g g k ≤ sc_s g k)
  | 0, _ => by simp [sc_s, sc_n, sc_l, sc_g, sm]
  | k + 1, hk => by
    have ih := sc_b h k (by omega)
    have hg := h k (by omega)
    obtain ⟨i1, i2, i3, i4, i6, i7, i8, i9⟩ := ih
    rcases Nat.eq_zero_or_pos (g k) with z | z
    · rw [sc_l0 z, sc_g0 z, sc_n0 z, sc_s0 z]
      refine ⟨by omega, by omega, by omega, by omega, by omega, by omega, by omega, by omega⟩
    · rw [sc_n1 z, sc_s1]
      rcases Nat.lt_or_ge (g k - 1) (sc_l g k) with y | y <;> rcases Nat.lt_or_ge (sc_g g k) (g k - 1) with x | x
      · rw [sc_l1 z y, sc_g1 z x]
        refine ⟨by omega, by omega, by omega, by omega, by omega, by omega, by omega, by omega⟩
      · rw [sc_l1 z y, sc_g2 z x]
        refine ⟨by omega, by omega, by omega, by omega, by omega, by omega, by omega, by omega⟩
      · rw [sc_l2 z y, sc_g1 z x]
        refine ⟨by omega, by omega, by omega, by omega, by omega, by omega, by omega, by omega⟩
      · rw [sc_l2 z y, sc_g2 z x]
        refine ⟨by omega, by omega, by omega, by omega, by omega, by omega, by omega, by omega⟩
theorem sc_kb {g : Nat → Nat} (h : ∀ j, j < 5 → g j ≤ 21) : sc_key g 5 < 2 ^ 63 := by
  have := sm_le (f := fun j => if g j = 0 then 0 else 2 ^ (3 * (g j - 1))) (c := 2 ^ 60) (n := 5) (fun j hj => by
    show (if g j = 0 then 0 else 2 ^ (3 * (g j - 1))) ≤ 2 ^ 60
    have := h j hj
    by_cases z : g j = 0
    · rw [if_pos z]; exact Nat.zero_le _
    · rw [if_neg z]; exact Nat.pow_le_pow_right (by decide) (by omega))
  exact Nat.lt_of_le_of_lt this (by decide)
theorem sc_shl : ∀ v : Nat, v < 21 → (1 : Int64) <<< ((nI (3 * v)).toInt64 &&& 63) = lN (2 ^ (3 * v)) := by decide +kernel

set_option maxHeartbeats 4000000 in
set_option maxRecDepth 100000 in
theorem m_J7_fill_53178 (D : va_G) (E : Nat → ClassId) (B : Nat) (l : Launch) (a N : Nat) (f : Nat → Int32) (x : Int32) (hN : N < 2 ^ 31) : zs_Ct D E B l yJ7_fill_53178 cJ7_fill_53178 4 none ({ frames := 0, cells := 0, slots := 0, locals := 0 } : Room) [.ref a, .int x] (fun H => zs_pt D a (.inl (E 0, N, .inl f)) H) (fun q => q = a) (fun v H H1 => v = none ∧ H1.size = H.size ∧ zs_pt D a (.inl (E 0, N, .inl (fun _ => x))) H1) := by
  refine zs_ct (by decide) (Nat.le_of_ble_eq_true rfl) (fun p e s m below meth c hE hr hin hp => ?_)
  refine zs_lo (lo' := [(0, .ref a), (1, .int x)]) rfl ?_
  refine zs_iconst (v := (nI 0)) hE dJ7_fill_53178_0 (by decide) ?_
  refine zs_istore_n (lo' := [(2, .int (nI 0)), (0, .ref a), (1, .int x)]) hE dJ7_fill_53178_1 rfl (by decide) rfl ?_
  refine zs_aload_n hE 1 dJ7_fill_53178_2 rfl rfl ?_
  refine zs_alen hE hp rfl dJ7_fill_53178_3 ?_
  refine zs_istore_n (lo' := [(3, .int (nI N)), (2, .int (nI 0)), (0, .ref a), (1, .int x)]) hE dJ7_fill_53178_4 rfl (by decide) rfl ?_
  refine zs_sub (lo' := [(2, .int (nI 0)), (0, .ref a), (1, .int x), (3, .int (nI N))]) [1, 2, 3, 0] rfl ?_
  refine zs_ind3 (Hs := fun (i : Nat) (K : Heap) (g : Nat → Int32) => K) (ks := fun (i : Nat) (K : Heap) (g : Nat → Int32) => 0) (ns := fun (i : Nat) (K : Heap) (g : Nat → Int32) => 0) (los := fun (i : Nat) (K : Heap) (g : Nat → Int32) => [(2, .int (nI i)), (0, .ref a), (1, .int x), (3, .int (nI N))]) (I := fun (i : Nat) (K : Heap) (g : Nat → Int32) => i ≤ N ∧ zs_pt D a (.inl (E 0, N, .inl g)) K ∧ (∀ j, j < i → g j = x) ∧ K.size = s.heap.size) (μ := fun (i : Nat) (K : Heap) (g : Nat → Int32) => N - i) 0 s.heap f (⟨Nat.zero_le _, hp, fun j hj => absurd hj (Nat.not_lt_zero _), rfl⟩) (fun i K g hi ih => ?_)
  try dsimp only at hi ih ⊢
  obtain ⟨hi0, k1, k2, k3⟩ := hi
  refine zs_iload_n hE 0 dJ7_fill_53178_5 rfl rfl ?_
  refine zs_iload_n hE 3 dJ7_fill_53178_6 rfl rfl ?_
  refine zs_icmp_geN (tgt := 20) hE (by omega) (by omega) dJ7_fill_53178_7 (by decide) (fun h => ?_) (fun h => ?_)
  · exact zs_vret hE hr (⟨rfl, k3, k1.congA (fun j hj => k2 j (by omega))⟩) (by decide) (by decide) dJ7_fill_53178_20
  · refine zs_aload_n hE 1 dJ7_fill_53178_10 rfl rfl ?_
    refine zs_iload_n hE 0 dJ7_fill_53178_11 rfl rfl ?_
    refine zs_iload_n hE 2 dJ7_fill_53178_12 rfl rfl ?_
    refine zs_iast hE k1 (Or.inl rfl) (by omega) (by omega) dJ7_fill_53178_13 (fun H1 hp1 hz1 ho1 => ?_)
    refine zs_iincN (lo' := [(2, .int (nI (i + 1))), (0, .ref a), (1, .int x), (3, .int (nI N))]) hE 0 dJ7_fill_53178_14 rfl (by decide) rfl ?_
    refine zs_goto (tgt := 5) hE dJ7_fill_53178_17 (by decide) ?_
    refine zs_sub (lo' := [(2, .int (nI (i + 1))), (0, .ref a), (1, .int x), (3, .int (nI N))]) [0, 1, 2, 3] rfl ?_
    exact ih (i + 1) H1 (va_up g i x) (⟨by omega, hp1, fun j hj => by rcases Nat.lt_or_ge j i with w | w; rw [va_up, if_neg (by omega)]; exact k2 j w; rw [show j = i by omega, va_up, if_pos rfl], hz1.trans k3⟩) (by omega)

set_option maxHeartbeats 4000000 in
set_option maxRecDepth 100000 in
theorem m_X0_init (D : va_G) (E : Nat → ClassId) (B : Nat) (l : Launch) (a : Nat) : zs_Ct D E B l yX0_init cX0_init 1 none ({ frames := 1, cells := 2, slots := 10, locals := 40 } : Room) [.ref a] (fun H => zs_pt D a (.inr (0, [.int 0, .null, .null])) H) (fun q => q = a) (fun v H H1 => v = none ∧ ∃ t g : Nat, t = H.size ∧ g = H.size + 1 ∧ H1.size = H.size + 2 ∧ zs_pt D a (.inr (0, [.int (-1), .ref t, .ref g])) H1 ∧ zs_pt D t (.inl (E 0, 5, .inl (fun _ => -1))) H1 ∧ zs_pt D g (.inl (E 0, 5, .inl (fun _ => -1))) H1) := by
  refine zs_ct (by decide) (Nat.le_of_ble_eq_true rfl) (fun p e s m below meth c hE hr hin hp => ?_)
  refine zs_lo (lo' := [(0, .ref a)]) rfl ?_
  refine zs_aload_n hE 0 dX0_init_0 rfl rfl ?_
  refine zs_objInit hE ol_X0_3 q_objI q_objC dX0_init_1 (by decide) (Nat.le_of_ble_eq_true rfl) (by decide) ?_
  refine zs_aload_n hE 0 dX0_init_4 rfl rfl ?_
  refine zs_iconst (v := (-1)) hE dX0_init_5 (by decide) ?_
  refine zs_put (v := .int (-1)) hE fl_X0_9 hp (Or.inl rfl) (rfl) (rfl) (Nat.le_of_ble_eq_true rfl) dX0_init_6 (fun H1 hp1 hz1 ho1 => ?_)
  have hp1 : zs_pt D a (.inr (0, [.int (-1), .null, .null])) H1 := hp1
  refine zs_aload_n hE 0 dX0_init_9 rfl rfl ?_
  refine zs_iconst (v := (nI 5)) hE dX0_init_10 (by decide) ?_
  refine zs_newi hE q_arr_int (by decide) (by decide) (by decide) dX0_init_11 (fun q2 H2 hq2 hp2 hz2 ho2 => ?_)
  refine zs_widen (k' := 1) (n' := 5) (by omega) (by omega) ?_
  have ne3 : a ≠ q2 := by have := zs_pt.lt hp1; omega
  have hp1 := zs_pt.kept hp1 (ho2 _ (zs_pt.lt hp1))
  refine zs_putF (v := .ref q2) hE (hin rfl) fl_X0_15 ⟨_, _, _, rfl, rfl⟩ hp1 (Or.inl rfl) (rfl) (rfl) (Nat.le_of_ble_eq_true rfl) dX0_init_13 (fun H4 hp4 hz4 ho4 => ?_)
  have hp2 := zs_pt.kept hp2 (ho4 _ ne3.symm)
  have hp4 : zs_pt D a (.inr (0, [.int (-1), .ref q2, .null])) H4 := hp4
  refine zs_aload_n hE 0 dX0_init_16 rfl rfl ?_
  refine zs_iconst (v := (nI 5)) hE dX0_init_17 (by decide) ?_
  refine zs_newi hE q_arr_int (by decide) (by decide) (by decide) dX0_init_18 (fun q5 H5 hq5 hp5 hz5 ho5 => ?_)
  refine zs_widen (k' := 2) (n' := 10) (by omega) (by omega) ?_
  have ne6 : a ≠ q5 := by have := zs_pt.lt hp4; omega
  have hp4 := zs_pt.kept hp4 (ho5 _ (zs_pt.lt hp4))
  have ne7 : q2 ≠ q5 := by have := zs_pt.lt hp2; omega
  have hp2 := zs_pt.kept hp2 (ho5 _ (zs_pt.lt hp2))
  refine zs_putF (v := .ref q5) hE (hin rfl) fl_X0_19 ⟨_, _, _, rfl, rfl⟩ hp4 (Or.inl rfl) (rfl) (rfl) (Nat.le_of_ble_eq_true rfl) dX0_init_20 (fun H8 hp8 hz8 ho8 => ?_)
  have hp2 := zs_pt.kept hp2 (ho8 _ ne3.symm)
  have hp5 := zs_pt.kept hp5 (ho8 _ ne6.symm)
  have hp8 : zs_pt D a (.inr (0, [.int (-1), .ref q2, .ref q5])) H8 := hp8
  refine zs_aload_n hE 0 dX0_init_23 rfl rfl ?_
  refine zs_get hE fl_X0_15 hp8 rfl dX0_init_24 ?_
  refine zs_iconst (v := (-1)) hE dX0_init_27 (by decide) ?_
  refine zs_callS (av := [.ref q2, .int (-1)]) (st := []) hE (m_J7_fill_53178 D E B l q2 5 _ (-1) (by decide)) sS_X0_22 (hp2) ⟨by decide, by decide⟩ ⟨by decide, by decide⟩ (fun q w => Or.inr (by omega)) (Nat.le_of_ble_eq_true rfl) dX0_init_28 (fun v9 H9 hv9 hz9 hk9 => ?_)
  obtain ⟨rfl, cz, c1⟩ := hv9
  refine zs_widen (k' := 2) (n' := 10) (by decide) (by decide) ?_
  have hp8 := zs_pt.kept hp8 (hk9 _ (zs_pt.lt hp8) (by omega))
  have hp5 := zs_pt.kept hp5 (hk9 _ (zs_pt.lt hp5) (by omega))
  refine zs_aload_n hE 0 dX0_init_31 rfl rfl ?_
  refine zs_get hE fl_X0_19 hp8 rfl dX0_init_32 ?_
  refine zs_iconst (v := (-1)) hE dX0_init_35 (by decide) ?_
  refine zs_callS (av := [.ref q5, .int (-1)]) (st := []) hE (m_J7_fill_53178 D E B l q5 5 _ (-1) (by decide)) sS_X0_22 (hp5) ⟨by decide, by decide⟩ ⟨by decide, by decide⟩ (fun q w => Or.inr (by omega)) (Nat.le_of_ble_eq_true rfl) dX0_init_36 (fun v10 H10 hv10 hz10 hk10 => ?_)
  obtain ⟨rfl, dz, d1⟩ := hv10
  refine zs_widen (k' := 2) (n' := 10) (by decide) (by decide) ?_
  have hp8 := zs_pt.kept hp8 (hk10 _ (zs_pt.lt hp8) (by omega))
  have c1 := zs_pt.kept c1 (hk10 _ (zs_pt.lt c1) (by omega))
  exact zs_vret hE hr (⟨rfl, q2, q5, by omega, by omega, by omega, hp8, c1, d1⟩) (by decide) (by decide) dX0_init_39

set_option maxHeartbeats 4000000 in
set_option maxRecDepth 100000 in
theorem m_X0_startWith (D : va_G) (E : Nat → ClassId) (B : Nat) (l : Launch) (a t g : Nat) (w x : Int32) (f1 f2 : Nat → Int32) (h1 : t ≠ a) (h2 : g ≠ a) (h3 : t ≠ g) : zs_Ct D E B l yX0_startWith cX0_startWith 2 none ({ frames := 1, cells := 0, slots := 0, locals := 23 } : Room) [.ref a, .int x] (fun H => zs_pt D a (.inr (0, [.int w, .ref t, .ref g])) H ∧ zs_pt D t (.inl (E 0, 5, .inl f1)) H ∧ zs_pt D g (.inl (E 0, 5, .inl f2)) H) (fun q => q = a ∨ q = t ∨ q = g) (fun v H H1 => v = none ∧ H1.size = H.size ∧ zs_pt D a (.inr (0, [.int x, .ref t, .ref g])) H1 ∧ zs_pt D t (.inl (E 0, 5, .inl (fun _ => -1))) H1 ∧ zs_pt D g (.inl (E 0, 5, .inl (fun _ => -1))) H1) := by
  refine zs_ct (by decide) (Nat.le_of_ble_eq_true rfl) (fun p e s m below meth c hE hr hin hp => ?_)
  refine zs_lo (lo' := [(0, .ref a), (1, .int x)]) rfl ?_
  obtain ⟨p1, p2, p3⟩ := hp
  refine zs_aload_n hE 0 dX0_startWith_0 rfl rfl ?_
  refine zs_iload_n hE 1 dX0_startWith_1 rfl rfl ?_
  refine zs_put (v := .int x) hE fl_X0_9 p1 (Or.inl (Or.inl rfl)) (rfl) (rfl) (Nat.le_of_ble_eq_true rfl) dX0_startWith_2 (fun H1 hp1 hz1 ho1 => ?_)
  have p2 := zs_pt.kept p2 (ho1 _ h1)
  have p3 := zs_pt.kept p3 (ho1 _ h2)
  have hp1 : zs_pt D a (.inr (0, [.int x, .ref t, .ref g])) H1 := hp1
  refine zs_aload_n hE 0 dX0_startWith_5 rfl rfl ?_
  refine zs_get hE fl_X0_15 hp1 rfl dX0_startWith_6 ?_
  refine zs_iconst (v := (-1)) hE dX0_startWith_9 (by decide) ?_
  refine zs_callS (av := [.ref t, .int (-1)]) (st := []) hE (m_J7_fill_53178 D E B l t 5 _ (-1) (by decide)) sS_X0_22 (p2) ⟨by decide, by decide⟩ ⟨by decide, by decide⟩ (fun q w => Or.inl (Or.inr (Or.inl w))) (Nat.le_of_ble_eq_true rfl) dX0_startWith_10 (fun v2 H2 hv2 hz2 hk2 => ?_)
  obtain ⟨rfl, cz, c1⟩ := hv2
  refine zs_widen (k' := 0) (n' := 0) (by decide) (by decide) ?_
  have hp1 := zs_pt.kept hp1 (hk2 _ (zs_pt.lt hp1) (fun e => h1 e.symm))
  have p3 := zs_pt.kept p3 (hk2 _ (zs_pt.lt p3) (fun e => h3 e.symm))
  refine zs_aload_n hE 0 dX0_startWith_13 rfl rfl ?_
  refine zs_get hE fl_X0_19 hp1 rfl dX0_startWith_14 ?_
  refine zs_iconst (v := (-1)) hE dX0_startWith_17 (by decide) ?_
  refine zs_callS (av := [.ref g, .int (-1)]) (st := []) hE (m_J7_fill_53178 D E B l g 5 _ (-1) (by decide)) sS_X0_22 (p3) ⟨by decide, by decide⟩ ⟨by decide, by decide⟩ (fun q w => Or.inl (Or.inr (Or.inr w))) (Nat.le_of_ble_eq_true rfl) dX0_startWith_18 (fun v3 H3 hv3 hz3 hk3 => ?_)
  obtain ⟨rfl, dz, d1⟩ := hv3
  refine zs_widen (k' := 0) (n' := 0) (by decide) (by decide) ?_
  have hp1 := zs_pt.kept hp1 (hk3 _ (zs_pt.lt hp1) (fun e => h2 e.symm))
  exact zs_vret hE hr (⟨rfl, by omega, hp1, c1.kept (hk3 _ c1.lt (fun e => h3 e)), d1⟩) (by decide) (by decide) dX0_startWith_21

set_option maxHeartbeats 4000000 in
set_option maxRecDepth 100000 in
theorem m_X0_score (D : va_G) (E : Nat → ClassId) (B : Nat) (l : Launch) (a t g : Nat) (w : Int32) (ct : Nat → Nat) (hc : ∀ j, j < 5 → ct j ≤ 21) : zs_Ct D E B l yX0_score cX0_score 9 (some .int) ({ frames := 0, cells := 0, slots := 0, locals := 0 } : Room) [.ref a] (fun H => zs_pt D a (.inr (0, [.int w, .ref t, .ref g])) H ∧ zs_pt D g (.inl (E 0, 5, .inl (fun j => nI (ct j) - 1))) H) (zs_N) (zs_ro (.int (nI (sp_pt ct)))) := by
  refine zs_ct (by decide) (Nat.le_of_ble_eq_true rfl) (fun p e s m below meth c hE hr hin hp => ?_)
  refine zs_lo (lo' := [(0, .ref a)]) rfl ?_
  obtain ⟨p1, p3⟩ := hp
  refine zs_iconst (v := (nI 0)) hE dX0_score_0 (by decide) ?_
  refine zs_istore_n (lo' := [(1, .int (nI 0)), (0, .ref a)]) hE dX0_score_1 rfl (by decide) rfl ?_
  refine zs_iconst (v := (nI 0)) hE dX0_score_2 (by decide) ?_
  refine zs_istore_n (lo' := [(2, .int (nI 0)), (1, .int (nI 0)), (0, .ref a)]) hE dX0_score_3 rfl (by decide) rfl ?_
  refine zs_bipush (v := (nI 20)) hE dX0_score_4 (by decide) ?_
  refine zs_istore_n (lo' := [(3, .int (nI 20)), (2, .int (nI 0)), (1, .int (nI 0)), (0, .ref a)]) hE dX0_score_6 rfl (by decide) rfl ?_
  refine zs_iconst (v := (nI 0)) hE dX0_score_7 (by decide) ?_
  refine zs_istore (lo' := [(4, .int (nI 0)), (3, .int (nI 20)), (2, .int (nI 0)), (1, .int (nI 0)), (0, .ref a)]) hE dX0_score_8 (by decide) rfl ?_
  refine zs_aload_n hE 4 dX0_score_10 rfl rfl ?_
  refine zs_get hE fl_X0_19 p1 rfl dX0_score_11 ?_
  refine zs_astore (lo' := [(5, .ref g), (4, .int (nI 0)), (3, .int (nI 20)), (2, .int (nI 0)), (1, .int (nI 0)), (0, .ref a)]) hE dX0_score_14 (by decide) rfl ?_
  refine zs_aload hE 0 dX0_score_16 rfl ?_
  refine zs_alen hE p3 rfl dX0_score_18 ?_
  refine zs_istore (lo' := [(6, .int (nI 5)), (5, .ref g), (4, .int (nI 0)), (3, .int (nI 20)), (2, .int (nI 0)), (1, .int (nI 0)), (0, .ref a)]) hE dX0_score_19 (by decide) rfl ?_
  refine zs_iconst (v := (nI 0)) hE dX0_score_21 (by decide) ?_
  refine zs_istore (lo' := [(7, .int (nI 0)), (6, .int (nI 5)), (5, .ref g), (4, .int (nI 0)), (3, .int (nI 20)), (2, .int (nI 0)), (1, .int (nI 0)), (0, .ref a)]) hE dX0_score_22 (by decide) rfl ?_
  refine zs_sub (lo' := [(7, .int (nI 0)), (1, .int (nI 0)), (2, .int (nI 0)), (3, .int (nI 20)), (4, .int (nI 0)), (5, .ref g), (6, .int (nI 5))]) [0, 6, 5, 4, 3, 2, 1] rfl ?_
  refine zs_ind1 (Hs := fun (i : Nat) => s.heap) (ks := fun (i : Nat) => 0) (ns := fun (i : Nat) => 0) (los := fun (i : Nat) => [(7, .int (nI i)), (1, .int (nI (sc_n ct (i)))), (2, .int (nI (sc_s ct (i)))), (3, .int (nI (sc_l ct (i)))), (4, .int (nI (sc_g ct (i)))), (5, .ref g), (6, .int (nI 5))]) (I := fun (i : Nat) => i ≤ 5) (μ := fun (i : Nat) => 5 - i) 0 (Nat.zero_le _) (fun i hi ih => ?_)
  try dsimp only at hi ih ⊢
  have bb := sc_b hc i hi
  refine zs_iload hE 0 dX0_score_24 rfl ?_
  refine zs_iload hE 6 dX0_score_26 rfl ?_
  refine zs_icmp_geN (tgt := 87) hE (by omega) (by decide) dX0_score_28 (by decide) (fun h3 => ?_) (fun h => ?_)
  · obtain rfl : i = 5 := by omega
    refine zs_iload_n hE 1 dX0_score_87 rfl rfl ?_
    refine zs_iconst (v := (nI 4)) hE dX0_score_88 (by decide) ?_
    refine zs_icmp_ltN (tgt := 101) hE (by omega) (by decide) dX0_score_89 (by decide) (fun h4 => ?_) (fun h4 => ?_)
    · refine zs_iload_n hE 2 dX0_score_101 rfl rfl ?_
      refine zs_top (v' := .int (nI (sp_pt ct))) (by rw [sp_pt, if_neg (by omega)]) ?_
      exact zs_iret hE hr (⟨rfl, rfl⟩) (by decide) (by decide) dX0_score_102
    · refine zs_iload_n hE 2 dX0_score_92 rfl rfl ?_
      refine zs_iload_n hE 3 dX0_score_93 rfl rfl ?_
      refine zs_isubN hE (by omega) dX0_score_94 ?_
      refine zs_iload hE 4 dX0_score_95 rfl ?_
      refine zs_isubN hE (by omega) dX0_score_97 ?_
      refine zs_goto (tgt := 102) hE dX0_score_98 (by decide) ?_
      refine zs_top (v' := .int (nI (sp_pt ct))) (by rw [sp_pt, if_pos (by omega)]) ?_
      exact zs_iret hE hr (⟨rfl, rfl⟩) (by decide) (by decide) dX0_score_102
  · have hci := hc i h
    refine zs_aload hE 5 dX0_score_31 rfl ?_
    refine zs_iload hE 0 dX0_score_33 rfl ?_
    refine zs_iald hE p3 (by omega) (by decide) dX0_score_35 ?_
    refine zs_istore (lo' := [(8, .int (nI (ct i) - 1)), (7, .int (nI i)), (1, .int (nI (sc_n ct (i)))), (2, .int (nI (sc_s ct (i)))), (3, .int (nI (sc_l ct (i)))), (4, .int (nI (sc_g ct (i)))), (5, .ref g), (6, .int (nI 5))]) hE dX0_score_36 (by decide) rfl ?_
    refine zs_iload hE 0 dX0_score_38 rfl ?_
    refine zs_iconst (v := (-1)) hE dX0_score_40 (by decide) ?_
    refine zs_icmp_eq (tgt := 81) hE dX0_score_41 (by decide) (fun h4 => ?_) (fun h4 => ?_)
    · have z : ct i = 0 := (nI_m1 (by omega)).mp h4
      refine zs_iincN (lo' := [(7, .int (nI (i + 1))), (8, .int (nI (ct i) - 1)), (1, .int (nI (sc_n ct (i)))), (2, .int (nI (sc_s ct (i)))), (3, .int (nI (sc_l ct (i)))), (4, .int (nI (sc_g ct (i)))), (5, .ref g), (6, .int (nI 5))]) hE 1 dX0_score_81 rfl (by decide) rfl ?_
      refine zs_goto (tgt := 24) hE dX0_score_84 (by decide) ?_
      refine zs_sub (lo' := [(7, .int (nI (i + 1))), (1, .int (nI (sc_n ct (i)))), (2, .int (nI (sc_s ct (i)))), (3, .int (nI (sc_l ct (i)))), (4, .int (nI (sc_g ct (i)))), (5, .ref g), (6, .int (nI 5))]) [0, 2, 3, 4, 5, 6, 7] rfl ?_
      refine zs_lo (lo' := [(7, .int (nI (i + 1))), (1, .int (nI (sc_n ct (i + 1)))), (2, .int (nI (sc_s ct (i + 1)))), (3, .int (nI (sc_l ct (i + 1)))), (4, .int (nI (sc_g ct (i + 1)))), (5, .ref g), (6, .int (nI 5))]) (by rw [sc_l0 z, sc_g0 z, sc_n0 z, sc_s0 z]) ?_
      refine zs_sub (lo' := [(7, .int (nI (i + 1))), (1, .int (nI (sc_n ct (i + 1)))), (2, .int (nI (sc_s ct (i + 1)))), (3, .int (nI (sc_l ct (i + 1)))), (4, .int (nI (sc_g ct (i + 1)))), (5, .ref g), (6, .int (nI 5))]) [0, 1, 2, 3, 4, 5, 6] rfl ?_
      exact ih (i + 1) (by omega) (by omega)
    · have z : 0 < ct i := Nat.pos_of_ne_zero (fun e => h4 ((nI_m1 (by omega)).mpr e))
      refine zs_lo (lo' := [(8, .int (nI (ct i - 1))), (7, .int (nI i)), (1, .int (nI (sc_n ct (i)))), (2, .int (nI (sc_s ct (i)))), (3, .int (nI (sc_l ct (i)))), (4, .int (nI (sc_g ct (i)))), (5, .ref g), (6, .int (nI 5))]) (by rw [nI_m2 z]) ?_
      refine zs_iincN (lo' := [(1, .int (nI (sc_n ct (i) + 1))), (8, .int (nI (ct i - 1))), (7, .int (nI i)), (2, .int (nI (sc_s ct (i)))), (3, .int (nI (sc_l ct (i)))), (4, .int (nI (sc_g ct (i)))), (5, .ref g), (6, .int (nI 5))]) hE 2 dX0_score_44 rfl (by decide) rfl ?_
      refine zs_iload_n hE 3 dX0_score_47 rfl rfl ?_
      refine zs_iload hE 1 dX0_score_48 rfl ?_
      refine zs_iaddN hE dX0_score_50 ?_
      refine zs_istore_n (lo' := [(2, .int (nI (sc_s ct (i) + (ct i - 1)))), (1, .int (nI (sc_n ct (i) + 1))), (8, .int (nI (ct i - 1))), (7, .int (nI i)), (3, .int (nI (sc_l ct (i)))), (4, .int (nI (sc_g ct (i)))), (5, .ref g), (6, .int (nI 5))]) hE dX0_score_51 rfl (by decide) rfl ?_
      refine zs_iload hE 2 dX0_score_52 rfl ?_
      refine zs_iload_n hE 4 dX0_score_54 rfl rfl ?_
      refine zs_icmp_geN (tgt := 63) hE (by omega) (by omega) dX0_score_55 (by decide) (fun h5 => ?_) (fun h5 => ?_)
      · refine zs_iload_n hE 4 dX0_score_63 rfl rfl ?_
        refine zs_istore_n (lo' := [(3, .int (nI (sc_l ct (i)))), (2, .int (nI (sc_s ct (i) + (ct i - 1)))), (1, .int (nI (sc_n ct (i) + 1))), (8, .int (nI (ct i - 1))), (7, .int (nI i)), (4, .int (nI (sc_g ct (i)))), (5, .ref g), (6, .int (nI 5))]) hE dX0_score_64 rfl (by decide) rfl ?_
        refine zs_iload hE 3 dX0_score_65 rfl ?_
        refine zs_iload hE 5 dX0_score_67 rfl ?_
        refine zs_icmp_leN (tgt := 77) hE (by omega) (by omega) dX0_score_69 (by decide) (fun h6 => ?_) (fun h6 => ?_)
        · refine zs_iload hE 5 dX0_score_77 rfl ?_
          refine zs_istore (lo' := [(4, .int (nI (sc_g ct (i)))), (3, .int (nI (sc_l ct (i)))), (2, .int (nI (sc_s ct (i) + (ct i - 1)))), (1, .int (nI (sc_n ct (i) + 1))), (8, .int (nI (ct i - 1))), (7, .int (nI i)), (5, .ref g), (6, .int (nI 5))]) hE dX0_score_79 (by decide) rfl ?_
          refine zs_iincN (lo' := [(7, .int (nI (i + 1))), (4, .int (nI (sc_g ct (i)))), (3, .int (nI (sc_l ct (i)))), (2, .int (nI (sc_s ct (i) + (ct i - 1)))), (1, .int (nI (sc_n ct (i) + 1))), (8, .int (nI (ct i - 1))), (5, .ref g), (6, .int (nI 5))]) hE 5 dX0_score_81 rfl (by decide) rfl ?_
          refine zs_goto (tgt := 24) hE dX0_score_84 (by decide) ?_
          refine zs_sub (lo' := [(7, .int (nI (i + 1))), (1, .int (nI (sc_n ct (i) + 1))), (2, .int (nI (sc_s ct (i) + (ct i - 1)))), (3, .int (nI (sc_l ct (i)))), (4, .int (nI (sc_g ct (i)))), (5, .ref g), (6, .int (nI 5))]) [0, 4, 3, 2, 1, 6, 7] rfl ?_
          refine zs_lo (lo' := [(7, .int (nI (i + 1))), (1, .int (nI (sc_n ct (i + 1)))), (2, .int (nI (sc_s ct (i + 1)))), (3, .int (nI (sc_l ct (i + 1)))), (4, .int (nI (sc_g ct (i + 1)))), (5, .ref g), (6, .int (nI 5))]) (by rw [sc_n1 z, sc_s1, sc_l2 z h5, sc_g2 z h6]) ?_
          refine zs_sub (lo' := [(7, .int (nI (i + 1))), (1, .int (nI (sc_n ct (i + 1)))), (2, .int (nI (sc_s ct (i + 1)))), (3, .int (nI (sc_l ct (i + 1)))), (4, .int (nI (sc_g ct (i + 1)))), (5, .ref g), (6, .int (nI 5))]) [0, 1, 2, 3, 4, 5, 6] rfl ?_
          exact ih (i + 1) (by omega) (by omega)
        · refine zs_iload hE 3 dX0_score_72 rfl ?_
          refine zs_goto (tgt := 79) hE dX0_score_74 (by decide) ?_
          refine zs_istore (lo' := [(4, .int (nI (ct i - 1))), (3, .int (nI (sc_l ct (i)))), (2, .int (nI (sc_s ct (i) + (ct i - 1)))), (1, .int (nI (sc_n ct (i) + 1))), (8, .int (nI (ct i - 1))), (7, .int (nI i)), (5, .ref g), (6, .int (nI 5))]) hE dX0_score_79 (by decide) rfl ?_
          refine zs_iincN (lo' := [(7, .int (nI (i + 1))), (4, .int (nI (ct i - 1))), (3, .int (nI (sc_l ct (i)))), (2, .int (nI (sc_s ct (i) + (ct i - 1)))), (1, .int (nI (sc_n ct (i) + 1))), (8, .int (nI (ct i - 1))), (5, .ref g), (6, .int (nI 5))]) hE 5 dX0_score_81 rfl (by decide) rfl ?_
          refine zs_goto (tgt := 24) hE dX0_score_84 (by decide) ?_
          refine zs_sub (lo' := [(7, .int (nI (i + 1))), (1, .int (nI (sc_n ct (i) + 1))), (2, .int (nI (sc_s ct (i) + (ct i - 1)))), (3, .int (nI (sc_l ct (i)))), (4, .int (nI (ct i - 1))), (5, .ref g), (6, .int (nI 5))]) [0, 4, 3, 2, 1, 6, 7] rfl ?_
          refine zs_lo (lo' := [(7, .int (nI (i + 1))), (1, .int (nI (sc_n ct (i + 1)))), (2, .int (nI (sc_s ct (i + 1)))), (3, .int (nI (sc_l ct (i + 1)))), (4, .int (nI (sc_g ct (i + 1)))), (5, .ref g), (6, .int (nI 5))]) (by rw [sc_n1 z, sc_s1, sc_l2 z h5, sc_g1 z h6]) ?_
          refine zs_sub (lo' := [(7, .int (nI (i + 1))), (1, .int (nI (sc_n ct (i + 1)))), (2, .int (nI (sc_s ct (i + 1)))), (3, .int (nI (sc_l ct (i + 1)))), (4, .int (nI (sc_g ct (i + 1)))), (5, .ref g), (6, .int (nI 5))]) [0, 1, 2, 3, 4, 5, 6] rfl ?_
          exact ih (i + 1) (by omega) (by omega)
      · refine zs_iload hE 2 dX0_score_58 rfl ?_
        refine zs_goto (tgt := 64) hE dX0_score_60 (by decide) ?_
        refine zs_istore_n (lo' := [(3, .int (nI (ct i - 1))), (2, .int (nI (sc_s ct (i) + (ct i - 1)))), (1, .int (nI (sc_n ct (i) + 1))), (8, .int (nI (ct i - 1))), (7, .int (nI i)), (4, .int (nI (sc_g ct (i)))), (5, .ref g), (6, .int (nI 5))]) hE dX0_score_64 rfl (by decide) rfl ?_
        refine zs_iload hE 3 dX0_score_65 rfl ?_
        refine zs_iload hE 5 dX0_score_67 rfl ?_
        refine zs_icmp_leN (tgt := 77) hE (by omega) (by omega) dX0_score_69 (by decide) (fun h6 => ?_) (fun h6 => ?_)
        · refine zs_iload hE 5 dX0_score_77 rfl ?_
          refine zs_istore (lo' := [(4, .int (nI (sc_g ct (i)))), (3, .int (nI (ct i - 1))), (2, .int (nI (sc_s ct (i) + (ct i - 1)))), (1, .int (nI (sc_n ct (i) + 1))), (8, .int (nI (ct i - 1))), (7, .int (nI i)), (5, .ref g), (6, .int (nI 5))]) hE dX0_score_79 (by decide) rfl ?_
          refine zs_iincN (lo' := [(7, .int (nI (i + 1))), (4, .int (nI (sc_g ct (i)))), (3, .int (nI (ct i - 1))), (2, .int (nI (sc_s ct (i) + (ct i - 1)))), (1, .int (nI (sc_n ct (i) + 1))), (8, .int (nI (ct i - 1))), (5, .ref g), (6, .int (nI 5))]) hE 5 dX0_score_81 rfl (by decide) rfl ?_
          refine zs_goto (tgt := 24) hE dX0_score_84 (by decide) ?_
          refine zs_sub (lo' := [(7, .int (nI (i + 1))), (1, .int (nI (sc_n ct (i) + 1))), (2, .int (nI (sc_s ct (i) + (ct i - 1)))), (3, .int (nI (ct i - 1))), (4, .int (nI (sc_g ct (i)))), (5, .ref g), (6, .int (nI 5))]) [0, 4, 3, 2, 1, 6, 7] rfl ?_
          refine zs_lo (lo' := [(7, .int (nI (i + 1))), (1, .int (nI (sc_n ct (i + 1)))), (2, .int (nI (sc_s ct (i + 1)))), (3, .int (nI (sc_l ct (i + 1)))), (4, .int (nI (sc_g ct (i + 1)))), (5, .ref g), (6, .int (nI 5))]) (by rw [sc_n1 z, sc_s1, sc_l1 z h5, sc_g2 z h6]) ?_
          refine zs_sub (lo' := [(7, .int (nI (i + 1))), (1, .int (nI (sc_n ct (i + 1)))), (2, .int (nI (sc_s ct (i + 1)))), (3, .int (nI (sc_l ct (i + 1)))), (4, .int (nI (sc_g ct (i + 1)))), (5, .ref g), (6, .int (nI 5))]) [0, 1, 2, 3, 4, 5, 6] rfl ?_
          exact ih (i + 1) (by omega) (by omega)
        · refine zs_iload hE 3 dX0_score_72 rfl ?_
          refine zs_goto (tgt := 79) hE dX0_score_74 (by decide) ?_
          refine zs_istore (lo' := [(4, .int (nI (ct i - 1))), (3, .int (nI (ct i - 1))), (2, .int (nI (sc_s ct (i) + (ct i - 1)))), (1, .int (nI (sc_n ct (i) + 1))), (8, .int (nI (ct i - 1))), (7, .int (nI i)), (5, .ref g), (6, .int (nI 5))]) hE dX0_score_79 (by decide) rfl ?_
          refine zs_iincN (lo' := [(7, .int (nI (i + 1))), (4, .int (nI (ct i - 1))), (3, .int (nI (ct i - 1))), (2, .int (nI (sc_s ct (i) + (ct i - 1)))), (1, .int (nI (sc_n ct (i) + 1))), (8, .int (nI (ct i - 1))), (5, .ref g), (6, .int (nI 5))]) hE 5 dX0_score_81 rfl (by decide) rfl ?_
          refine zs_goto (tgt := 24) hE dX0_score_84 (by decide) ?_
          refine zs_sub (lo' := [(7, .int (nI (i + 1))), (1, .int (nI (sc_n ct (i) + 1))), (2, .int (nI (sc_s ct (i) + (ct i - 1)))), (3, .int (nI (ct i - 1))), (4, .int (nI (ct i - 1))), (5, .ref g), (6, .int (nI 5))]) [0, 4, 3, 2, 1, 6, 7] rfl ?_
          refine zs_lo (lo' := [(7, .int (nI (i + 1))), (1, .int (nI (sc_n ct (i + 1)))), (2, .int (nI (sc_s ct (i + 1)))), (3, .int (nI (sc_l ct (i + 1)))), (4, .int (nI (sc_g ct (i + 1)))), (5, .ref g), (6, .int (nI 5))]) (by rw [sc_n1 z, sc_s1, sc_l1 z h5, sc_g1 z h6]) ?_
          refine zs_sub (lo' := [(7, .int (nI (i + 1))), (1, .int (nI (sc_n ct (i + 1)))), (2, .int (nI (sc_s ct (i + 1)))), (3, .int (nI (sc_l ct (i + 1)))), (4, .int (nI (sc_g ct (i + 1)))), (5, .ref g), (6, .int (nI 5))]) [0, 1, 2, 3, 4, 5, 6] rfl ?_
          exact ih (i + 1) (by omega) (by omega)

set_option maxHeartbeats 4000000 in
set_option maxRecDepth 100000 in
theorem m_X0_fallingMarks (D : va_G) (E : Nat → ClassId) (B : Nat) (l : Launch) (a t g : Nat) (w : Int32) (ct : Nat → Nat) (hc : ∀ j, j < 5 → ct j ≤ 21) : zs_Ct D E B l yX0_fallingMarks cX0_fallingMarks 7 (some .long) ({ frames := 0, cells := 0, slots := 0, locals := 0 } : Room) [.ref a] (fun H => zs_pt D a (.inr (0, [.int w, .ref t, .ref g])) H ∧ zs_pt D g (.inl (E 0, 5, .inl (fun j => nI (ct j) - 1))) H) (zs_N) (zs_ro (.long (lN (sc_key ct 5)))) := by
  refine zs_ct (by decide) (Nat.le_of_ble_eq_true rfl) (fun p e s m below meth c hE hr hin hp => ?_)
  refine zs_lo (lo' := [(0, .ref a)]) rfl ?_
  obtain ⟨p1, p3⟩ := hp
  refine zs_lconst (v := (0 : Int64)) hE dX0_fallingMarks_0 (by decide) ?_
  refine zs_lstore_n (lo' := [(1, .long (0 : Int64)), (0, .ref a)]) hE dX0_fallingMarks_1 rfl (by decide) rfl ?_
  refine zs_aload_n hE 1 dX0_fallingMarks_2 rfl rfl ?_
  refine zs_get hE fl_X0_19 p1 rfl dX0_fallingMarks_3 ?_
  refine zs_astore_n (lo' := [(3, .ref g), (1, .long (0 : Int64)), (0, .ref a)]) hE dX0_fallingMarks_6 rfl (by decide) rfl ?_
  refine zs_aload_n hE 0 dX0_fallingMarks_7 rfl rfl ?_
  refine zs_alen hE p3 rfl dX0_fallingMarks_8 ?_
  refine zs_istore (lo' := [(4, .int (nI 5)), (3, .ref g), (1, .long (0 : Int64)), (0, .ref a)]) hE dX0_fallingMarks_9 (by decide) rfl ?_
  refine zs_iconst (v := (nI 0)) hE dX0_fallingMarks_11 (by decide) ?_
  refine zs_istore (lo' := [(5, .int (nI 0)), (4, .int (nI 5)), (3, .ref g), (1, .long (0 : Int64)), (0, .ref a)]) hE dX0_fallingMarks_12 (by decide) rfl ?_
  refine zs_sub (lo' := [(5, .int (nI 0)), (1, .long (0 : Int64)), (3, .ref g), (4, .int (nI 5))]) [0, 3, 2, 1] rfl ?_
  refine zs_ind1 (Hs := fun (i : Nat) => s.heap) (ks := fun (i : Nat) => 0) (ns := fun (i : Nat) => 0) (los := fun (i : Nat) => [(5, .int (nI i)), (1, .long (lN (sc_key ct (i)))), (3, .ref g), (4, .int (nI 5))]) (I := fun (i : Nat) => i ≤ 5) (μ := fun (i : Nat) => 5 - i) 0 (Nat.zero_le _) (fun i hi ih => ?_)
  try dsimp only at hi ih ⊢
  refine zs_iload hE 0 dX0_fallingMarks_14 rfl ?_
  refine zs_iload hE 3 dX0_fallingMarks_16 rfl ?_
  refine zs_icmp_geN (tgt := 48) hE (by omega) (by decide) dX0_fallingMarks_18 (by decide) (fun h3 => ?_) (fun h => ?_)
  · obtain rfl : i = 5 := by omega
    refine zs_lload_n hE 1 dX0_fallingMarks_48 rfl rfl ?_
    exact zs_lret hE hr (⟨rfl, rfl⟩) (by decide) (by decide) dX0_fallingMarks_49
  · have hci := hc i h
    refine zs_aload_n hE 2 dX0_fallingMarks_21 rfl rfl ?_
    refine zs_iload hE 0 dX0_fallingMarks_22 rfl ?_
    refine zs_iald hE p3 (by omega) (by decide) dX0_fallingMarks_24 ?_
    refine zs_istore (lo' := [(6, .int (nI (ct i) - 1)), (5, .int (nI i)), (1, .long (lN (sc_key ct (i)))), (3, .ref g), (4, .int (nI 5))]) hE dX0_fallingMarks_25 (by decide) rfl ?_
    refine zs_iload hE 0 dX0_fallingMarks_27 rfl ?_
    refine zs_iconst (v := (-1)) hE dX0_fallingMarks_29 (by decide) ?_
    refine zs_icmp_eq (tgt := 42) hE dX0_fallingMarks_30 (by decide) (fun h4 => ?_) (fun h4 => ?_)
    · have z : ct i = 0 := (nI_m1 (by omega)).mp h4
      refine zs_iincN (lo' := [(5, .int (nI (i + 1))), (6, .int (nI (ct i) - 1)), (1, .long (lN (sc_key ct (i)))), (3, .ref g), (4, .int (nI 5))]) hE 1 dX0_fallingMarks_42 rfl (by decide) rfl ?_
      refine zs_goto (tgt := 14) hE dX0_fallingMarks_45 (by decide) ?_
      refine zs_sub (lo' := [(5, .int (nI (i + 1))), (1, .long (lN (sc_key ct (i)))), (3, .ref g), (4, .int (nI 5))]) [0, 2, 3, 4] rfl ?_
      refine zs_lo (lo' := [(5, .int (nI (i + 1))), (1, .long (lN (sc_key ct (i + 1)))), (3, .ref g), (4, .int (nI 5))]) (by rw [sc_k0 z]) ?_
      refine zs_sub (lo' := [(5, .int (nI (i + 1))), (1, .long (lN (sc_key ct (i + 1)))), (3, .ref g), (4, .int (nI 5))]) [0, 1, 2, 3] rfl ?_
      exact ih (i + 1) (by omega) (by omega)
    · have z : 0 < ct i := Nat.pos_of_ne_zero (fun e => h4 ((nI_m1 (by omega)).mpr e))
      refine zs_lo (lo' := [(6, .int (nI (ct i - 1))), (5, .int (nI i)), (1, .long (lN (sc_key ct (i)))), (3, .ref g), (4, .int (nI 5))]) (by rw [nI_m2 z]) ?_
      refine zs_lload_n hE 2 dX0_fallingMarks_33 rfl rfl ?_
      refine zs_lconst (v := (1 : Int64)) hE dX0_fallingMarks_34 (by decide) ?_
      refine zs_iconst (v := (nI 3)) hE dX0_fallingMarks_35 (by decide) ?_
      refine zs_iload hE 0 dX0_fallingMarks_36 rfl ?_
      refine zs_imulN hE dX0_fallingMarks_38 ?_
      refine zs_lshl hE dX0_fallingMarks_39 ?_
      refine zs_top (v' := .long (lN (2 ^ (3 * (ct i - 1))))) (by rw [← sc_shl (ct i - 1) (by omega)]) ?_
      refine zs_ladd hE dX0_fallingMarks_40 ?_
      refine zs_top (v' := .long (lN (sc_key ct (i + 1)))) (by rw [lN_add, sc_k1 z]) ?_
      refine zs_lstore_n (lo' := [(1, .long (lN (sc_key ct (i + 1)))), (6, .int (nI (ct i - 1))), (5, .int (nI i)), (3, .ref g), (4, .int (nI 5))]) hE dX0_fallingMarks_41 rfl (by decide) rfl ?_
      refine zs_iincN (lo' := [(5, .int (nI (i + 1))), (1, .long (lN (sc_key ct (i + 1)))), (6, .int (nI (ct i - 1))), (3, .ref g), (4, .int (nI 5))]) hE 2 dX0_fallingMarks_42 rfl (by decide) rfl ?_
      refine zs_goto (tgt := 14) hE dX0_fallingMarks_45 (by decide) ?_
      refine zs_sub (lo' := [(5, .int (nI (i + 1))), (1, .long (lN (sc_key ct (i + 1)))), (3, .ref g), (4, .int (nI 5))]) [0, 1, 3, 4] rfl ?_
      exact ih (i + 1) (by omega) (by omega)

set_option maxHeartbeats 4000000 in
set_option maxRecDepth 100000 in
theorem m_X1_init (D : va_G) (E : Nat → ClassId) (B : Nat) (l : Launch) (a f q : Nat) : zs_Ct D E B l yX1_init cX1_init 4 none ({ frames := 1, cells := 1, slots := 4, locals := 40 } : Room) [.ref a, .int (nI f), .int (nI q)] (fun H => zs_pt D a (.inr (1, [.int 0, .int 0, .null])) H) (fun q => q = a) (fun v H H1 => v = none ∧ ∃ r : Nat, r = H.size ∧ H1.size = H.size + 1 ∧ zs_pt D a (.inr (1, [.int (nI f), .int (nI q), .ref r])) H1 ∧ zs_pt D r (.inl (E 1, 4, .inl (fun _ => nI 98))) H1) := by
  refine zs_ct (by decide) (Nat.le_of_ble_eq_true rfl) (fun p e s m below meth c hE hr hin hp => ?_)
  refine zs_lo (lo' := [(0, .ref a), (1, .int (nI f)), (2, .int (nI q))]) rfl ?_
  refine zs_aload_n hE 0 dX1_init_0 rfl rfl ?_
  refine zs_objInit hE ol_X1_3 q_objI q_objC dX1_init_1 (by decide) (Nat.le_of_ble_eq_true rfl) (by decide) ?_
  refine zs_aload_n hE 0 dX1_init_4 rfl rfl ?_
  refine zs_iconst (v := (nI 4)) hE dX1_init_5 (by decide) ?_
  refine zs_newc hE q_arr_char (by decide) (by decide) (by decide) dX1_init_6 (fun q1 H1 hq1 hp1 hz1 ho1 => ?_)
  refine zs_widen (k' := 1) (n' := 4) (by omega) (by omega) ?_
  have ne2 : a ≠ q1 := by have := zs_pt.lt hp; omega
  have hp := zs_pt.kept hp (ho1 _ (zs_pt.lt hp))
  refine zs_putF (v := .ref q1) hE (hin rfl) fl_X1_9 ⟨_, _, _, rfl, rfl⟩ hp (Or.inl rfl) (rfl) (rfl) (Nat.le_of_ble_eq_true rfl) dX1_init_8 (fun H3 hp3 hz3 ho3 => ?_)
  have hp1 := zs_pt.kept hp1 (ho3 _ ne2.symm)
  have hp3 : zs_pt D a (.inr (1, [.int 0, .int 0, .ref q1])) H3 := hp3
  refine zs_aload_n hE 0 dX1_init_11 rfl rfl ?_
  refine zs_iload_n hE 1 dX1_init_12 rfl rfl ?_
  refine zs_putF (v := .int (nI f)) hE (hin rfl) fl_X1_15 ⟨_, _, _, rfl, rfl⟩ hp3 (Or.inl rfl) (rfl) (rfl) (Nat.le_of_ble_eq_true rfl) dX1_init_13 (fun H4 hp4 hz4 ho4 => ?_)
  have hp1 := zs_pt.kept hp1 (ho4 _ ne2.symm)
  have hp4 : zs_pt D a (.inr (1, [.int (nI f), .int 0, .ref q1])) H4 := hp4
  refine zs_aload_n hE 0 dX1_init_16 rfl rfl ?_
  refine zs_iload_n hE 2 dX1_init_17 rfl rfl ?_
  refine zs_putF (v := .int (nI q)) hE (hin rfl) fl_X1_19 ⟨_, _, _, rfl, rfl⟩ hp4 (Or.inl rfl) (rfl) (rfl) (Nat.le_of_ble_eq_true rfl) dX1_init_18 (fun H5 hp5 hz5 ho5 => ?_)
  have hp1 := zs_pt.kept hp1 (ho5 _ ne2.symm)
  have hp5 : zs_pt D a (.inr (1, [.int (nI f), .int (nI q), .ref q1])) H5 := hp5
  refine zs_iconst (v := (nI 0)) hE dX1_init_21 (by decide) ?_
  refine zs_istore_n (lo' := [(3, .int (nI 0)), (0, .ref a), (1, .int (nI f)), (2, .int (nI q))]) hE dX1_init_22 rfl (by decide) rfl ?_
  refine zs_sub (lo' := [(3, .int (nI 0)), (0, .ref a), (1, .int (nI f)), (2, .int (nI q))]) [0, 1, 2, 3] rfl ?_
  refine zs_ind3 (Hs := fun (j : Nat) (K : Heap) (g : Nat → Int32) => K) (ks := fun (j : Nat) (K : Heap) (g : Nat → Int32) => 1) (ns := fun (j : Nat) (K : Heap) (g : Nat → Int32) => 4) (los := fun (j : Nat) (K : Heap) (g : Nat → Int32) => [(3, .int (nI j)), (0, .ref a), (1, .int (nI f)), (2, .int (nI q))]) (I := fun (j : Nat) (K : Heap) (g : Nat → Int32) => j ≤ 4 ∧ zs_pt D q1 (.inl (E 1, 4, .inl g)) K ∧ (∀ u, u < j → g u = nI 98) ∧ K.size = s.heap.size + 1 ∧ zs_pt D a (.inr (1, [.int (nI f), .int (nI q), .ref q1])) K) (μ := fun (j : Nat) (K : Heap) (g : Nat → Int32) => 4 - j) 0 H5 (fun _ => 0) (⟨Nat.zero_le _, hp1, fun j hj => absurd hj (Nat.not_lt_zero _), by omega, hp5⟩) (fun j K g hi ih => ?_)
  try dsimp only at hi ih ⊢
  obtain ⟨hi0, k1, k2, k3, k4⟩ := hi
  refine zs_iload_n hE 0 dX1_init_23 rfl rfl ?_
  refine zs_iconst (v := (nI 4)) hE dX1_init_24 (by decide) ?_
  refine zs_icmp_geN (tgt := 42) hE (by omega) (by decide) dX1_init_25 (by decide) (fun h => ?_) (fun h => ?_)
  · exact zs_vret hE hr (⟨rfl, q1, (by omega : _ = _), by omega, k4, k1.congA (fun j hj => k2 j (by omega))⟩) (by decide) (by decide) dX1_init_42
  · refine zs_aload_n hE 1 dX1_init_28 rfl rfl ?_
    refine zs_get hE fl_X1_9 k4 rfl dX1_init_29 ?_
    refine zs_iload_n hE 0 dX1_init_32 rfl rfl ?_
    refine zs_bipush (v := (nI 98)) hE dX1_init_33 (by decide) ?_
    refine zs_cast hE k1 (Or.inr (by omega)) (by omega) (by decide) dX1_init_35 (fun H6 hp6 hz6 ho6 => ?_)
    have k4 := zs_pt.kept k4 (ho6 _ ne2)
    refine zs_iincN (lo' := [(3, .int (nI (j + 1))), (0, .ref a), (1, .int (nI f)), (2, .int (nI q))]) hE 0 dX1_init_36 rfl (by decide) rfl ?_
    refine zs_goto (tgt := 23) hE dX1_init_39 (by decide) ?_
    refine zs_sub (lo' := [(3, .int (nI (j + 1))), (0, .ref a), (1, .int (nI f)), (2, .int (nI q))]) [0, 1, 2, 3] rfl ?_
    exact ih (j + 1) H6 (va_up g j (nI 98)) (⟨by omega, hp6, fun u hu => by rcases Nat.lt_or_ge u j with w | w; rw [va_up, if_neg (by omega)]; exact k2 u w; rw [show u = j by omega, va_up, if_pos rfl], hz6.trans k3, k4⟩) (by omega)

set_option maxHeartbeats 4000000 in
set_option maxRecDepth 100000 in
theorem m_X1_hasPart (D : va_G) (E : Nat → ClassId) (B : Nat) (l : Launch) (a q : Nat) (x : Int32) (v1 v3 : Value) (hq : q ≤ 4) : zs_Ct D E B l yX1_hasPart cX1_hasPart 2 (some .boolean) ({ frames := 0, cells := 0, slots := 0, locals := 0 } : Room) [.ref a, .int x] (fun H => zs_pt D a (.inr (1, [v1, .int (nI q), v3])) H) (zs_N) (zs_ro (.int (zs_b (sp_i x q ≠ none)))) := by
  refine zs_ct (by decide) (Nat.le_of_ble_eq_true rfl) (fun p e s m below meth c hE hr hin hp => ?_)
  refine zs_lo (lo' := [(0, .ref a), (1, .int x)]) rfl ?_
  refine zs_iload_n hE 1 dX1_hasPart_0 rfl rfl ?_
  refine zs_if_lt (tgt := 21) hE dX1_hasPart_1 (by decide) (fun h1 => ?_) (fun h1 => ?_)
  · refine zs_iconst (v := (nI 0)) hE dX1_hasPart_21 (by decide) ?_
    refine zs_top (v' := .int (zs_b (sp_i x q ≠ none))) (vb0 (fun w => w (sp_i_lo h1))) ?_
    exact zs_zret hE hr (zs_bnar _) (⟨rfl, rfl⟩) (by decide) (by decide) dX1_hasPart_22
  · refine zs_iload_n hE 1 dX1_hasPart_4 rfl rfl ?_
    refine zs_aload_n hE 0 dX1_hasPart_5 rfl rfl ?_
    refine zs_get hE fl_X1_19 hp rfl dX1_hasPart_6 ?_
    refine zs_icmp_ge (tgt := 21) hE dX1_hasPart_9 (by decide) (fun h2 => ?_) (fun h2 => ?_)
    · refine zs_iconst (v := (nI 0)) hE dX1_hasPart_21 (by decide) ?_
      refine zs_top (v' := .int (zs_b (sp_i x q ≠ none))) (vb0 (fun w => w (sp_i_hi (by omega) h2))) ?_
      exact zs_zret hE hr (zs_bnar _) (⟨rfl, rfl⟩) (by decide) (by decide) dX1_hasPart_22
    · obtain ⟨j, hj, rfl⟩ := sp_dec (by omega) h1 (sp_le_lt h2)
      refine zs_iload_n hE 1 dX1_hasPart_12 rfl rfl ?_
      refine zs_iconst (v := (nI 4)) hE dX1_hasPart_13 (by decide) ?_
      refine zs_icmp_geN (tgt := 21) hE (by omega) (by decide) dX1_hasPart_14 (by decide) (fun h3 => ?_) (fun h3 => ?_)
      · exact absurd h3 (by omega)
      · refine zs_iconst (v := (nI 1)) hE dX1_hasPart_17 (by decide) ?_
        refine zs_goto (tgt := 22) hE dX1_hasPart_18 (by decide) ?_
        refine zs_top (v' := .int (zs_b (sp_i (nI j) q ≠ none))) (vb1 (by rw [sp_i_in hj (by omega)]; simp)) ?_
        exact zs_zret hE hr (zs_bnar _) (⟨rfl, rfl⟩) (by decide) (by decide) dX1_hasPart_22


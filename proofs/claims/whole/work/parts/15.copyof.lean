/-! Arrays.copyOf -/
theorem q_clone1 : Cond.methodLink RJ7 316 ⟨"[I", "clone", "()Ljava/lang/Object;"⟩ ∈ aw := aw_i 523 (by decide +kernel) (by decide +kernel)
theorem q_clone2 : Cond.sameMethod "[I" "java/lang/Object" "clone" "()Ljava/lang/Object;" ∈ aw := aw_i 524 (by decide +kernel) (by decide +kernel)
theorem q_clone3 : Cond.native ⟨"java/lang/Object", "clone", "()Ljava/lang/Object;"⟩ ∈ aw := aw_i 525 (by decide +kernel) (by decide +kernel)
theorem q_clone4 : Cond.instanceMethod ⟨"java/lang/Object", "clone", "()Ljava/lang/Object;"⟩ ∈ aw := aw_i 526 (by decide +kernel) (by decide +kernel)
theorem q_clone5 : Cond.selects "[I" ⟨"[I", "clone", "()Ljava/lang/Object;"⟩ ⟨"java/lang/Object", "clone", "()Ljava/lang/Object;"⟩ ∈ aw := aw_i 527 (by decide +kernel) (by decide +kernel)
theorem q_clone6 : Cond.castable "[I" "java/lang/Cloneable" ∈ zs_nw := by decide +kernel
theorem q_clone7 : Cond.classLink RJ7 317 "[I" ∈ aw := aw_i 529 (by decide +kernel) (by decide +kernel)
theorem q_acopy1 : Cond.methodLink RJ7 150 arraycopyName ∈ aw := aw_i 533 (by decide +kernel) (by decide +kernel)
theorem q_acopy2 : Cond.static arraycopyName ∈ aw := aw_i 534 (by decide +kernel) (by decide +kernel)
theorem q_acopy3 : Cond.native arraycopyName ∈ aw := aw_i 535 (by decide +kernel) (by decide +kernel)
theorem q_acopy4 : Cond.initialized "java/lang/System" ∈ aw := aw_i 67 (by decide +kernel) (by decide +kernel)
theorem q_min1 : Cond.methodLink RJ7 304 Lib.Math.min.name ∈ aw := aw_i 530 (by decide +kernel) (by decide +kernel)
theorem q_min2 : Cond.static Lib.Math.min.name ∈ aw := aw_i 531 (by decide +kernel) (by decide +kernel)
theorem q_min3 : Cond.initialized "java/lang/Math" ∈ aw := aw_i 66 (by decide +kernel) (by decide +kernel)
theorem q_min4 : Cond.code Lib.Math.min.name Lib.Math.min.code 2 (some .int) ∈ aw := aw_i 532 (by decide +kernel) (by decide +kernel)
section ZK
variable {D : va_G} {E : Nat → ClassId} {B : Nat} {A : Nat → Prop} {p : Program} {l : Launch} {e : Env} {R : Room} {s : State} {m : MethodId} {args : Array Value} {below : List Frame} {meth : Method} {c : Code} {nL : Nat} {Q : State → Prop} {H : Heap} {k n pc : Nat} {lo lo' : List (Nat × Value)} {st : List Value} {cc : ByteArray} {own : String}
theorem zs_clone (hE : zs_E D E B A s m args meth c p cc nL RJ7) {a N : Nat} {f : Nat → Int32} (hp : zs_pt D a (.inl (E 0, N, .inl f)) H) (hst : (st.map fun v => v.category).sum ≤ 8) (hfr : 1 ≤ R.frames) (hlo : 30 ≤ R.locals) (hk : k + 1 ≤ R.cells) (hn : n + N ≤ R.slots) (hd : decode cc pc = .ok (.invokevirtual 316, 3))
    (K : ∀ (q : Nat) (H1 : Heap), q ≠ a → A q → zs_pt D q (.inl (E 0, N, .inl f)) H1 → zs_pt D a (.inl (E 0, N, .inl f)) H1 → H.size ≤ H1.size ∨ True → zs_W A p l e R s m args below meth c nL Q H1 (k + 1) (n + N) (pc + 3) lo (.ref q :: st)) : zs_W A p l e R s m args below meth c nL Q H k n pc lo (.ref a :: st) := fun ls locs h1 h2 => by
  have hts := hE.2.2.2.2.1
  have hK := hE.2.2.2.2.2.1
  have hAs := hE.2.2.2.2.2.2.2.2
  have hc : s.vm.findClass "[I" = some (E 0) := (hK.1.2 0 _ rfl).2
  have hS' : va_S (fun q => q = a ∨ A q) s.heap H locs := ⟨h2.1, fun q q1 q2 => h2.2.1 q q1 (fun z => q2 (Or.inr z)), fun l hl => Or.inr (h2.2.2 l hl)⟩
  have hD' : va_D (fun q => q = a ∨ A q) [(a, (.inl (E 0, N, .inl f) : va_E))] := ⟨fun i j x y hi hj _ => by
    match i, j, hi, hj with
    | 0, 0, _, _ => rfl
    | i + 1, _, hi, _ => simp at hi
    | 0, j + 1, _, hj => simp at hj, fun i x hi => by
    match i, hi with
    | 0, hi => cases hi; exact Or.inl rfl
    | i + 1, hi => simp at hi⟩
  refine va_clone (ad := "[I") (x := (N, .inl f)) hE.1 hE.2.1 (hE.2.2.1.trans h1.1.symm) hE.2.2.2.1 (hts _ q_clone1) (hts _ q_clone2) (hts _ q_clone3) (hts _ q_clone4) (hts _ q_clone5) (hK.2.2.1 _ q_clone6) hK.1 hp.P hD' hS' (fun q hq => Or.inr (hAs q hq)) 0 0 rfl rfl hc (fun i v hv => ?_) hfr (by omega) hk hn hd (fun q H1 _ hP1 hD1 hS1 => ?_)
  · have hi : i < (arrV (E 0) N (fun j => Value.int (f j))).slots.size := (Array.getElem?_eq_some_iff.mp hv).1
    rw [arrV_size] at hi
    have hv2 : (arrV (E 0) N (fun j => Value.int (f j))).slots[i]? = some v := hv
    rw [arrV_read _ _ hi] at hv2
    cases hv2
    rfl
  · have pa : zs_pt D a (.inl (E 0, N, .inl f)) H1 := hP1 0 _ rfl
    have pq : zs_pt D q (.inl (E 0, N, .inl f)) H1 := hP1 1 _ rfl
    have hne : q ≠ a := fun z => by have := hD1.1 1 0 _ _ rfl rfl z; cases this
    have hAq : A q := (hD1.2 1 _ rfl).elim (fun z => absurd z hne) id
    refine K q H1 hne hAq pq pa (Or.inr trivial) ls locs h1 ⟨hS1.1, fun z z1 z2 => ?_, h2.2.2⟩
    rcases Nat.decEq z a with w | w
    · exact hS1.2.1 z z1 (fun y => y.elim w z2)
    · subst w
      have e1 : H1[z]? = some (vp_cell (E 0) (N, .inl f)) := pa
      have e2 : H[z]? = some (vp_cell (E 0) (N, .inl f)) := hp
      rw [e1, ← e2]
      exact h2.2.1 z z1 z2
theorem zs_castI (hE : zs_E D E B A s m args meth c p cc nL RJ7) {a N : Nat} {f : Nat → Int32} (hp : zs_pt D a (.inl (E 0, N, .inl f)) H) (hd : decode cc pc = .ok (.checkcast 317, 3)) (K : zs_W A p l e R s m args below meth c nL Q H k n (pc + 3) lo (.ref a :: st)) : zs_W A p l e R s m args below meth c nL Q H k n pc lo (.ref a :: st) := fun ls locs h1 h2 =>
  va_castA (nm := "[I") hE.1 hE.2.1 hE.2.2.2.1 (hE.2.2.2.2.1 _ q_clone7) hp.P 0 rfl (hE.2.2.2.2.2.1.1.2 0 _ rfl).2 hd (K ls locs h1 h2)
theorem zs_acopy (hE : zs_E D E B A s m args meth c p cc nL RJ7) {a0 a n0 n1 z : Nat} {f g : Nat → Int32} (hp0 : zs_pt D a0 (.inl (E 0, n0, .inl f)) H) (hp1 : zs_pt D a (.inl (E 0, n1, .inl g)) H) (hA : A a) (hz0 : z ≤ n0) (hz1 : z ≤ n1) (hz : z < 2 ^ 31) (hst : (st.map fun v => v.category).sum ≤ 8) (hfr : 1 ≤ R.frames) (hlo : 60 ≤ R.locals) (hd : decode cc pc = .ok (.invokestatic 150, 3))
    (K : ∀ H1 : Heap, zs_pt D a (.inl (E 0, n1, .inl (va_cpy f g 0 0 z))) H1 → H1.size = H.size → (∀ q, q ≠ a → H1[q]? = H[q]?) → zs_W A p l e R s m args below meth c nL Q H1 k n (pc + 3) lo st) : zs_W A p l e R s m args below meth c nL Q H k n pc lo (.int (nI z) :: .int (nI 0) :: .ref a :: .int (nI 0) :: .ref a0 :: st) := fun ls locs h1 h2 => by
  have hts := hE.2.2.2.2.1
  have hK := hE.2.2.2.2.2.1.1
  have hS := h2
  intro T hT X
  have hc0 : H[a0]? = some (vp_cell (E 0) (n0, .inl f)) := hp0
  have hc1 : H[a]? = some (vp_cell (E 0) (n1, .inl g)) := hp1
  obtain ⟨-, k0, hk0, cm0, hkk0⟩ := (hK.2 0 _ rfl).1 n0 (fun j => .int (f j))
  obtain ⟨-, k1, hk1, cm1, hkk1⟩ := (hK.2 0 _ rfl).1 n1 (fun j => .int (g j))
  have hzc : (nI z).toNatClampNeg = z := nI_clamp hz
  have hzt : (nI z).toInt = (z : Int) := nI_toInt hz
  obtain ⟨vm', X', step⟩ := X.arraycopy hE.1 hE.2.2.2.1 (hts _ q_acopy1) (hts _ q_acopy3) (hts _ q_acopy2) (hts _ q_acopy4) (src := a0) (dst := a) (cs := vp_cell (E 0) (n0, .inl f)) (cd := vp_cell (E 0) (n1, .inl g)) (srcPos := nI 0) (destPos := nI 0) (n := nI z) (by rw [hT]; exact hc0) (by rw [hT]; exact hc1)
    (fun _ h => by cases h) (fun _ h => by cases h) (fun h => by cases h) (fun h => by cases h) hk0 hk1 hkk0 hkk1 (by simp [refKind]) (by decide) (by decide) (nI_pos hz)
    (by rw [hzt]; show ¬ (0 : Int) + _ > ((arrV (E 0) n0 (fun j => .int (f j))).slots.size : Int); rw [arrV_size]; omega)
    (by rw [hzt]; show ¬ (0 : Int) + _ > ((arrV (E 0) n1 (fun j => .int (g j))).slots.size : Int); rw [arrV_size]; omega)
    (fun vm₁ _ i hi => by
      have e : (vp_cell (E 0) (n0, .inl f)).slots.getD (0 + i) .null = .int (f (0 + i)) := by
        show (arrV (E 0) n0 (fun j => .int (f j))).slots.getD _ _ = _
        rw [Array.getD_eq_getD_getElem?, arrV_read _ _ (by omega)]
        rfl
      have e0 : (nI 0).toNatClampNeg = 0 := rfl
      refine ⟨?_, ?_⟩
      · rw [e0, e]; rfl
      · rw [e0, e]; exact trivial)
    (g := F0 m pc ls (.int (nI z) :: .int (nI 0) :: .ref a :: .int (nI 0) :: .ref a0 :: st)) rfl (h1.1.trans hE.2.2.1.symm) (rest := st) rfl (by rw [hE.2.1]; exact hd) hfr (by
      have h40 : nativeFrameWords "java/lang/System" "arraycopy" 5 ≤ 40 := by decide
      show 2 * 0 + _ + _ ≤ _
      omega)
  have e1 : copied (vp_cell (E 0) (n0, .inl f)) (vp_cell (E 0) (n1, .inl g)) (nI 0) (nI 0) (nI z) = vp_cell (E 0) (n1, .inl (va_cpy f g (nI 0).toNatClampNeg (nI 0).toNatClampNeg (nI z).toNatClampNeg)) := va_copied (fun z => .int z) (E 0) (E 0) f g (by rw [hzc]; show 0 + z ≤ n0; omega)
  rw [e1, hzc, show (nI 0).toNatClampNeg = 0 from rfl] at X' step
  have hl : a < H.size := (Array.getElem?_eq_some_iff.mp hc1).1
  have hheap : ((T.setVm vm').setCell a (vp_cell (E 0) (n1, .inl (va_cpy f g 0 0 z)))).heap = H.setIfInBounds a (vp_cell (E 0) (n1, .inl (va_cpy f g 0 0 z))) := by rw [← hT]; rfl
  have oq : ∀ q : Nat, q ≠ a → (H.setIfInBounds a (vp_cell (E 0) (n1, .inl (va_cpy f g 0 0 z))))[q]? = H[q]? := fun q hq => by simp [Array.getElem?_setIfInBounds, Ne.symm hq]
  obtain ⟨t, a1, b1⟩ := K _ (show (H.setIfInBounds a _)[a]? = some _ by simp [Array.getElem?_setIfInBounds, hl]) (by simp) oq ls _ h1 ⟨by simp; exact hS.1, fun q g1 g2 => by
      rw [oq q (fun e => g2 (by rw [e]; exact hA))]
      exact hS.2.1 q g1 g2, fun q hq => by
      rcases List.mem_append.mp hq with h | h
      · exact hS.2.2 q h
      · obtain ⟨z, -, hz⟩ := List.mem_map.mp h
        rw [← hz]
        exact hA⟩ _ hheap X'
  exact ⟨t, step t a1, b1⟩
theorem zs_min (hE : zs_E D E B A s m args meth c p cc nL RJ7) {a b : Nat} (ha : a < 2 ^ 31) (hb : b < 2 ^ 31) (hst : (st.map fun v => v.category).sum ≤ 8) (hfr : 1 ≤ R.frames) (hlo : 30 ≤ R.locals) (hk : k ≤ R.cells) (hn : n ≤ R.slots) (hd : decode cc pc = .ok (.invokestatic 304, 3)) (K : zs_W A p l e R s m args below meth c nL Q H k n (pc + 3) lo (.int (nI (min a b)) :: st)) : zs_W A p l e R s m args below meth c nL Q H k n pc lo (.int (nI b) :: .int (nI a) :: st) := fun ls locs h1 h2 => by
  have hts := hE.2.2.2.2.1
  refine va_mmin hE.1 hE.2.1 (hE.2.2.1.trans h1.1.symm) hE.2.2.2.1 (hts _ q_min1) (hts _ q_min2) (hts _ q_min3) (hts _ q_min4) hfr (by omega) hk hn hd ?_
  rw [show (if nI b < nI a then nI b else nI a) = nI (min a b) by
    rcases Nat.lt_or_ge b a with h | h
    · rw [if_pos ((nI_ltI hb ha).mpr h), Nat.min_eq_right (by omega)]
    · rw [if_neg (fun z => absurd ((nI_ltI hb ha).mp z) (by omega)), Nat.min_eq_left h]]
  exact K ls locs h1 h2
end ZK

set_option maxHeartbeats 4000000 in
set_option maxRecDepth 100000 in
theorem m_J7_copyOf_59c91 (D : va_G) (E : Nat → ClassId) (B : Nat) (l : Launch) (a N n1 : Nat) (f : Nat → Int32) (hN : N = 8) (hn : n1 ≤ 8) : zs_Ct D E B l yJ7_copyOf_59c91 cJ7_copyOf_59c91 3 (some (.array .int)) ({ frames := 2, cells := 1, slots := 8, locals := 80 } : Room) [.ref a, .int (nI n1)] (fun H => zs_pt D a (.inl (E 0, N, .inl f)) H) (zs_N) (fun v H H1 => ∃ (q : Nat) (g : Nat → Int32), v = some (.ref q) ∧ H.size ≤ q ∧ zs_pt D q (.inl (E 0, n1, .inl g)) H1 ∧ ∀ j, j < n1 → g j = f j) := by
  refine zs_ct (by decide) (Nat.le_of_ble_eq_true rfl) (fun p e s m below meth c hE hr hin hp => ?_)
  refine zs_lo (lo' := [(0, .ref a), (1, .int (nI n1))]) rfl ?_
  refine zs_iload_n hE 1 dJ7_copyOf_59c91_0 rfl rfl ?_
  refine zs_aload_n hE 0 dJ7_copyOf_59c91_1 rfl rfl ?_
  refine zs_alen hE hp rfl dJ7_copyOf_59c91_2 ?_
  refine zs_icmp_neN (tgt := 14) hE (by omega) (by omega) dJ7_copyOf_59c91_3 (by decide) (fun h => ?_) (fun h => ?_)
  · refine zs_iload_n hE 1 dJ7_copyOf_59c91_14 rfl rfl ?_
    refine zs_newi hE q_arr_int (by omega) (by decide) (show 0 + n1 ≤ 8 by omega) dJ7_copyOf_59c91_15 (fun q1 H1 hq1 hp1 hz1 ho1 => ?_)
    refine zs_widen (k' := 1) (n' := 8) (by omega) (by omega) ?_
    have ne1 : a ≠ q1 := by have := zs_pt.lt hp; omega
    have hp := zs_pt.kept hp (ho1 _ (zs_pt.lt hp))
    refine zs_astore_n (lo' := [(2, .ref q1), (0, .ref a), (1, .int (nI n1))]) hE dJ7_copyOf_59c91_17 rfl (by decide) rfl ?_
    refine zs_aload_n hE 1 dJ7_copyOf_59c91_18 rfl rfl ?_
    refine zs_iconst (v := (nI 0)) hE dJ7_copyOf_59c91_19 (by decide) ?_
    refine zs_aload_n hE 0 dJ7_copyOf_59c91_20 rfl rfl ?_
    refine zs_iconst (v := (nI 0)) hE dJ7_copyOf_59c91_21 (by decide) ?_
    refine zs_aload_n hE 1 dJ7_copyOf_59c91_22 rfl rfl ?_
    refine zs_alen hE hp rfl dJ7_copyOf_59c91_23 ?_
    refine zs_iload_n hE 2 dJ7_copyOf_59c91_24 rfl rfl ?_
    refine zs_min hE (by omega) (by omega) (Nat.le_of_ble_eq_true rfl) (by decide) (by decide) (by decide) (by decide) dJ7_copyOf_59c91_25 ?_
    refine zs_acopy (a0 := a) (a := q1) (z := min N n1) hE hp hp1 (Or.inr (by omega)) (Nat.min_le_left _ _) (Nat.min_le_right _ _) (by omega) (Nat.le_of_ble_eq_true rfl) (by decide) (by decide) dJ7_copyOf_59c91_28 (fun H2 hp2 hz2 ho2 => ?_)
    refine zs_aload_n hE 0 dJ7_copyOf_59c91_31 rfl rfl ?_
    refine zs_top (v' := va_rf (some q1)) rfl ?_
    exact zs_aret hE hr (by first | exact Or.inl ⟨_, rfl⟩ | exact Or.inr ⟨_, rfl⟩) (⟨q1, _, rfl, by omega, hp2, fun j hj => by rw [pk_cpy_in (Nat.zero_le _) (by omega)]; simp⟩) (by decide) (by decide) dJ7_copyOf_59c91_32
  · refine zs_aload_n hE 0 dJ7_copyOf_59c91_6 rfl rfl ?_
    refine zs_clone hE hp (Nat.le_of_ble_eq_true rfl) (by decide) (by decide) (by decide) (show 0 + N ≤ 8 by omega) dJ7_copyOf_59c91_7 (fun q1 H1 hne hAq hp1 hpa _ => ?_)
    refine zs_widen (k' := 1) (n' := 8) (by omega) (by omega) ?_
    refine zs_castI hE hp1 dJ7_copyOf_59c91_10 ?_
    refine zs_top (v' := va_rf (some q1)) rfl ?_
    exact zs_aret hE hr (by first | exact Or.inl ⟨_, rfl⟩ | exact Or.inr ⟨_, rfl⟩) (⟨q1, f, rfl, hAq.elim (fun w => w.elim) id, by rw [h]; exact hp1, fun _ _ => rfl⟩) (by decide) (by decide) dJ7_copyOf_59c91_13


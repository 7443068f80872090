/-! the model: joins, asksAgain -/
theorem zs_join {A : Nat → Prop} {p : Program} {l : Launch} {e : Env} {R : Room} {s : State} {m : MethodId} {args : Array Value} {below : List Frame} {meth : Method} {c : Code} {nL : Nat} {Q : State → Prop} {H : Heap} {k n pc : Nat} {lo : List (Nat × Value)} {st : List Value} {pc' : Nat} {lo' : List (Nat × Value)} {st' : List Value} (J : zs_W A p l e R s m args below meth c nL Q H k n pc' lo' st') (K : zs_W A p l e R s m args below meth c nL Q H k n pc' lo' st' → zs_W A p l e R s m args below meth c nL Q H k n pc lo st) : zs_W A p l e R s m args below meth c nL Q H k n pc lo st := K J
theorem if_cg {α : Type} {P Q : Prop} {dP : Decidable P} {dQ : Decidable Q} {a b : α} (h : P ↔ Q) : @ite α P dP a b = @ite α Q dQ a b := by
  by_cases z : P
  · rw [if_pos z, if_pos (h.mp z)]
  · rw [if_neg z, if_neg (fun y => z (h.mpr y))]
theorem ap_lt {J : sp_Sh} {r : sp_R} {n : Nat} (h : n < J.length) : (J ++ [r]).getD n sp_d0 = J.getD n sp_d0 := by
  rw [List.getD_eq_getElem?_getD, List.getD_eq_getElem?_getD, List.getElem?_append_left h]
theorem ap_eq (J : sp_Sh) (r : sp_R) : (J ++ [r]).getD J.length sp_d0 = r := by
  rw [List.getD_eq_getElem?_getD, List.getElem?_append_right (Nat.le_refl _)]; simp
theorem jn_s {a b : sp_Sh} (ha : sp_ok a) (hb : sp_ok b) {k : Nat} (hk : k ≤ b.length) : sp_ok (sp_jn a b k) := by
  obtain ⟨w1, w2⟩ := jn_ok ha.2.2 hb.2.2 ha.1 k hk
  exact ⟨w2, sp_jn_len ha.2.1 _, w1⟩

set_option maxHeartbeats 4000000 in
set_option maxRecDepth 100000 in
theorem m_X7_joins (D : va_G) (E : Nat → ClassId) (B : Nat) (l : Launch) (κ : Nat → Nat) (x : Nat) (ad sc : Nat → Nat) (ar : Nat → Nat → Int32) (a b : Nat) (ts rs : sp_Sh) (hb : b + 41 ≤ 52480) (hd : a + 41 ≤ b) (ka : sp_ok ts) (kb : sp_ok rs) (da : md_s (ar 12) a ts) (db : md_s (ar 12) b rs) : zs_Ct D E B l yX7_joins cX7_joins 6 none ({ frames := 1, cells := 0, slots := 0, locals := 24 } : Room) [.ref x, .int (nI a), .int (nI b)] (fun H => md_O D E κ x ad sc ar H) (md_F κ) (fun u H H1 => u = none ∧ H1.size = H.size ∧ ∃ f, md_O D E κ x ad sc (va_up ar 12 f) H1 ∧ md_s f b (sp_jn rs ts ts.length) ∧ ∀ q, (q < b ∨ b + 41 ≤ q) → f q = ar 12 q) := by
  refine zs_ct (by decide) (Nat.le_of_ble_eq_true rfl) (fun p e s m below meth c hE hr hin hp => ?_)
  refine zs_lo (lo' := [(0, .ref x), (1, .int (nI a)), (2, .int (nI b))]) rfl ?_
  have hO := hp
  obtain ⟨t0, hx, t5, t6, t7, t8, t9, t10, t11, t12, t13, t14, t15, t16, t17, t18, t19, t20, r5, r6, r7, r8, r9, r10, r11, r12, r13, r14, r15, r16, r17, r18, r19, r20⟩ := id hO
  refine zs_iconst (v := (nI 0)) hE dX7_joins_0 (by decide) ?_
  refine zs_istore_n (lo' := [(3, .int (nI 0)), (0, .ref x), (1, .int (nI a)), (2, .int (nI b))]) hE dX7_joins_1 rfl (by decide) rfl ?_
  have a4 := ka.2.1
  refine zs_sub (lo' := [(3, .int (nI 0)), (0, .ref x), (1, .int (nI a)), (2, .int (nI b))]) [0, 1, 2, 3] rfl ?_
  refine zs_ind3 (Hs := fun (k0 : Nat) (K : Heap) (f : Nat → Int32) => K) (ks := fun (k0 : Nat) (K : Heap) (f : Nat → Int32) => 0) (ns := fun (k0 : Nat) (K : Heap) (f : Nat → Int32) => 0) (los := fun (k0 : Nat) (K : Heap) (f : Nat → Int32) => [(3, .int (nI k0)), (0, .ref x), (1, .int (nI a)), (2, .int (nI b))]) (I := fun (k0 : Nat) (K : Heap) (f : Nat → Int32) => k0 ≤ ts.length ∧ K.size = s.heap.size ∧ md_O D E κ x ad sc (va_up ar 12 f) K ∧ md_s f b (sp_jn rs ts k0) ∧ ∀ q, (q < b ∨ b + 41 ≤ q) → f q = ar 12 q) (μ := fun (k0 : Nat) (K : Heap) (f : Nat → Int32) => ts.length - k0) 0 s.heap (ar 12) (⟨Nat.zero_le _, rfl, md_up 12 hO, db, fun q _ => rfl⟩) (fun k0 K f hi ih => ?_)
  try dsimp only at hi ih ⊢
  have ih0 := ih
  obtain ⟨kt, kz, kO, kd, ke⟩ := hi
  obtain ⟨-, hx, -, -, -, -, -, -, -, -, -, -, -, -, -, -, -, -, r5, r6, r7, r8, r9, r10, r11, r12, r13, r14, r15, r16, r17, r18, r19, r20⟩ := id kO
  have hx : zs_pt D x (.inr (7, [.int (nI (sc 0)), .int (nI (sc 1)), .int (nI (sc 2)), .int (nI (sc 3)), .int (nI (sc 4)), .ref (ad 5), .ref (ad 6), .ref (ad 7), .ref (ad 8), .ref (ad 9), .ref (ad 10), .ref (ad 11), .ref (ad 12), .ref (ad 13), .ref (ad 14), .ref (ad 15), .ref (ad 16), .ref (ad 17), .ref (ad 18), .ref (ad 19), .ref (ad 20)])) K := hx
  have r5 : zs_pt D (ad 5) (.inl (E 0, 6, .inl (ar 5))) K := r5
  have r6 : zs_pt D (ad 6) (.inl (E 0, 6, .inl (ar 6))) K := r6
  have r7 : zs_pt D (ad 7) (.inl (E 0, 6, .inl (ar 7))) K := r7
  have r8 : zs_pt D (ad 8) (.inl (E 1, 24, .inl (ar 8))) K := r8
  have r9 : zs_pt D (ad 9) (.inl (E 0, 40, .inl (ar 9))) K := r9
  have r10 : zs_pt D (ad 10) (.inl (E 0, 40, .inl (ar 10))) K := r10
  have r11 : zs_pt D (ad 11) (.inl (E 0, 40, .inl (ar 11))) K := r11
  have r12 : zs_pt D (ad 12) (.inl (E 0, 52480, .inl (f))) K := r12
  have r13 : zs_pt D (ad 13) (.inl (E 0, 8, .inl (ar 13))) K := r13
  have r14 : zs_pt D (ad 14) (.inl (E 0, 24, .inl (ar 14))) K := r14
  have r15 : zs_pt D (ad 15) (.inl (E 0, 120, .inl (ar 15))) K := r15
  have r16 : zs_pt D (ad 16) (.inl (E 2, 120, .inl (ar 16))) K := r16
  have r17 : zs_pt D (ad 17) (.inl (E 2, 40, .inl (ar 17))) K := r17
  have r18 : zs_pt D (ad 18) (.inl (E 0, 12, .inl (ar 18))) K := r18
  have r19 : zs_pt D (ad 19) (.inl (E 0, 12, .inl (ar 19))) K := r19
  have r20 : zs_pt D (ad 20) (.inl (E 0, 72, .inl (ar 20))) K := r20
  have jk := jn_s kb ka kt
  have j4 := jk.2.1
  have fa1 : md_s f a ts := da.mv ka (fun t ht => ke _ (by omega))
  refine zs_iload_n hE 0 dX7_joins_2 rfl rfl ?_
  refine zs_aload_n hE 1 dX7_joins_3 rfl rfl ?_
  refine zs_get hE fl_X7_49 hx rfl dX7_joins_4 ?_
  refine zs_iload_n hE 2 dX7_joins_7 rfl rfl ?_
  refine zs_iald hE r12 (by omega) (by decide) dX7_joins_8 ?_
  refine zs_top (v' := .int (nI ts.length)) (by rw [fa1.1]) ?_
  refine zs_icmp_geN (tgt := 158) hE (by omega) (by omega) dX7_joins_9 (by decide) (fun h5 => ?_) (fun h => ?_)
  · obtain rfl : k0 = ts.length := by omega
    exact zs_vret hE hr (⟨rfl, kz, f, kO, kd, ke⟩) (by decide) (by decide) dX7_joins_158
  · have rk := fa1.2 k0 h
    have ork := ok_at ka h
    refine zs_iconst (v := (nI 0)) hE dX7_joins_12 (by decide) ?_
    refine zs_istore (lo' := [(4, .int (nI 0)), (3, .int (nI k0)), (0, .ref x), (1, .int (nI a)), (2, .int (nI b))]) hE dX7_joins_13 (by decide) rfl ?_
    refine zs_iconst (v := (nI 0)) hE dX7_joins_15 (by decide) ?_
    refine zs_istore (lo' := [(5, .int (nI 0)), (4, .int (nI 0)), (3, .int (nI k0)), (0, .ref x), (1, .int (nI a)), (2, .int (nI b))]) hE dX7_joins_16 (by decide) rfl ?_
    refine zs_sub (lo' := [(5, .int (nI 0)), (4, .int (nI 0)), (0, .ref x), (1, .int (nI a)), (2, .int (nI b)), (3, .int (nI k0))]) [0, 1, 3, 4, 5, 2] rfl ?_
    refine zs_lo (lo' := [(5, .int (nI 0)), (4, .int (zs_b (∃ j, j < 0 ∧ ((sp_jn rs ts k0).getD j sp_d0).2 = (ts.getD k0 sp_d0).2))), (0, .ref x), (1, .int (nI a)), (2, .int (nI b)), (3, .int (nI k0))]) (by rw [vb0 (show ¬ (∃ j, j < 0 ∧ ((sp_jn rs ts k0).getD j sp_d0).2 = (ts.getD k0 sp_d0).2) from fun ⟨_, h, _⟩ => absurd h (Nat.not_lt_zero _))]) ?_
    refine zs_sub (lo' := [(5, .int (nI 0)), (4, .int (zs_b (∃ j, j < 0 ∧ ((sp_jn rs ts k0).getD j sp_d0).2 = (ts.getD k0 sp_d0).2))), (0, .ref x), (1, .int (nI a)), (2, .int (nI b)), (3, .int (nI k0))]) [0, 1, 2, 3, 4, 5] rfl ?_
    refine zs_ind1 (Hs := fun (n0 : Nat) => K) (ks := fun (n0 : Nat) => 0) (ns := fun (n0 : Nat) => 0) (los := fun (n0 : Nat) => [(5, .int (nI n0)), (4, .int (zs_b (∃ j, j < n0 ∧ ((sp_jn rs ts k0).getD j sp_d0).2 = (ts.getD k0 sp_d0).2))), (0, .ref x), (1, .int (nI a)), (2, .int (nI b)), (3, .int (nI k0))]) (I := fun (n0 : Nat) => n0 ≤ (sp_jn rs ts k0).length) (μ := fun (n0 : Nat) => (sp_jn rs ts k0).length - n0) 0 (Nat.zero_le _) (fun n0 hi ih => ?_)
    try dsimp only at hi ih ⊢
    refine zs_iload hE 0 dX7_joins_18 rfl ?_
    refine zs_aload_n hE 2 dX7_joins_20 rfl rfl ?_
    refine zs_get hE fl_X7_49 hx rfl dX7_joins_21 ?_
    refine zs_iload_n hE 4 dX7_joins_24 rfl rfl ?_
    refine zs_iald hE r12 (by omega) (by decide) dX7_joins_25 ?_
    refine zs_top (v' := .int (nI ((sp_jn rs ts k0).length))) (by rw [kd.1]) ?_
    refine zs_icmp_geN (tgt := 71) hE (by omega) (by omega) dX7_joins_26 (by decide) (fun h5 => ?_) (fun h2 => ?_)
    · obtain rfl : n0 = (sp_jn rs ts k0).length := by omega
      refine zs_iload hE 1 dX7_joins_71 rfl ?_
      refine zs_if_neB (tgt := 152) hE dX7_joins_73 (by decide) (fun h6 => ?_) (fun h6 => ?_)
      · refine zs_iincN (lo' := [(3, .int (nI (k0 + 1))), (5, .int (nI ((sp_jn rs ts k0).length))), (4, .int (zs_b (∃ j, j < (sp_jn rs ts k0).length ∧ ((sp_jn rs ts k0).getD j sp_d0).2 = (ts.getD k0 sp_d0).2))), (0, .ref x), (1, .int (nI a)), (2, .int (nI b))]) hE 5 dX7_joins_152 rfl (by decide) rfl ?_
        refine zs_goto (tgt := 2) hE dX7_joins_155 (by decide) ?_
        refine zs_sub (lo' := [(3, .int (nI (k0 + 1))), (0, .ref x), (1, .int (nI a)), (2, .int (nI b))]) [0, 3, 4, 5] rfl ?_
        exact ih0 (k0 + 1) K f ⟨by omega, kz, kO, by rw [show sp_jn rs ts (k0 + 1) = (sp_jn rs ts k0) from pI_t (Or.inl h6)]; exact kd, ke⟩ (by omega)
      · refine zs_aload_n hE 2 dX7_joins_76 rfl rfl ?_
        refine zs_get hE fl_X7_49 hx rfl dX7_joins_77 ?_
        refine zs_iload_n hE 4 dX7_joins_80 rfl rfl ?_
        refine zs_iald hE r12 (by omega) (by decide) dX7_joins_81 ?_
        refine zs_top (v' := .int (nI ((sp_jn rs ts k0).length))) (by rw [kd.1]) ?_
        refine zs_iconst (v := (nI 4)) hE dX7_joins_82 (by decide) ?_
        refine zs_icmp_neN (tgt := 89) hE (by omega) (by decide) dX7_joins_83 (by decide) (fun h7 => ?_) (fun h7 => ?_)
        · have jl : (sp_jn rs ts k0).length < 4 := by omega
          have jn1 : sp_jn rs ts (k0 + 1) = (sp_jn rs ts k0) ++ [(ts.getD k0 sp_d0)] := pI_f (fun w => by rcases w with w | w; exact h6 w; omega)
          generalize hJ : sp_jn rs ts k0 = J at *
          refine zs_iconst (v := (nI 0)) hE dX7_joins_89 (by decide) ?_
          refine zs_istore (lo' := [(5, .int (nI 0)), (4, .int (zs_b (∃ j, j < J.length ∧ (J.getD j sp_d0).2 = (ts.getD k0 sp_d0).2))), (0, .ref x), (1, .int (nI a)), (2, .int (nI b)), (3, .int (nI k0))]) hE dX7_joins_90 (by decide) rfl ?_
          refine zs_sub (lo' := [(5, .int (nI 0)), (0, .ref x), (1, .int (nI a)), (2, .int (nI b)), (3, .int (nI k0))]) [0, 2, 3, 4, 5] rfl ?_
          refine zs_ind3 (Hs := fun (m0 : Nat) (K2 : Heap) (g : Nat → Int32) => K2) (ks := fun (m0 : Nat) (K2 : Heap) (g : Nat → Int32) => 0) (ns := fun (m0 : Nat) (K2 : Heap) (g : Nat → Int32) => 0) (los := fun (m0 : Nat) (K2 : Heap) (g : Nat → Int32) => [(5, .int (nI m0)), (0, .ref x), (1, .int (nI a)), (2, .int (nI b)), (3, .int (nI k0))]) (I := fun (m0 : Nat) (K2 : Heap) (g : Nat → Int32) => m0 ≤ 10 ∧ K2.size = s.heap.size ∧ md_O D E κ x ad sc (va_up ar 12 g) K2 ∧ (∀ t, t < m0 → g (b + 1 + 10 * J.length + t) = f (a + 1 + 10 * k0 + t)) ∧ ∀ q, (q < b + 1 + 10 * J.length ∨ b + 1 + 10 * J.length + m0 ≤ q) → g q = f q) (μ := fun (m0 : Nat) (K2 : Heap) (g : Nat → Int32) => 10 - m0) 0 K f (⟨Nat.zero_le _, kz, kO, fun t ht => absurd ht (Nat.not_lt_zero _), fun q _ => rfl⟩) (fun m0 K2 g hi ih => ?_)
          try dsimp only at hi ih ⊢
          obtain ⟨m10, lz, lO, lf, le⟩ := hi
          obtain ⟨-, hx, -, -, -, -, -, -, -, -, -, -, -, -, -, -, -, -, r5, r6, r7, r8, r9, r10, r11, r12, r13, r14, r15, r16, r17, r18, r19, r20⟩ := id lO
          have hx : zs_pt D x (.inr (7, [.int (nI (sc 0)), .int (nI (sc 1)), .int (nI (sc 2)), .int (nI (sc 3)), .int (nI (sc 4)), .ref (ad 5), .ref (ad 6), .ref (ad 7), .ref (ad 8), .ref (ad 9), .ref (ad 10), .ref (ad 11), .ref (ad 12), .ref (ad 13), .ref (ad 14), .ref (ad 15), .ref (ad 16), .ref (ad 17), .ref (ad 18), .ref (ad 19), .ref (ad 20)])) K2 := hx
          have r5 : zs_pt D (ad 5) (.inl (E 0, 6, .inl (ar 5))) K2 := r5
          have r6 : zs_pt D (ad 6) (.inl (E 0, 6, .inl (ar 6))) K2 := r6
          have r7 : zs_pt D (ad 7) (.inl (E 0, 6, .inl (ar 7))) K2 := r7
          have r8 : zs_pt D (ad 8) (.inl (E 1, 24, .inl (ar 8))) K2 := r8
          have r9 : zs_pt D (ad 9) (.inl (E 0, 40, .inl (ar 9))) K2 := r9
          have r10 : zs_pt D (ad 10) (.inl (E 0, 40, .inl (ar 10))) K2 := r10
          have r11 : zs_pt D (ad 11) (.inl (E 0, 40, .inl (ar 11))) K2 := r11
          have r12 : zs_pt D (ad 12) (.inl (E 0, 52480, .inl (g))) K2 := r12
          have r13 : zs_pt D (ad 13) (.inl (E 0, 8, .inl (ar 13))) K2 := r13
          have r14 : zs_pt D (ad 14) (.inl (E 0, 24, .inl (ar 14))) K2 := r14
          have r15 : zs_pt D (ad 15) (.inl (E 0, 120, .inl (ar 15))) K2 := r15
          have r16 : zs_pt D (ad 16) (.inl (E 2, 120, .inl (ar 16))) K2 := r16
          have r17 : zs_pt D (ad 17) (.inl (E 2, 40, .inl (ar 17))) K2 := r17
          have r18 : zs_pt D (ad 18) (.inl (E 0, 12, .inl (ar 18))) K2 := r18
          have r19 : zs_pt D (ad 19) (.inl (E 0, 12, .inl (ar 19))) K2 := r19
          have r20 : zs_pt D (ad 20) (.inl (E 0, 72, .inl (ar 20))) K2 := r20
          refine zs_iload hE 0 dX7_joins_92 rfl ?_
          refine zs_bipush (v := (nI 10)) hE dX7_joins_94 (by decide) ?_
          refine zs_icmp_geN (tgt := 142) hE (by omega) (by decide) dX7_joins_96 (by decide) (fun h8 => ?_) (fun h9 => ?_)
          · obtain rfl : m0 = 10 := by omega
            refine zs_aload_n hE 1 dX7_joins_142 rfl rfl ?_
            refine zs_get hE fl_X7_49 hx rfl dX7_joins_143 ?_
            refine zs_iload_n hE 3 dX7_joins_146 rfl rfl ?_
            refine zs_dup2 hE dX7_joins_147 rfl rfl ?_
            refine zs_iald hE r12 (by omega) (by decide) dX7_joins_148 ?_
            refine zs_top (v' := .int (nI J.length)) (by rw [le _ (by omega), kd.1]) ?_
            refine zs_iconst (v := (nI 1)) hE dX7_joins_149 (by decide) ?_
            refine zs_iaddN hE dX7_joins_150 ?_
            refine zs_iast hE r12 (Or.inl (show 500 ≤ κ (ad 12) by omega)) (by omega) (by decide) dX7_joins_151 (fun H1 hp1 hz1 ho1 => ?_)
            have hx := zs_pt.kept hx (ho1 _ (cs_ne t0 t12 (by decide)))
            have r5 := zs_pt.kept r5 (ho1 _ (cs_ne t5 t12 (by decide)))
            have r6 := zs_pt.kept r6 (ho1 _ (cs_ne t6 t12 (by decide)))
            have r7 := zs_pt.kept r7 (ho1 _ (cs_ne t7 t12 (by decide)))
            have r8 := zs_pt.kept r8 (ho1 _ (cs_ne t8 t12 (by decide)))
            have r9 := zs_pt.kept r9 (ho1 _ (cs_ne t9 t12 (by decide)))
            have r10 := zs_pt.kept r10 (ho1 _ (cs_ne t10 t12 (by decide)))
            have r11 := zs_pt.kept r11 (ho1 _ (cs_ne t11 t12 (by decide)))
            have r13 := zs_pt.kept r13 (ho1 _ (cs_ne t13 t12 (by decide)))
            have r14 := zs_pt.kept r14 (ho1 _ (cs_ne t14 t12 (by decide)))
            have r15 := zs_pt.kept r15 (ho1 _ (cs_ne t15 t12 (by decide)))
            have r16 := zs_pt.kept r16 (ho1 _ (cs_ne t16 t12 (by decide)))
            have r17 := zs_pt.kept r17 (ho1 _ (cs_ne t17 t12 (by decide)))
            have r18 := zs_pt.kept r18 (ho1 _ (cs_ne t18 t12 (by decide)))
            have r19 := zs_pt.kept r19 (ho1 _ (cs_ne t19 t12 (by decide)))
            have r20 := zs_pt.kept r20 (ho1 _ (cs_ne t20 t12 (by decide)))
            have lO2 : md_O D E κ x ad sc (va_up ar 12 (va_up g b (nI (J.length + 1)))) H1 := ⟨t0, hx, t5, t6, t7, t8, t9, t10, t11, t12, t13, t14, t15, t16, t17, t18, t19, t20, r5, r6, r7, r8, r9, r10, r11, hp1, r13, r14, r15, r16, r17, r18, r19, r20⟩
            refine zs_iincN (lo' := [(3, .int (nI (k0 + 1))), (5, .int (nI 10)), (0, .ref x), (1, .int (nI a)), (2, .int (nI b))]) hE 4 dX7_joins_152 rfl (by decide) rfl ?_
            refine zs_goto (tgt := 2) hE dX7_joins_155 (by decide) ?_
            refine zs_sub (lo' := [(3, .int (nI (k0 + 1))), (0, .ref x), (1, .int (nI a)), (2, .int (nI b))]) [0, 2, 3, 4] rfl ?_
            refine ih0 (k0 + 1) H1 (va_up g b (nI (J.length + 1))) ⟨by omega, by omega, lO2, ?_, fun q hq => ?_⟩ (by omega)
            · rw [jn1]
              refine ⟨by rw [va_up_self, List.length_append]; rfl, fun n hn => ?_⟩
              rw [List.length_append, List.length_singleton] at hn
              by_cases e : n = J.length
              · subst e
                rw [ap_eq]
                exact rk.mv ork.2.1 (fun t ht => by rw [va_up_ne _ _ (by omega)]; exact lf t ht)
              · have hn2 : n < J.length := by omega
                rw [ap_lt hn2]
                exact (kd.2 n hn2).mv (ok_at jk hn2).2.1 (fun t ht => by rw [va_up_ne _ _ (by omega)]; exact le _ (by omega))
            · rw [va_up_ne _ _ (by omega), le q (by omega)]; exact ke q hq
          · refine zs_aload_n hE 1 dX7_joins_99 rfl rfl ?_
            refine zs_get hE fl_X7_49 hx rfl dX7_joins_100 ?_
            refine zs_iload_n hE 3 dX7_joins_103 rfl rfl ?_
            refine zs_iconst (v := (nI 1)) hE dX7_joins_104 (by decide) ?_
            refine zs_iaddN hE dX7_joins_105 ?_
            refine zs_bipush (v := (nI 10)) hE dX7_joins_106 (by decide) ?_
            refine zs_aload_n hE 1 dX7_joins_108 rfl rfl ?_
            refine zs_get hE fl_X7_49 hx rfl dX7_joins_109 ?_
            refine zs_iload_n hE 3 dX7_joins_112 rfl rfl ?_
            refine zs_iald hE r12 (by omega) (by decide) dX7_joins_113 ?_
            refine zs_top (v' := .int (nI J.length)) (by rw [le _ (by omega), kd.1]) ?_
            refine zs_imulN hE dX7_joins_114 ?_
            refine zs_iaddN hE dX7_joins_115 ?_
            refine zs_iload hE 0 dX7_joins_116 rfl ?_
            refine zs_iaddN hE dX7_joins_118 ?_
            refine zs_aload_n hE 1 dX7_joins_119 rfl rfl ?_
            refine zs_get hE fl_X7_49 hx rfl dX7_joins_120 ?_
            refine zs_iload_n hE 2 dX7_joins_123 rfl rfl ?_
            refine zs_iconst (v := (nI 1)) hE dX7_joins_124 (by decide) ?_
            refine zs_iaddN hE dX7_joins_125 ?_
            refine zs_bipush (v := (nI 10)) hE dX7_joins_126 (by decide) ?_
            refine zs_iload_n hE 4 dX7_joins_128 rfl rfl ?_
            refine zs_imulN hE dX7_joins_129 ?_
            refine zs_iaddN hE dX7_joins_130 ?_
            refine zs_iload hE 0 dX7_joins_131 rfl ?_
            refine zs_iaddN hE dX7_joins_133 ?_
            refine zs_iald hE r12 (by omega) (by decide) dX7_joins_134 ?_
            refine zs_iast hE r12 (Or.inl (show 500 ≤ κ (ad 12) by omega)) (by omega) (by decide) dX7_joins_135 (fun H2 hp2 hz2 ho2 => ?_)
            have hx := zs_pt.kept hx (ho2 _ (cs_ne t0 t12 (by decide)))
            have r5 := zs_pt.kept r5 (ho2 _ (cs_ne t5 t12 (by decide)))
            have r6 := zs_pt.kept r6 (ho2 _ (cs_ne t6 t12 (by decide)))
            have r7 := zs_pt.kept r7 (ho2 _ (cs_ne t7 t12 (by decide)))
            have r8 := zs_pt.kept r8 (ho2 _ (cs_ne t8 t12 (by decide)))
            have r9 := zs_pt.kept r9 (ho2 _ (cs_ne t9 t12 (by decide)))
            have r10 := zs_pt.kept r10 (ho2 _ (cs_ne t10 t12 (by decide)))
            have r11 := zs_pt.kept r11 (ho2 _ (cs_ne t11 t12 (by decide)))
            have r13 := zs_pt.kept r13 (ho2 _ (cs_ne t13 t12 (by decide)))
            have r14 := zs_pt.kept r14 (ho2 _ (cs_ne t14 t12 (by decide)))
            have r15 := zs_pt.kept r15 (ho2 _ (cs_ne t15 t12 (by decide)))
            have r16 := zs_pt.kept r16 (ho2 _ (cs_ne t16 t12 (by decide)))
            have r17 := zs_pt.kept r17 (ho2 _ (cs_ne t17 t12 (by decide)))
            have r18 := zs_pt.kept r18 (ho2 _ (cs_ne t18 t12 (by decide)))
            have r19 := zs_pt.kept r19 (ho2 _ (cs_ne t19 t12 (by decide)))
            have r20 := zs_pt.kept r20 (ho2 _ (cs_ne t20 t12 (by decide)))
            have lO2 : md_O D E κ x ad sc (va_up ar 12 (va_up g (b + 1 + 10 * J.length + m0) (g (a + 1 + 10 * k0 + m0)))) H2 := ⟨t0, hx, t5, t6, t7, t8, t9, t10, t11, t12, t13, t14, t15, t16, t17, t18, t19, t20, r5, r6, r7, r8, r9, r10, r11, hp2, r13, r14, r15, r16, r17, r18, r19, r20⟩
            refine zs_iincN (lo' := [(5, .int (nI (m0 + 1))), (0, .ref x), (1, .int (nI a)), (2, .int (nI b)), (3, .int (nI k0))]) hE 0 dX7_joins_136 rfl (by decide) rfl ?_
            refine zs_goto (tgt := 92) hE dX7_joins_139 (by decide) ?_
            refine zs_sub (lo' := [(5, .int (nI (m0 + 1))), (0, .ref x), (1, .int (nI a)), (2, .int (nI b)), (3, .int (nI k0))]) [0, 1, 2, 3, 4] rfl ?_
            refine ih (m0 + 1) H2 (va_up g (b + 1 + 10 * J.length + m0) (g (a + 1 + 10 * k0 + m0))) (⟨by omega, by omega, lO2, fun t ht => ?_, fun q hq => ?_⟩) (by omega)
            · by_cases e : t = m0
              · subst e; rw [va_up_self]; exact le _ (by omega)
              · rw [va_up_ne _ _ (by omega)]; exact lf t (by omega)
            · rw [va_up_ne _ _ (by omega)]; exact le q (by omega)
        · refine zs_goto (tgt := 152) hE dX7_joins_86 (by decide) ?_
          refine zs_iincN (lo' := [(3, .int (nI (k0 + 1))), (5, .int (nI ((sp_jn rs ts k0).length))), (4, .int (zs_b (∃ j, j < (sp_jn rs ts k0).length ∧ ((sp_jn rs ts k0).getD j sp_d0).2 = (ts.getD k0 sp_d0).2))), (0, .ref x), (1, .int (nI a)), (2, .int (nI b))]) hE 5 dX7_joins_152 rfl (by decide) rfl ?_
          refine zs_goto (tgt := 2) hE dX7_joins_155 (by decide) ?_
          refine zs_sub (lo' := [(3, .int (nI (k0 + 1))), (0, .ref x), (1, .int (nI a)), (2, .int (nI b))]) [0, 3, 4, 5] rfl ?_
          exact ih0 (k0 + 1) K f ⟨by omega, kz, kO, by rw [show sp_jn rs ts (k0 + 1) = (sp_jn rs ts k0) from pI_t (Or.inr (by omega))]; exact kd, ke⟩ (by omega)
    · refine zs_iload hE 1 dX7_joins_29 rfl ?_
      refine zs_if_neB (tgt := 58) hE dX7_joins_31 (by decide) (fun h6 => ?_) (fun h6 => ?_)
      · refine zs_iconst (v := (nI 1)) hE dX7_joins_58 (by decide) ?_
        refine zs_goto (tgt := 63) hE dX7_joins_59 (by decide) ?_
        refine zs_top (v' := .int (zs_b (∃ j, j < (n0 + 1) ∧ ((sp_jn rs ts k0).getD j sp_d0).2 = (ts.getD k0 sp_d0).2))) (vb1 (h6.imp fun j z => ⟨by have := z.1; omega, z.2⟩)) ?_
        refine zs_istore (lo' := [(4, .int (zs_b (∃ j, j < (n0 + 1) ∧ ((sp_jn rs ts k0).getD j sp_d0).2 = (ts.getD k0 sp_d0).2))), (5, .int (nI n0)), (0, .ref x), (1, .int (nI a)), (2, .int (nI b)), (3, .int (nI k0))]) hE dX7_joins_63 (by decide) rfl ?_
        refine zs_iincN (lo' := [(5, .int (nI (n0 + 1))), (4, .int (zs_b (∃ j, j < (n0 + 1) ∧ ((sp_jn rs ts k0).getD j sp_d0).2 = (ts.getD k0 sp_d0).2))), (0, .ref x), (1, .int (nI a)), (2, .int (nI b)), (3, .int (nI k0))]) hE 1 dX7_joins_65 rfl (by decide) rfl ?_
        refine zs_goto (tgt := 18) hE dX7_joins_68 (by decide) ?_
        refine zs_sub (lo' := [(5, .int (nI (n0 + 1))), (4, .int (zs_b (∃ j, j < (n0 + 1) ∧ ((sp_jn rs ts k0).getD j sp_d0).2 = (ts.getD k0 sp_d0).2))), (0, .ref x), (1, .int (nI a)), (2, .int (nI b)), (3, .int (nI k0))]) [0, 1, 2, 3, 4, 5] rfl ?_
        exact ih (n0 + 1) (by omega) (by omega)
      · refine zs_aload_n hE 2 dX7_joins_34 rfl rfl ?_
        refine zs_iload_n hE 4 dX7_joins_35 rfl rfl ?_
        refine zs_iconst (v := (nI 1)) hE dX7_joins_36 (by decide) ?_
        refine zs_iaddN hE dX7_joins_37 ?_
        refine zs_bipush (v := (nI 10)) hE dX7_joins_38 (by decide) ?_
        refine zs_iload hE 0 dX7_joins_40 rfl ?_
        refine zs_imulN hE dX7_joins_42 ?_
        refine zs_iaddN hE dX7_joins_43 ?_
        refine zs_iload_n hE 3 dX7_joins_44 rfl rfl ?_
        refine zs_iconst (v := (nI 1)) hE dX7_joins_45 (by decide) ?_
        refine zs_iaddN hE dX7_joins_46 ?_
        refine zs_bipush (v := (nI 10)) hE dX7_joins_47 (by decide) ?_
        refine zs_iload_n hE 5 dX7_joins_49 rfl rfl ?_
        refine zs_imulN hE dX7_joins_50 ?_
        refine zs_iaddN hE dX7_joins_51 ?_
        refine zs_callVR (av := [.int (nI (b + 1 + (10 * n0))), .int (nI (a + 1 + (10 * k0)))]) (st := []) (b := x) hE (m_X7_areRows D E B l κ x ad sc (va_up ar 12 f) (b + 1 + 10 * n0) (a + 1 + 10 * k0) ((sp_jn rs ts k0).getD n0 sp_d0) (ts.getD k0 sp_d0) (by omega) (by omega) (kd.2 n0 h2) rk (ok_at jk h2) ork) rfl rfl sV_X7_120 hx rfl rfl (kO) ⟨by decide, by decide⟩ ⟨by decide, by decide⟩ (Nat.le_of_ble_eq_true rfl) dX7_joins_52 ?_
        refine zs_if_eqB (tgt := 62) hE dX7_joins_55 (by decide) (fun h7 => ?_) (fun h7 => ?_)
        · refine zs_iconst (v := (nI 0)) hE dX7_joins_62 (by decide) ?_
          refine zs_top (v' := .int (zs_b (∃ j, j < (n0 + 1) ∧ ((sp_jn rs ts k0).getD j sp_d0).2 = (ts.getD k0 sp_d0).2))) (vb0 (fun ⟨j, w1, w2⟩ => by rcases Nat.lt_or_ge j n0 with w | w; exact h6 ⟨j, w, w2⟩; (obtain rfl : j = n0 := by omega); exact h7 w2)) ?_
          refine zs_istore (lo' := [(4, .int (zs_b (∃ j, j < (n0 + 1) ∧ ((sp_jn rs ts k0).getD j sp_d0).2 = (ts.getD k0 sp_d0).2))), (5, .int (nI n0)), (0, .ref x), (1, .int (nI a)), (2, .int (nI b)), (3, .int (nI k0))]) hE dX7_joins_63 (by decide) rfl ?_
          refine zs_iincN (lo' := [(5, .int (nI (n0 + 1))), (4, .int (zs_b (∃ j, j < (n0 + 1) ∧ ((sp_jn rs ts k0).getD j sp_d0).2 = (ts.getD k0 sp_d0).2))), (0, .ref x), (1, .int (nI a)), (2, .int (nI b)), (3, .int (nI k0))]) hE 1 dX7_joins_65 rfl (by decide) rfl ?_
          refine zs_goto (tgt := 18) hE dX7_joins_68 (by decide) ?_
          refine zs_sub (lo' := [(5, .int (nI (n0 + 1))), (4, .int (zs_b (∃ j, j < (n0 + 1) ∧ ((sp_jn rs ts k0).getD j sp_d0).2 = (ts.getD k0 sp_d0).2))), (0, .ref x), (1, .int (nI a)), (2, .int (nI b)), (3, .int (nI k0))]) [0, 1, 2, 3, 4, 5] rfl ?_
          exact ih (n0 + 1) (by omega) (by omega)
        · refine zs_iconst (v := (nI 1)) hE dX7_joins_58 (by decide) ?_
          refine zs_goto (tgt := 63) hE dX7_joins_59 (by decide) ?_
          refine zs_top (v' := .int (zs_b (∃ j, j < (n0 + 1) ∧ ((sp_jn rs ts k0).getD j sp_d0).2 = (ts.getD k0 sp_d0).2))) (vb1 (⟨n0, by omega, h7⟩)) ?_
          refine zs_istore (lo' := [(4, .int (zs_b (∃ j, j < (n0 + 1) ∧ ((sp_jn rs ts k0).getD j sp_d0).2 = (ts.getD k0 sp_d0).2))), (5, .int (nI n0)), (0, .ref x), (1, .int (nI a)), (2, .int (nI b)), (3, .int (nI k0))]) hE dX7_joins_63 (by decide) rfl ?_
          refine zs_iincN (lo' := [(5, .int (nI (n0 + 1))), (4, .int (zs_b (∃ j, j < (n0 + 1) ∧ ((sp_jn rs ts k0).getD j sp_d0).2 = (ts.getD k0 sp_d0).2))), (0, .ref x), (1, .int (nI a)), (2, .int (nI b)), (3, .int (nI k0))]) hE 1 dX7_joins_65 rfl (by decide) rfl ?_
          refine zs_goto (tgt := 18) hE dX7_joins_68 (by decide) ?_
          refine zs_sub (lo' := [(5, .int (nI (n0 + 1))), (4, .int (zs_b (∃ j, j < (n0 + 1) ∧ ((sp_jn rs ts k0).getD j sp_d0).2 = (ts.getD k0 sp_d0).2))), (0, .ref x), (1, .int (nI a)), (2, .int (nI b)), (3, .int (nI k0))]) [0, 1, 2, 3, 4, 5] rfl ?_
          exact ih (n0 + 1) (by omega) (by omega)

theorem mi_ask {S : sp_S} {sc : Nat → Nat} {ar : Nat → Nat → Int32} {v : Nat} {f : Nat → Int32} (h : mi_ S sc ar) (hf : ∀ r, r < 4 → ∀ i, i < 6 → ∀ j, j < 5 → f (5 * (6 * r + i) + j) = if i = sp_vp S v ∧ r < 4 ∧ sp_hv S i r = v + 1 ∧ sp_mk S i r j ≠ 0 then nI 1 else ar 16 (5 * (6 * r + i) + j)) : mi_ (s_ask1 S v 4) sc (va_up ar 16 f) := by
  obtain ⟨h1, h2, h3, h5, h6⟩ := h
  refine ⟨h1, h2, h3, fun r hr i hi => ?_, h6⟩
  obtain ⟨g1, g2⟩ := h5 r hr i hi
  refine ⟨g1, fun j hj => ?_⟩
  obtain ⟨g3, g4⟩ := g2 j hj
  refine ⟨g3, ?_⟩
  show f (5 * (6 * r + i) + j) = nI (if sp_mk S i r j ≠ 0 ∧ (if i = sp_vp S v ∧ r < 4 ∧ sp_hv S i r = v + 1 then 0 else sp_ct S i r j) = 0 then 1 else 0)
  rw [hf r hr i hi j hj]
  by_cases e : i = sp_vp S v ∧ r < 4 ∧ sp_hv S i r = v + 1
  · rw [if_pos e]
    by_cases z : sp_mk S i r j = 0
    · rw [if_neg (fun w => w.2.2.2 z), g4, if_neg (fun w => w.1 z), if_neg (fun w => w.1 z)]
    · rw [if_pos ⟨e.1, e.2.1, e.2.2, z⟩, if_pos ⟨z, rfl⟩]
  · rw [if_neg e, if_neg (fun w => e ⟨w.1, w.2.1, w.2.2.1⟩), g4]

set_option maxHeartbeats 4000000 in
set_option maxRecDepth 100000 in
theorem m_X7_asksAgain (D : va_G) (E : Nat → ClassId) (B : Nat) (l : Launch) (κ : Nat → Nat) (x : Nat) (ad sc : Nat → Nat) (ar : Nat → Nat → Int32) (S : sp_S) (o v : Nat) (hM : mi_ S sc ar) (hw : sp_wf S) (ol : o < sp_nv S) (vl : v < sp_nv S) (hov : sp_vp S o = sp_vp S v) : zs_Ct D E B l yX7_asksAgain cX7_asksAgain 7 none ({ frames := 3, cells := 0, slots := 0, locals := 72 } : Room) [.ref x, .int (nI o), .int (nI v)] (fun H => md_O D E κ x ad sc ar H) (md_F κ) (fun u H H1 => u = none ∧ H1.size = H.size ∧ ∃ f, md_O D E κ x ad sc (va_up ar 16 f) H1 ∧ mi_ (s_ask S o v) sc (va_up ar 16 f)) := by
  refine zs_ct (by decide) (Nat.le_of_ble_eq_true rfl) (fun p e s m below meth c hE hr hin hp => ?_)
  refine zs_lo (lo' := [(0, .ref x), (1, .int (nI o)), (2, .int (nI v))]) rfl ?_
  have hO := hp
  obtain ⟨t0, hx, t5, t6, t7, t8, t9, t10, t11, t12, t13, t14, t15, t16, t17, t18, t19, t20, r5, r6, r7, r8, r9, r10, r11, r12, r13, r14, r15, r16, r17, r18, r19, r20⟩ := id hO
  obtain ⟨wN, wP, wV, wA, wH, wZ, wF⟩ := id hw
  obtain ⟨n6, n40, n12, n8, n99⟩ := id wN
  obtain ⟨⟨mp0, mP⟩, ⟨mv0, mV⟩, ⟨mt0, mT⟩, mH, ⟨mz0, mZ⟩, mE⟩ := id hM
  have vwl := (wV v vl).1
  have hvb := fun r => (wH (sp_vp S v) r).2.1
  refine zs_aload_n hE 0 dX7_asksAgain_0 rfl rfl ?_
  refine zs_get hE fl_X7_39 hx rfl dX7_asksAgain_1 ?_
  refine zs_iload_n hE 1 dX7_asksAgain_4 rfl rfl ?_
  refine zs_iald hE r9 (by omega) (by decide) dX7_asksAgain_5 ?_
  refine zs_top (v' := .int (nI (sp_vp S v))) (by rw [(mV o ol).1, hov]) ?_
  refine zs_istore_n (lo' := [(3, .int (nI (sp_vp S v))), (0, .ref x), (1, .int (nI o)), (2, .int (nI v))]) hE dX7_asksAgain_6 rfl (by decide) rfl ?_
  refine zs_aload_n hE 1 dX7_asksAgain_7 rfl rfl ?_
  refine zs_iload_n hE 2 dX7_asksAgain_8 rfl rfl ?_
  refine zs_iload_n hE 3 dX7_asksAgain_9 rfl rfl ?_
  refine zs_callVR (av := [.int (nI o), .int (nI v)]) (st := []) (b := x) hE (m_X7_unlikeOf D E B l κ x ad sc ar S o v hM hw ol vl hov) rfl rfl sV_X7_138 hx rfl rfl (hO) ⟨by decide, by decide⟩ ⟨by decide, by decide⟩ (Nat.le_of_ble_eq_true rfl) dX7_asksAgain_10 ?_
  have unb : sp_un (sp_sl S o) (sp_sl S v) 32 < 2 ^ 31 := by have := sm_le (f := fun j => pI (sp_oal (sp_sl S o j) (sp_sl S v j)) 0 1) (c := 1) (n := 32) (fun j _ => by by_cases z : sp_oal (sp_sl S o j) (sp_sl S v j); (rw [pI_t z]; decide); (rw [pI_f z]; decide)); have e : sp_un (sp_sl S o) (sp_sl S v) 32 ≤ 1 * 32 := this; omega
  refine zs_if_neN (tgt := 17) hE (unb) dX7_asksAgain_13 (by decide) (fun h1 => ?_) (fun h1 => ?_)
  · refine zs_iconst (v := (nI 0)) hE dX7_asksAgain_17 (by decide) ?_
    refine zs_istore (lo' := [(4, .int (nI 0)), (3, .int (nI (sp_vp S v))), (0, .ref x), (1, .int (nI o)), (2, .int (nI v))]) hE dX7_asksAgain_18 (by decide) rfl ?_
    refine zs_sub (lo' := [(4, .int (nI 0)), (0, .ref x), (1, .int (nI o)), (2, .int (nI v)), (3, .int (nI (sp_vp S v)))]) [0, 2, 3, 4, 1] rfl ?_
    refine zs_ind3 (Hs := fun (r0 : Nat) (K : Heap) (f : Nat → Int32) => K) (ks := fun (r0 : Nat) (K : Heap) (f : Nat → Int32) => 0) (ns := fun (r0 : Nat) (K : Heap) (f : Nat → Int32) => 0) (los := fun (r0 : Nat) (K : Heap) (f : Nat → Int32) => [(4, .int (nI r0)), (0, .ref x), (1, .int (nI o)), (2, .int (nI v)), (3, .int (nI (sp_vp S v)))]) (I := fun (r0 : Nat) (K : Heap) (f : Nat → Int32) => r0 ≤ 4 ∧ K.size = s.heap.size ∧ md_O D E κ x ad sc (va_up ar 16 f) K ∧ ∀ r, r < 4 → ∀ i, i < 6 → ∀ j, j < 5 → f (5 * (6 * r + i) + j) = if i = sp_vp S v ∧ (r < r0 ∨ (r = r0 ∧ j < 0)) ∧ sp_hv S i r = v + 1 ∧ sp_mk S i r j ≠ 0 then nI 1 else ar 16 (5 * (6 * r + i) + j)) (μ := fun (r0 : Nat) (K : Heap) (f : Nat → Int32) => 4 - r0) 0 s.heap (ar 16) (⟨Nat.zero_le _, rfl, md_up 16 hO, fun r hr2 i hi2 j hj2 => by rw [if_neg (fun w => by have := w.2.1; omega)]⟩) (fun r0 K f hi ih => ?_)
    try dsimp only at hi ih ⊢
    have ih0 := ih
    obtain ⟨r4, kz, kO, kf⟩ := hi
    obtain ⟨-, hx, -, -, -, -, -, -, -, -, -, -, -, -, -, -, -, -, r5, r6, r7, r8, r9, r10, r11, r12, r13, r14, r15, r16, r17, r18, r19, r20⟩ := id kO
    have hx : zs_pt D x (.inr (7, [.int (nI (sc 0)), .int (nI (sc 1)), .int (nI (sc 2)), .int (nI (sc 3)), .int (nI (sc 4)), .ref (ad 5), .ref (ad 6), .ref (ad 7), .ref (ad 8), .ref (ad 9), .ref (ad 10), .ref (ad 11), .ref (ad 12), .ref (ad 13), .ref (ad 14), .ref (ad 15), .ref (ad 16), .ref (ad 17), .ref (ad 18), .ref (ad 19), .ref (ad 20)])) K := hx
    have r5 : zs_pt D (ad 5) (.inl (E 0, 6, .inl (ar 5))) K := r5
    have r6 : zs_pt D (ad 6) (.inl (E 0, 6, .inl (ar 6))) K := r6
    have r7 : zs_pt D (ad 7) (.inl (E 0, 6, .inl (ar 7))) K := r7
    have r8 : zs_pt D (ad 8) (.inl (E 1, 24, .inl (ar 8))) K := r8
    have r9 : zs_pt D (ad 9) (.inl (E 0, 40, .inl (ar 9))) K := r9
    have r10 : zs_pt D (ad 10) (.inl (E 0, 40, .inl (ar 10))) K := r10
    have r11 : zs_pt D (ad 11) (.inl (E 0, 40, .inl (ar 11))) K := r11
    have r12 : zs_pt D (ad 12) (.inl (E 0, 52480, .inl (ar 12))) K := r12
    have r13 : zs_pt D (ad 13) (.inl (E 0, 8, .inl (ar 13))) K := r13
    have r14 : zs_pt D (ad 14) (.inl (E 0, 24, .inl (ar 14))) K := r14
    have r15 : zs_pt D (ad 15) (.inl (E 0, 120, .inl (ar 15))) K := r15
    have r16 : zs_pt D (ad 16) (.inl (E 2, 120, .inl (f))) K := r16
    have r17 : zs_pt D (ad 17) (.inl (E 2, 40, .inl (ar 17))) K := r17
    have r18 : zs_pt D (ad 18) (.inl (E 0, 12, .inl (ar 18))) K := r18
    have r19 : zs_pt D (ad 19) (.inl (E 0, 12, .inl (ar 19))) K := r19
    have r20 : zs_pt D (ad 20) (.inl (E 0, 72, .inl (ar 20))) K := r20
    refine zs_iload hE 0 dX7_asksAgain_20 rfl ?_
    refine zs_iconst (v := (nI 4)) hE dX7_asksAgain_22 (by decide) ?_
    refine zs_icmp_geN (tgt := 111) hE (by omega) (by decide) dX7_asksAgain_23 (by decide) (fun h5 => ?_) (fun h => ?_)
    · obtain rfl : r0 = 4 := by omega
      exact zs_vret hE hr (⟨rfl, kz, f, kO, by rw [s_ask, pI_f (by omega)]; exact mi_ask hM (fun r hr2 i hi2 j hj2 => by rw [kf r hr2 i hi2 j hj2]; exact if_cg ⟨fun w => ⟨w.1, by omega, w.2.2⟩, fun w => ⟨w.1, Or.inl (by omega), w.2.2⟩⟩)⟩) (by decide) (by decide) dX7_asksAgain_111
    · refine zs_iconst (v := (nI 0)) hE dX7_asksAgain_26 (by decide) ?_
      refine zs_istore (lo' := [(5, .int (nI 0)), (4, .int (nI r0)), (0, .ref x), (1, .int (nI o)), (2, .int (nI v)), (3, .int (nI (sp_vp S v)))]) hE dX7_asksAgain_27 (by decide) rfl ?_
      refine zs_sub (lo' := [(5, .int (nI 0)), (0, .ref x), (1, .int (nI o)), (2, .int (nI v)), (3, .int (nI (sp_vp S v))), (4, .int (nI r0))]) [0, 2, 3, 4, 5, 1] rfl ?_
      refine zs_ind3 (Hs := fun (j0 : Nat) (K2 : Heap) (g : Nat → Int32) => K2) (ks := fun (j0 : Nat) (K2 : Heap) (g : Nat → Int32) => 0) (ns := fun (j0 : Nat) (K2 : Heap) (g : Nat → Int32) => 0) (los := fun (j0 : Nat) (K2 : Heap) (g : Nat → Int32) => [(5, .int (nI j0)), (0, .ref x), (1, .int (nI o)), (2, .int (nI v)), (3, .int (nI (sp_vp S v))), (4, .int (nI r0))]) (I := fun (j0 : Nat) (K2 : Heap) (g : Nat → Int32) => j0 ≤ 5 ∧ K2.size = s.heap.size ∧ md_O D E κ x ad sc (va_up ar 16 g) K2 ∧ ∀ r, r < 4 → ∀ i, i < 6 → ∀ j, j < 5 → g (5 * (6 * r + i) + j) = if i = sp_vp S v ∧ (r < r0 ∨ (r = r0 ∧ j < j0)) ∧ sp_hv S i r = v + 1 ∧ sp_mk S i r j ≠ 0 then nI 1 else ar 16 (5 * (6 * r + i) + j)) (μ := fun (j0 : Nat) (K2 : Heap) (g : Nat → Int32) => 5 - j0) 0 K f (⟨Nat.zero_le _, kz, kO, kf⟩) (fun j0 K2 g hi ih => ?_)
      try dsimp only at hi ih ⊢
      obtain ⟨j5, lz, lO, lf⟩ := hi
      obtain ⟨-, hx, -, -, -, -, -, -, -, -, -, -, -, -, -, -, -, -, r5, r6, r7, r8, r9, r10, r11, r12, r13, r14, r15, r16, r17, r18, r19, r20⟩ := id lO
      have hx : zs_pt D x (.inr (7, [.int (nI (sc 0)), .int (nI (sc 1)), .int (nI (sc 2)), .int (nI (sc 3)), .int (nI (sc 4)), .ref (ad 5), .ref (ad 6), .ref (ad 7), .ref (ad 8), .ref (ad 9), .ref (ad 10), .ref (ad 11), .ref (ad 12), .ref (ad 13), .ref (ad 14), .ref (ad 15), .ref (ad 16), .ref (ad 17), .ref (ad 18), .ref (ad 19), .ref (ad 20)])) K2 := hx
      have r5 : zs_pt D (ad 5) (.inl (E 0, 6, .inl (ar 5))) K2 := r5
      have r6 : zs_pt D (ad 6) (.inl (E 0, 6, .inl (ar 6))) K2 := r6
      have r7 : zs_pt D (ad 7) (.inl (E 0, 6, .inl (ar 7))) K2 := r7
      have r8 : zs_pt D (ad 8) (.inl (E 1, 24, .inl (ar 8))) K2 := r8
      have r9 : zs_pt D (ad 9) (.inl (E 0, 40, .inl (ar 9))) K2 := r9
      have r10 : zs_pt D (ad 10) (.inl (E 0, 40, .inl (ar 10))) K2 := r10
      have r11 : zs_pt D (ad 11) (.inl (E 0, 40, .inl (ar 11))) K2 := r11
      have r12 : zs_pt D (ad 12) (.inl (E 0, 52480, .inl (ar 12))) K2 := r12
      have r13 : zs_pt D (ad 13) (.inl (E 0, 8, .inl (ar 13))) K2 := r13
      have r14 : zs_pt D (ad 14) (.inl (E 0, 24, .inl (ar 14))) K2 := r14
      have r15 : zs_pt D (ad 15) (.inl (E 0, 120, .inl (ar 15))) K2 := r15
      have r16 : zs_pt D (ad 16) (.inl (E 2, 120, .inl (g))) K2 := r16
      have r17 : zs_pt D (ad 17) (.inl (E 2, 40, .inl (ar 17))) K2 := r17
      have r18 : zs_pt D (ad 18) (.inl (E 0, 12, .inl (ar 18))) K2 := r18
      have r19 : zs_pt D (ad 19) (.inl (E 0, 12, .inl (ar 19))) K2 := r19
      have r20 : zs_pt D (ad 20) (.inl (E 0, 72, .inl (ar 20))) K2 := r20
      refine zs_iload hE 0 dX7_asksAgain_29 rfl ?_
      refine zs_iconst (v := (nI 5)) hE dX7_asksAgain_31 (by decide) ?_
      refine zs_icmp_geN (tgt := 105) hE (by omega) (by decide) dX7_asksAgain_32 (by decide) (fun h5 => ?_) (fun h2 => ?_)
      · obtain rfl : j0 = 5 := by omega
        refine zs_iincN (lo' := [(4, .int (nI (r0 + 1))), (5, .int (nI 5)), (0, .ref x), (1, .int (nI o)), (2, .int (nI v)), (3, .int (nI (sp_vp S v)))]) hE 5 dX7_asksAgain_105 rfl (by decide) rfl ?_
        refine zs_goto (tgt := 20) hE dX7_asksAgain_108 (by decide) ?_
        refine zs_sub (lo' := [(4, .int (nI (r0 + 1))), (0, .ref x), (1, .int (nI o)), (2, .int (nI v)), (3, .int (nI (sp_vp S v)))]) [0, 2, 3, 4, 5] rfl ?_
        exact ih0 (r0 + 1) K2 g ⟨by omega, lz, lO, fun r hr2 i hi2 j hj2 => by rw [lf r hr2 i hi2 j hj2]; exact if_cg ⟨fun w => ⟨w.1, by omega, w.2.2⟩, fun w => ⟨w.1, by omega, w.2.2⟩⟩⟩ (by omega)
      · obtain ⟨mh, mjk⟩ := mH r0 h (sp_vp S v) (by omega)
        obtain ⟨mm, ma⟩ := mjk j0 h2
        have mb := sp_mkb wH (sp_vp S v) r0 j0 h2
        have hb := hvb r0
        have lg := lf r0 h (sp_vp S v) (by omega) j0 h2
        rw [if_neg (fun w => by have := w.2.1; omega), ma] at lg
        refine zs_iconst (v := (nI 5)) hE dX7_asksAgain_35 (by decide) ?_
        refine zs_bipush (v := (nI 6)) hE dX7_asksAgain_36 (by decide) ?_
        refine zs_iload hE 5 dX7_asksAgain_38 rfl ?_
        refine zs_imulN hE dX7_asksAgain_40 ?_
        refine zs_iload_n hE 4 dX7_asksAgain_41 rfl rfl ?_
        refine zs_iaddN hE dX7_asksAgain_42 ?_
        refine zs_imulN hE dX7_asksAgain_43 ?_
        refine zs_iload hE 0 dX7_asksAgain_44 rfl ?_
        refine zs_iaddN hE dX7_asksAgain_46 ?_
        refine zs_istore (lo' := [(6, .int (nI (5 * (6 * r0 + (sp_vp S v)) + j0))), (5, .int (nI j0)), (0, .ref x), (1, .int (nI o)), (2, .int (nI v)), (3, .int (nI (sp_vp S v))), (4, .int (nI r0))]) hE dX7_asksAgain_47 (by decide) rfl ?_
        refine zs_aload_n hE 2 dX7_asksAgain_49 rfl rfl ?_
        refine zs_get hE fl_X7_61 hx rfl dX7_asksAgain_50 ?_
        refine zs_iload hE 0 dX7_asksAgain_53 rfl ?_
        refine zs_aload_n hE 2 dX7_asksAgain_55 rfl rfl ?_
        refine zs_get hE fl_X7_61 hx rfl dX7_asksAgain_56 ?_
        refine zs_iload hE 0 dX7_asksAgain_59 rfl ?_
        refine zs_zald hE r16 (by omega) (by decide) dX7_asksAgain_61 ?_
        refine zs_top (v' := .int (zs_b (sp_mk S (sp_vp S v) r0 j0 ≠ 0 ∧ sp_ct S (sp_vp S v) r0 j0 = 0))) (by rw [lg]; by_cases w9 : sp_mk S (sp_vp S v) r0 j0 ≠ 0 ∧ sp_ct S (sp_vp S v) r0 j0 = 0; rw [if_pos w9]; exact vb1 w9; rw [if_neg w9]; exact vb0 w9) ?_
        refine zs_if_neB (tgt := 93) hE dX7_asksAgain_62 (by decide) (fun h6 => ?_) (fun h6 => ?_)
        · refine zs_iconst (v := (nI 1)) hE dX7_asksAgain_93 (by decide) ?_
          refine zs_goto (tgt := 98) hE dX7_asksAgain_94 (by decide) ?_
          refine zs_zast hE r16 (Or.inl (show 500 ≤ κ (ad 16) by omega)) (by omega) (by decide) dX7_asksAgain_98 (fun H1 hp1 hz1 ho1 => ?_)
          have hx := zs_pt.kept hx (ho1 _ (cs_ne t0 t16 (by decide)))
          have r5 := zs_pt.kept r5 (ho1 _ (cs_ne t5 t16 (by decide)))
          have r6 := zs_pt.kept r6 (ho1 _ (cs_ne t6 t16 (by decide)))
          have r7 := zs_pt.kept r7 (ho1 _ (cs_ne t7 t16 (by decide)))
          have r8 := zs_pt.kept r8 (ho1 _ (cs_ne t8 t16 (by decide)))
          have r9 := zs_pt.kept r9 (ho1 _ (cs_ne t9 t16 (by decide)))
          have r10 := zs_pt.kept r10 (ho1 _ (cs_ne t10 t16 (by decide)))
          have r11 := zs_pt.kept r11 (ho1 _ (cs_ne t11 t16 (by decide)))
          have r12 := zs_pt.kept r12 (ho1 _ (cs_ne t12 t16 (by decide)))
          have r13 := zs_pt.kept r13 (ho1 _ (cs_ne t13 t16 (by decide)))
          have r14 := zs_pt.kept r14 (ho1 _ (cs_ne t14 t16 (by decide)))
          have r15 := zs_pt.kept r15 (ho1 _ (cs_ne t15 t16 (by decide)))
          have r17 := zs_pt.kept r17 (ho1 _ (cs_ne t17 t16 (by decide)))
          have r18 := zs_pt.kept r18 (ho1 _ (cs_ne t18 t16 (by decide)))
          have r19 := zs_pt.kept r19 (ho1 _ (cs_ne t19 t16 (by decide)))
          have r20 := zs_pt.kept r20 (ho1 _ (cs_ne t20 t16 (by decide)))
          have lO2 : md_O D E κ x ad sc (va_up ar 16 (va_up g (5 * (6 * r0 + sp_vp S v) + j0) (vp_nar FieldType.boolean (nI 1)))) H1 := ⟨t0, hx, t5, t6, t7, t8, t9, t10, t11, t12, t13, t14, t15, t16, t17, t18, t19, t20, r5, r6, r7, r8, r9, r10, r11, r12, r13, r14, r15, hp1, r17, r18, r19, r20⟩
          refine zs_iincN (lo' := [(5, .int (nI (j0 + 1))), (6, .int (nI (5 * (6 * r0 + (sp_vp S v)) + j0))), (0, .ref x), (1, .int (nI o)), (2, .int (nI v)), (3, .int (nI (sp_vp S v))), (4, .int (nI r0))]) hE 1 dX7_asksAgain_99 rfl (by decide) rfl ?_
          refine zs_goto (tgt := 29) hE dX7_asksAgain_102 (by decide) ?_
          refine zs_sub (lo' := [(5, .int (nI (j0 + 1))), (0, .ref x), (1, .int (nI o)), (2, .int (nI v)), (3, .int (nI (sp_vp S v))), (4, .int (nI r0))]) [0, 2, 3, 4, 5, 6] rfl ?_
          refine ih (j0 + 1) H1 (va_up g (5 * (6 * r0 + sp_vp S v) + j0) (vp_nar FieldType.boolean (nI 1))) (⟨by omega, by omega, lO2, fun r hr2 i hi2 j hj2 => ?_⟩) (by omega)
          by_cases e : i = sp_vp S v ∧ r = r0 ∧ j = j0
          · obtain ⟨rfl, rfl, rfl⟩ := e
            rw [va_up_self]
            by_cases w9 : sp_hv S (sp_vp S v) r = v + 1
            · rw [if_pos ⟨rfl, Or.inr ⟨rfl, by omega⟩, w9, h6.1⟩]; rfl
            · rw [if_neg (fun w => w9 w.2.2.1), ma, if_pos h6]; rfl
          · rw [va_up_ne _ _ (by omega), lf r hr2 i hi2 j hj2]
            exact if_cg ⟨fun w => ⟨w.1, by omega, w.2.2⟩, fun w => ⟨w.1, by omega, w.2.2⟩⟩
        · refine zs_aload_n hE 2 dX7_asksAgain_65 rfl rfl ?_
          refine zs_get hE fl_X7_55 hx rfl dX7_asksAgain_66 ?_
          refine zs_bipush (v := (nI 6)) hE dX7_asksAgain_69 (by decide) ?_
          refine zs_iload hE 6 dX7_asksAgain_71 rfl ?_
          refine zs_imulN hE dX7_asksAgain_73 ?_
          refine zs_iload_n hE 5 dX7_asksAgain_74 rfl rfl ?_
          refine zs_iaddN hE dX7_asksAgain_75 ?_
          refine zs_iald hE r14 (by omega) (by decide) dX7_asksAgain_76 ?_
          refine zs_top (v' := .int (nI (sp_hv S (sp_vp S v) r0))) (by rw [mh]) ?_
          refine zs_iload_n hE 4 dX7_asksAgain_77 rfl rfl ?_
          refine zs_iconst (v := (nI 1)) hE dX7_asksAgain_78 (by decide) ?_
          refine zs_iaddN hE dX7_asksAgain_79 ?_
          refine zs_icmp_neN (tgt := 97) hE (by omega) (by omega) dX7_asksAgain_80 (by decide) (fun h7 => ?_) (fun h7 => ?_)
          · refine zs_iconst (v := (nI 0)) hE dX7_asksAgain_97 (by decide) ?_
            refine zs_zast hE r16 (Or.inl (show 500 ≤ κ (ad 16) by omega)) (by omega) (by decide) dX7_asksAgain_98 (fun H2 hp2 hz2 ho2 => ?_)
            have hx := zs_pt.kept hx (ho2 _ (cs_ne t0 t16 (by decide)))
            have r5 := zs_pt.kept r5 (ho2 _ (cs_ne t5 t16 (by decide)))
            have r6 := zs_pt.kept r6 (ho2 _ (cs_ne t6 t16 (by decide)))
            have r7 := zs_pt.kept r7 (ho2 _ (cs_ne t7 t16 (by decide)))
            have r8 := zs_pt.kept r8 (ho2 _ (cs_ne t8 t16 (by decide)))
            have r9 := zs_pt.kept r9 (ho2 _ (cs_ne t9 t16 (by decide)))
            have r10 := zs_pt.kept r10 (ho2 _ (cs_ne t10 t16 (by decide)))
            have r11 := zs_pt.kept r11 (ho2 _ (cs_ne t11 t16 (by decide)))
            have r12 := zs_pt.kept r12 (ho2 _ (cs_ne t12 t16 (by decide)))
            have r13 := zs_pt.kept r13 (ho2 _ (cs_ne t13 t16 (by decide)))
            have r14 := zs_pt.kept r14 (ho2 _ (cs_ne t14 t16 (by decide)))
            have r15 := zs_pt.kept r15 (ho2 _ (cs_ne t15 t16 (by decide)))
            have r17 := zs_pt.kept r17 (ho2 _ (cs_ne t17 t16 (by decide)))
            have r18 := zs_pt.kept r18 (ho2 _ (cs_ne t18 t16 (by decide)))
            have r19 := zs_pt.kept r19 (ho2 _ (cs_ne t19 t16 (by decide)))
            have r20 := zs_pt.kept r20 (ho2 _ (cs_ne t20 t16 (by decide)))
            have lO2 : md_O D E κ x ad sc (va_up ar 16 (va_up g (5 * (6 * r0 + sp_vp S v) + j0) (vp_nar FieldType.boolean (nI 0)))) H2 := ⟨t0, hx, t5, t6, t7, t8, t9, t10, t11, t12, t13, t14, t15, t16, t17, t18, t19, t20, r5, r6, r7, r8, r9, r10, r11, r12, r13, r14, r15, hp2, r17, r18, r19, r20⟩
            refine zs_iincN (lo' := [(5, .int (nI (j0 + 1))), (6, .int (nI (5 * (6 * r0 + (sp_vp S v)) + j0))), (0, .ref x), (1, .int (nI o)), (2, .int (nI v)), (3, .int (nI (sp_vp S v))), (4, .int (nI r0))]) hE 1 dX7_asksAgain_99 rfl (by decide) rfl ?_
            refine zs_goto (tgt := 29) hE dX7_asksAgain_102 (by decide) ?_
            refine zs_sub (lo' := [(5, .int (nI (j0 + 1))), (0, .ref x), (1, .int (nI o)), (2, .int (nI v)), (3, .int (nI (sp_vp S v))), (4, .int (nI r0))]) [0, 2, 3, 4, 5, 6] rfl ?_
            refine ih (j0 + 1) H2 (va_up g (5 * (6 * r0 + sp_vp S v) + j0) (vp_nar FieldType.boolean (nI 0))) (⟨by omega, by omega, lO2, fun r hr2 i hi2 j hj2 => ?_⟩) (by omega)
            by_cases e : i = sp_vp S v ∧ r = r0 ∧ j = j0
            · obtain ⟨rfl, rfl, rfl⟩ := e
              rw [va_up_self]
              rw [if_neg (fun w => h7 w.2.2.1), ma, if_neg h6]; rfl
            · rw [va_up_ne _ _ (by omega), lf r hr2 i hi2 j hj2]
              exact if_cg ⟨fun w => ⟨w.1, by omega, w.2.2⟩, fun w => ⟨w.1, by omega, w.2.2⟩⟩
          · refine zs_aload_n hE 2 dX7_asksAgain_83 rfl rfl ?_
            refine zs_get hE fl_X7_58 hx rfl dX7_asksAgain_84 ?_
            refine zs_iload hE 0 dX7_asksAgain_87 rfl ?_
            refine zs_iald hE r15 (by omega) (by decide) dX7_asksAgain_89 ?_
            refine zs_top (v' := .int (nI (sp_mk S (sp_vp S v) r0 j0))) (by rw [mm]) ?_
            refine zs_if_leN (tgt := 97) hE (by omega) dX7_asksAgain_90 (by decide) (fun h8 => ?_) (fun h8 => ?_)
            · refine zs_iconst (v := (nI 0)) hE dX7_asksAgain_97 (by decide) ?_
              refine zs_zast hE r16 (Or.inl (show 500 ≤ κ (ad 16) by omega)) (by omega) (by decide) dX7_asksAgain_98 (fun H3 hp3 hz3 ho3 => ?_)
              have hx := zs_pt.kept hx (ho3 _ (cs_ne t0 t16 (by decide)))
              have r5 := zs_pt.kept r5 (ho3 _ (cs_ne t5 t16 (by decide)))
              have r6 := zs_pt.kept r6 (ho3 _ (cs_ne t6 t16 (by decide)))
              have r7 := zs_pt.kept r7 (ho3 _ (cs_ne t7 t16 (by decide)))
              have r8 := zs_pt.kept r8 (ho3 _ (cs_ne t8 t16 (by decide)))
              have r9 := zs_pt.kept r9 (ho3 _ (cs_ne t9 t16 (by decide)))
              have r10 := zs_pt.kept r10 (ho3 _ (cs_ne t10 t16 (by decide)))
              have r11 := zs_pt.kept r11 (ho3 _ (cs_ne t11 t16 (by decide)))
              have r12 := zs_pt.kept r12 (ho3 _ (cs_ne t12 t16 (by decide)))
              have r13 := zs_pt.kept r13 (ho3 _ (cs_ne t13 t16 (by decide)))
              have r14 := zs_pt.kept r14 (ho3 _ (cs_ne t14 t16 (by decide)))
              have r15 := zs_pt.kept r15 (ho3 _ (cs_ne t15 t16 (by decide)))
              have r17 := zs_pt.kept r17 (ho3 _ (cs_ne t17 t16 (by decide)))
              have r18 := zs_pt.kept r18 (ho3 _ (cs_ne t18 t16 (by decide)))
              have r19 := zs_pt.kept r19 (ho3 _ (cs_ne t19 t16 (by decide)))
              have r20 := zs_pt.kept r20 (ho3 _ (cs_ne t20 t16 (by decide)))
              have lO2 : md_O D E κ x ad sc (va_up ar 16 (va_up g (5 * (6 * r0 + sp_vp S v) + j0) (vp_nar FieldType.boolean (nI 0)))) H3 := ⟨t0, hx, t5, t6, t7, t8, t9, t10, t11, t12, t13, t14, t15, t16, t17, t18, t19, t20, r5, r6, r7, r8, r9, r10, r11, r12, r13, r14, r15, hp3, r17, r18, r19, r20⟩
              refine zs_iincN (lo' := [(5, .int (nI (j0 + 1))), (6, .int (nI (5 * (6 * r0 + (sp_vp S v)) + j0))), (0, .ref x), (1, .int (nI o)), (2, .int (nI v)), (3, .int (nI (sp_vp S v))), (4, .int (nI r0))]) hE 1 dX7_asksAgain_99 rfl (by decide) rfl ?_
              refine zs_goto (tgt := 29) hE dX7_asksAgain_102 (by decide) ?_
              refine zs_sub (lo' := [(5, .int (nI (j0 + 1))), (0, .ref x), (1, .int (nI o)), (2, .int (nI v)), (3, .int (nI (sp_vp S v))), (4, .int (nI r0))]) [0, 2, 3, 4, 5, 6] rfl ?_
              refine ih (j0 + 1) H3 (va_up g (5 * (6 * r0 + sp_vp S v) + j0) (vp_nar FieldType.boolean (nI 0))) (⟨by omega, by omega, lO2, fun r hr2 i hi2 j hj2 => ?_⟩) (by omega)
              by_cases e : i = sp_vp S v ∧ r = r0 ∧ j = j0
              · obtain ⟨rfl, rfl, rfl⟩ := e
                rw [va_up_self]
                rw [if_neg (fun w => w.2.2.2 h8), ma, if_neg (fun w => w.1 h8)]; rfl
              · rw [va_up_ne _ _ (by omega), lf r hr2 i hi2 j hj2]
                exact if_cg ⟨fun w => ⟨w.1, by omega, w.2.2⟩, fun w => ⟨w.1, by omega, w.2.2⟩⟩
            · refine zs_iconst (v := (nI 1)) hE dX7_asksAgain_93 (by decide) ?_
              refine zs_goto (tgt := 98) hE dX7_asksAgain_94 (by decide) ?_
              refine zs_zast hE r16 (Or.inl (show 500 ≤ κ (ad 16) by omega)) (by omega) (by decide) dX7_asksAgain_98 (fun H4 hp4 hz4 ho4 => ?_)
              have hx := zs_pt.kept hx (ho4 _ (cs_ne t0 t16 (by decide)))
              have r5 := zs_pt.kept r5 (ho4 _ (cs_ne t5 t16 (by decide)))
              have r6 := zs_pt.kept r6 (ho4 _ (cs_ne t6 t16 (by decide)))
              have r7 := zs_pt.kept r7 (ho4 _ (cs_ne t7 t16 (by decide)))
              have r8 := zs_pt.kept r8 (ho4 _ (cs_ne t8 t16 (by decide)))
              have r9 := zs_pt.kept r9 (ho4 _ (cs_ne t9 t16 (by decide)))
              have r10 := zs_pt.kept r10 (ho4 _ (cs_ne t10 t16 (by decide)))
              have r11 := zs_pt.kept r11 (ho4 _ (cs_ne t11 t16 (by decide)))
              have r12 := zs_pt.kept r12 (ho4 _ (cs_ne t12 t16 (by decide)))
              have r13 := zs_pt.kept r13 (ho4 _ (cs_ne t13 t16 (by decide)))
              have r14 := zs_pt.kept r14 (ho4 _ (cs_ne t14 t16 (by decide)))
              have r15 := zs_pt.kept r15 (ho4 _ (cs_ne t15 t16 (by decide)))
              have r17 := zs_pt.kept r17 (ho4 _ (cs_ne t17 t16 (by decide)))
              have r18 := zs_pt.kept r18 (ho4 _ (cs_ne t18 t16 (by decide)))
              have r19 := zs_pt.kept r19 (ho4 _ (cs_ne t19 t16 (by decide)))
              have r20 := zs_pt.kept r20 (ho4 _ (cs_ne t20 t16 (by decide)))
              have lO2 : md_O D E κ x ad sc (va_up ar 16 (va_up g (5 * (6 * r0 + sp_vp S v) + j0) (vp_nar FieldType.boolean (nI 1)))) H4 := ⟨t0, hx, t5, t6, t7, t8, t9, t10, t11, t12, t13, t14, t15, t16, t17, t18, t19, t20, r5, r6, r7, r8, r9, r10, r11, r12, r13, r14, r15, hp4, r17, r18, r19, r20⟩
              refine zs_iincN (lo' := [(5, .int (nI (j0 + 1))), (6, .int (nI (5 * (6 * r0 + (sp_vp S v)) + j0))), (0, .ref x), (1, .int (nI o)), (2, .int (nI v)), (3, .int (nI (sp_vp S v))), (4, .int (nI r0))]) hE 1 dX7_asksAgain_99 rfl (by decide) rfl ?_
              refine zs_goto (tgt := 29) hE dX7_asksAgain_102 (by decide) ?_
              refine zs_sub (lo' := [(5, .int (nI (j0 + 1))), (0, .ref x), (1, .int (nI o)), (2, .int (nI v)), (3, .int (nI (sp_vp S v))), (4, .int (nI r0))]) [0, 2, 3, 4, 5, 6] rfl ?_
              refine ih (j0 + 1) H4 (va_up g (5 * (6 * r0 + sp_vp S v) + j0) (vp_nar FieldType.boolean (nI 1))) (⟨by omega, by omega, lO2, fun r hr2 i hi2 j hj2 => ?_⟩) (by omega)
              by_cases e : i = sp_vp S v ∧ r = r0 ∧ j = j0
              · obtain ⟨rfl, rfl, rfl⟩ := e
                rw [va_up_self]
                rw [if_pos ⟨rfl, Or.inr ⟨rfl, by omega⟩, h7, by omega⟩]; rfl
              · rw [va_up_ne _ _ (by omega), lf r hr2 i hi2 j hj2]
                exact if_cg ⟨fun w => ⟨w.1, by omega, w.2.2⟩, fun w => ⟨w.1, by omega, w.2.2⟩⟩
  · exact zs_vret hE hr (⟨rfl, rfl, ar 16, md_up 16 hO, by rw [up_id rfl, s_ask, pI_t h1]; exact hM⟩) (by decide) (by decide) dX7_asksAgain_16


/-! the law, from its start -/
theorem zs_end {D : va_G} {E : Nat → ClassId} {p : Program} {l : Launch} {e : Env} {s : State} {m : MethodId} {below : List Frame} {meth : Method} {c : Code} {b : Nat} (hE : zs_E D E s.heap.size (fun q => s.heap.size ≤ q) s m #[Value.ref b] meth c p code 9 RL) (hr : meth.sig.returnType = ret) {k n pc : Nat} {H : Heap} {lo : List (Nat × Value)} (hk : k ≤ 603072) (hn : n ≤ 7215210) (hd : decode code pc = .ok (.ireturn, 1)) : zs_W (fun q => s.heap.size ≤ q) p l e room_1 s m #[Value.ref b] below meth c 9 (lw_Z below #[Value.ref b] s) H k n pc lo [.int (nI 1)] := fun ls locs h1 h2 => by
  refine va_forget (fun q hq => h2.2.2 q hq) ?_
  refine W.widen (k := 603072) (n := 7215210) hk hn ?_
  refine W.base ?_
  exact lw_ret (d0 := s.drawn) (Drawn.sameBut.refl s.drawn lw_cs) hE.1 hE.2.1 hr hE.2.2.2.2.2.2.1 hd
theorem ka_P {A : Array Value} {U : State} {ty : FieldType} (h : (Cond.arrayClass ty).before A U = true) : ∃ cA : ClassId, ArrOfT U cA ty ∧ U.vm.findClass ("[" ++ ty.toString) = some cA := by
  obtain ⟨cA, kA, comp, h1, h2, h3⟩ := Cond.arrayClass_spec h
  exact ⟨cA, fun n z => ⟨fun k h => (by cases h), kA, h2, comp, h3⟩, h1⟩
theorem ka_O {C : String} {U : State} (h : va_AO C U) : ∃ cA : ClassId, ArrOfT U cA (.object C) ∧ va_RA U cA (.object C) := by
  obtain ⟨comp, cA, k, h1, -, h3, h4, h5⟩ := Cond.arrayOver_spec h
  exact ⟨cA, fun n z => ⟨fun q h => (by cases h), k, h3, comp, h4⟩, k, comp, h3, h4, h1, h5⟩
theorem ws_str : ∀ q ∈ zs_str, Cond.stringRef RX6 q.1 q.2 ∈ lw_tbl ∧ Cond.exactly (.string RX6 q.1) "java/lang/String" ∈ flatC (Jvm.Cond.and given_1 narrow_1) := by decide +kernel
theorem ws_prs : ∀ q ∈ zw_prs, Cond.not (.castable q.1 q.2) ∈ flatC (Jvm.Cond.and given_1 narrow_1) := by decide +kernel
theorem ws_nw : ∀ w ∈ zs_nw, w ∈ lw_tbl := by decide +kernel
theorem ws_nt : ∀ w ∈ zs_nw, w.onTables = true := by decide +kernel
theorem ws_AO : ∀ C ∈ [RX0, RX1, RX2, RX3, RX4, RX5], Cond.arrayOver (.object C) ∈ lw_tbl := by decide +kernel
theorem ws_ref : Cond.isRef (.static Bundle.tN "UNASSIGNED_STACK" Bundle.steD) ∈ flatC (Jvm.Cond.and given_1 narrow_1) ∧ Cond.isRef (.static Bundle.tN "SUPPRESSED_SENTINEL" Bundle.listD) ∈ flatC (Jvm.Cond.and given_1 narrow_1) := by decide +kernel
theorem ws_lay : Cond.laysStatic Bundle.tN "UNASSIGNED_STACK" Bundle.steD ∈ lw_tbl ∧ Cond.laysStatic Bundle.tN "SUPPRESSED_SENTINEL" Bundle.listD ∈ lw_tbl ∧ Cond.initialized Bundle.tN ∈ lw_tbl := by decide +kernel
theorem ws_iX0 : Cond.instantiable RX0 3 ∈ aw := aw_i 408 (by decide +kernel) (by decide +kernel)
theorem ws_iX1 : Cond.instantiable RX1 3 ∈ aw := aw_i 389 (by decide +kernel) (by decide +kernel)
theorem ws_iX2 : Cond.instantiable RX2 3 ∈ aw := aw_i 774 (by decide +kernel) (by decide +kernel)
theorem ws_iX3 : Cond.instantiable RX3 2 ∈ aw := aw_i 347 (by decide +kernel) (by decide +kernel)
theorem ws_iX4 : Cond.instantiable RX4 2 ∈ aw := aw_i 365 (by decide +kernel) (by decide +kernel)
theorem ws_iX5 : Cond.instantiable RX5 5 ∈ aw := aw_i 315 (by decide +kernel) (by decide +kernel)
theorem ws_iX6 : Cond.instantiable RX6 9 ∈ aw := aw_i 73 (by decide +kernel) (by decide +kernel)
theorem ws_iX7 : Cond.instantiable RX7 21 ∈ aw := aw_i 896 (by decide +kernel) (by decide +kernel)
theorem law_K {p : Program} {s : State} {m : MethodId} {meth : Method} {c : Code} {b L : Nat} {xs : Nat → Int32} (C0 : lw_At p s m meth c b L xs) : ∃ (D : va_G) (E : Nat → ClassId), zs_E D E s.heap.size (fun q => s.heap.size ≤ q) s m #[Value.ref b] meth c p code 9 RL ∧ zw_N s := by
  obtain ⟨hx, hb, hr, hml, hown, hts, hX, hbl, hlocks, hgv⟩ := id C0
  have hfl := flat_of_before _ hgv
  have hta : ∀ w ∈ aw, w.before #[Value.ref b] s = true := fun w hw => hts w (aw_tbl w hw)
  have hAO : ∀ C ∈ [RX0, RX1, RX2, RX3, RX4, RX5], va_AO C s := fun C hC => va_AO.of (hts _ (ws_AO C hC))
  obtain ⟨c0, i0, k0⟩ := u_known (C := RX0) (T := TX0) (N := 3) (n := 3) hta uin_X0 (hta _ ws_iX0)
  obtain ⟨c1, i1, k1⟩ := u_known (C := RX1) (T := TX1) (N := 3) (n := 3) hta uin_X1 (hta _ ws_iX1)
  obtain ⟨c2, i2, k2⟩ := u_known (C := RX2) (T := TX2) (N := 3) (n := 3) hta uin_X2 (hta _ ws_iX2)
  obtain ⟨c3, i3, k3⟩ := u_known (C := RX3) (T := TX3) (N := 2) (n := 2) hta uin_X3 (hta _ ws_iX3)
  obtain ⟨c4, i4, k4⟩ := u_known (C := RX4) (T := TX4) (N := 2) (n := 2) hta uin_X4 (hta _ ws_iX4)
  obtain ⟨c5, i5, k5⟩ := u_known (C := RX5) (T := TX5) (N := 5) (n := 5) hta uin_X5 (hta _ ws_iX5)
  obtain ⟨c6, i6, k6⟩ := u_known (C := RX6) (T := TX6) (N := 9) (n := 9) hta uin_X6 (hta _ ws_iX6)
  obtain ⟨c7, i7, k7⟩ := u_known (C := RX7) (T := TX7) (N := 21) (n := 21) hta uin_X7 (hta _ ws_iX7)
  obtain ⟨e0, f0, g0⟩ := ka_P (hta _ q_arr_int)
  obtain ⟨e1, f1, g1⟩ := ka_P (hta _ q_arr_char)
  obtain ⟨e2, f2, g2⟩ := ka_P (hta _ q_arr_boolean)
  obtain ⟨e3, f3, g3⟩ := ka_P (hta _ q_arr_long)
  obtain ⟨e4, f4, g4⟩ := ka_P (hta _ q_arr_double)
  obtain ⟨e5, f5, g5⟩ := ka_O (hAO RX1 (by decide))
  obtain ⟨e6, f6, g6⟩ := ka_O (hAO RX5 (by decide))
  obtain ⟨e7, f7, g7⟩ := ka_O (hAO RX0 (by decide))
  obtain ⟨e8, f8, g8⟩ := ka_O (hAO RX2 (by decide))
  obtain ⟨e9, f9, g9⟩ := ka_O (hAO RX4 (by decide))
  obtain ⟨e10, f10, g10⟩ := ka_O (hAO RX3 (by decide))
  refine ⟨(fun k => if k = 0 then c0 else if k = 1 then c1 else if k = 2 then c2 else if k = 3 then c3 else if k = 4 then c4 else if k = 5 then c5 else if k = 6 then c6 else c7, fun k => if k = 0 then i0 else if k = 1 then i1 else if k = 2 then i2 else if k = 3 then i3 else if k = 4 then i4 else if k = 5 then i5 else if k = 6 then i6 else i7), fun k => if k = 0 then e0 else if k = 1 then e1 else if k = 2 then e2 else if k = 3 then e3 else if k = 4 then e4 else if k = 5 then e5 else if k = 6 then e6 else if k = 7 then e7 else if k = 8 then e8 else if k = 9 then e9 else e10, ⟨hx, hb, hml, hown, hta, ⟨⟨?_, ?_⟩, ?_, fun w hw => va_Nw.of (ws_nt w hw) (hts w (ws_nw w hw)), Nat.le_refl _, vx_Zqof (hts _ ws_lay.1) (hts _ ws_lay.2.2) (hfl _ ws_ref.1) (fun a h1 h2 => by have h2 : s.heap.size ≤ a := h2; omega), vx_Zqof (hts _ ws_lay.2.1) (hts _ ws_lay.2.2) (hfl _ ws_ref.2) (fun a h1 h2 => by have h2 : s.heap.size ≤ a := h2; omega), hAO⟩, hlocks, fun q h => h, fun q h => h⟩, fun q hq => va_Nc.of (hfl _ (ws_prs q hq))⟩
  · intro k q hq
    match k, hq with
    | 0, hq => cases hq; exact k0
    | 1, hq => cases hq; exact k1
    | 2, hq => cases hq; exact k2
    | 3, hq => cases hq; exact k3
    | 4, hq => cases hq; exact k4
    | 5, hq => cases hq; exact k5
    | 6, hq => cases hq; exact k6
    | 7, hq => cases hq; exact k7
    | k + 8, hq => simp [zs_C] at hq
  · intro k q hq
    match k, hq with
    | 0, hq => cases hq; exact ⟨f0, g0⟩
    | 1, hq => cases hq; exact ⟨f1, g1⟩
    | 2, hq => cases hq; exact ⟨f2, g2⟩
    | 3, hq => cases hq; exact ⟨f3, g3⟩
    | 4, hq => cases hq; exact ⟨f4, g4⟩
    | 5, hq => cases hq; exact ⟨f5, g5⟩
    | 6, hq => cases hq; exact ⟨f6, g6⟩
    | 7, hq => cases hq; exact ⟨f7, g7⟩
    | 8, hq => cases hq; exact ⟨f8, g8⟩
    | 9, hq => cases hq; exact ⟨f9, g9⟩
    | 10, hq => cases hq; exact ⟨f10, g10⟩
    | k + 11, hq => simp [zs_T] at hq
  · intro q hq
    obtain ⟨h1, h2⟩ := ws_str q hq
    obtain ⟨a, -, -, -, ha, -⟩ := Cond.exactly_spec (hfl _ h2)
    exact ⟨a, vk_R.of (hts _ h1) ha⟩
theorem cs_0 {D : va_G} {E : Nat → ClassId} {κ κ' : Nat → Nat} {x : Nat} {H H1 : Heap} (h : cs_X D E κ sp_0 x H) (hk : ∀ q, q < H.size → κ' q = κ q) (ho : ∀ q, q < H.size → H1[q]? = H[q]?) (h0 : ∀ q, H1.size ≤ q → κ' q = 0) : cs_X D E κ' sp_0 x H1 := by
  obtain ⟨a1, a2, a3, a4, a5, lp, lv, lh, lz, tg, ⟨t0, t1, t2, t3, t4, t5, hx, r1, r2, r3, r4, r5⟩, htg, hP, hV, hG, hZ, hκ⟩ := h
  exact ⟨a1, a2, a3, a4, a5, lp, lv, lh, lz, tg, ⟨(hk _ hx.lt).trans t0, (hk _ r1.lt).trans t1, (hk _ r2.lt).trans t2, (hk _ r3.lt).trans t3, (hk _ r4.lt).trans t4, (hk _ r5.lt).trans t5, hx.kept (ho _ hx.lt), r1.kept (ho _ r1.lt), r2.kept (ho _ r2.lt), r3.kept (ho _ r3.lt), r4.kept (ho _ r4.lt), r5.kept (ho _ r5.lt)⟩, htg, fun i hi => absurd hi (Nat.not_lt_zero _), fun v hv => absurd hv (Nat.not_lt_zero _), ⟨hG.1, fun k hk => absurd hk (Nat.not_lt_zero _)⟩, fun z hz => absurd hz (Nat.not_lt_zero _), h0⟩

set_option maxHeartbeats 4000000 in
set_option maxRecDepth 100000 in
theorem law_body {D : va_G} {E : Nat → ClassId} {l : Launch} (hl : l.stackTraces = false) {p : Program} {e : Env} {s : State} {m : MethodId} {below : List Frame} {meth : Method} {c : Code} {b L : Nat} {xs : Nat → Int32} (hL : L ≤ 3072) (hX0 : va_X b L xs s s.heap) (hbl : b < s.heap.size) (hE : zs_E D E s.heap.size (fun q => s.heap.size ≤ q) s m #[Value.ref b] meth c p code 9 RL) (hN : zw_N s) (hr : meth.sig.returnType = ret) : zs_W (fun q => s.heap.size ≤ q) p l e room_1 s m #[Value.ref b] below meth c 9 (lw_Z below #[Value.ref b] s) s.heap 0 0 0 [(0, .ref b)] [] := by
  refine zs_new (fs := [.null, .int 0, .null, .int 0, .null, .null, .int 0, .null, .int 0]) hE nl_L_8 (fun j hj => by rcases (show j = 0 ∨ j = 1 ∨ j = 2 ∨ j = 3 ∨ j = 4 ∨ j = 5 ∨ j = 6 ∨ j = 7 ∨ j = 8 by omega) with rfl | rfl | rfl | rfl | rfl | rfl | rfl | rfl | rfl <;> rfl) (Nat.le_of_ble_eq_true rfl) (Nat.le_of_ble_eq_true rfl) dL_law_0 (fun x H1 ex px z1 o1 => ?_)
  refine zs_dup hE dL_law_3 rfl ?_
  have kx : (fun q => if q = x then 1 else 0 : Nat → Nat) x = 1 := if_pos rfl
  refine zs_callI (ret := none) (av := []) (st := [.ref x]) hE (m_X6_init D E s.heap.size l (fun q => if q = x then 1 else 0) x) sI_L_116 ⟨px, kx, fun q hq => if_neg (by omega)⟩ ⟨by decide, by decide⟩ ⟨Nat.le_of_ble_eq_true rfl, Nat.le_of_ble_eq_true rfl⟩ (fun q h => by have h : q = x := h; show s.heap.size ≤ q; omega) (Nat.le_of_ble_eq_true rfl) dL_law_4 (fun v H2 hv z2 k2 => ?_)
  obtain ⟨rfl, -, κ1, hX1, hk1⟩ := hv
  refine zs_widen9 (k' := 6) (n' := 99) rfl rfl ?_
  refine zs_astore_n (lo' := [(1, .ref x), (0, .ref b)]) hE dL_law_7 rfl (by decide) rfl ?_
  refine zs_new (fs := [.int 0, .int 0, .int 0, .int 0, .int 0, .null, .null, .null, .null, .null, .null, .null, .null, .null, .null, .null, .null, .null, .null, .null, .null]) hE nl_L_117 (fun j hj => by rcases (show j = 0 ∨ j = 1 ∨ j = 2 ∨ j = 3 ∨ j = 4 ∨ j = 5 ∨ j = 6 ∨ j = 7 ∨ j = 8 ∨ j = 9 ∨ j = 10 ∨ j = 11 ∨ j = 12 ∨ j = 13 ∨ j = 14 ∨ j = 15 ∨ j = 16 ∨ j = 17 ∨ j = 18 ∨ j = 19 ∨ j = 20 by omega) with rfl | rfl | rfl | rfl | rfl | rfl | rfl | rfl | rfl | rfl | rfl | rfl | rfl | rfl | rfl | rfl | rfl | rfl | rfl | rfl | rfl <;> rfl) (Nat.le_of_ble_eq_true rfl) (Nat.le_of_ble_eq_true rfl) dL_law_8 (fun mx H3 emx pmx z3 o3 => ?_)
  refine zs_dup hE dL_law_11 rfl ?_
  refine zs_callI (ret := none) (av := []) (st := [.ref mx]) hE (m_X7_init D E s.heap.size l mx) sI_L_119 pmx ⟨by decide, by decide⟩ ⟨Nat.le_of_ble_eq_true rfl, Nat.le_of_ble_eq_true rfl⟩ (fun q h => by have h : q = mx := h; show s.heap.size ≤ q; omega) (Nat.le_of_ble_eq_true rfl) dL_law_12 (fun v H4 hv z4 k4 => ?_)
  obtain ⟨rfl, y4, hO4⟩ := hv
  refine zs_widen9 (k' := 23) (n' := 53170) rfl rfl ?_
  refine zs_astore_n (lo' := [(2, .ref mx), (1, .ref x), (0, .ref b)]) hE dL_law_15 rfl (by decide) rfl ?_
  refine zs_iconst (v := (nI 1)) hE dL_law_16 (by decide) ?_
  refine zs_newl hE q_arr_long (by decide) (Nat.le_of_ble_eq_true rfl) (Nat.le_of_ble_eq_true rfl) dL_law_17 (fun u H5 eu pu z5 o5 => ?_)
  refine zs_astore_n (lo' := [(3, .ref u), (2, .ref mx), (1, .ref x), (0, .ref b)]) hE dL_law_19 rfl (by decide) rfl ?_
  refine zs_iconst (v := (nI 1)) hE dL_law_20 (by decide) ?_
  refine zs_newd hE q_arr_double (by decide) (Nat.le_of_ble_eq_true rfl) (Nat.le_of_ble_eq_true rfl) dL_law_21 (fun w H6 ew pw z6 o6 => ?_)
  refine zs_astore (lo' := [(4, .ref w), (3, .ref u), (2, .ref mx), (1, .ref x), (0, .ref b)]) hE dL_law_23 (by decide) rfl ?_
  refine zs_iconst (v := (nI 0)) hE dL_law_25 (by decide) ?_
  refine zs_istore (lo' := [(5, .int (nI 0)), (4, .ref w), (3, .ref u), (2, .ref mx), (1, .ref x), (0, .ref b)]) hE dL_law_26 (by decide) rfl ?_
  refine zs_widen9 (k' := 25 + 70 * 0) (n' := 53172 + 240 * 0) rfl rfl ?_
  obtain ⟨μ, eμ⟩ : ∃ f : Nat → Nat, f = fun q => if q = mx then 500 else if mx < q ∧ q < mx + 17 then 505 + (q - (mx + 1)) else 0 := ⟨_, rfl⟩
  obtain ⟨κ, eκ⟩ : ∃ f : Nat → Nat, f = fun q => if H2.size ≤ q ∧ q < H6.size then 500 else κ1 q := ⟨_, rfl⟩
  have hμ0 : μ mx = 500 := by rw [eμ]; exact if_pos rfl
  have hμ1 : ∀ i, i < 16 → μ (H3.size + i) = 505 + i := fun i hi => by
    rw [eμ]
    show (if H3.size + i = mx then 500 else if mx < H3.size + i ∧ H3.size + i < mx + 17 then 505 + (H3.size + i - (mx + 1)) else 0) = 505 + i
    rw [if_neg (by omega), if_pos (by omega)]; omega
  have hμ2 : ∀ q, 500 ≤ μ q → mx ≤ q ∧ q < mx + 17 := fun q hq => by
    rw [eμ] at hq
    have hq : 500 ≤ (if q = mx then 500 else if mx < q ∧ q < mx + 17 then 505 + (q - (mx + 1)) else 0) := hq
    by_cases a1 : q = mx
    · omega
    · rw [if_neg a1] at hq
      by_cases a2 : mx < q ∧ q < mx + 17
      · omega
      · rw [if_neg a2] at hq; omega
  have hκ0 : ∀ q, q < H2.size → κ q = κ1 q := fun q hq => by rw [eκ]; exact if_neg (by omega)
  have hκ5 : ∀ q, H2.size ≤ q → q < H6.size → κ q = 500 := fun q q1 q2 => by rw [eκ]; exact if_pos ⟨q1, q2⟩
  have ho2 : ∀ q, q < H2.size → H6[q]? = H2[q]? := fun q hq => (o6 q (by omega)).trans ((o5 q (by omega)).trans ((k4 q (by omega) (fun w => by have w : q = mx := w; omega)).trans (o3 q hq)))
  have hX6 : cs_X D E κ sp_0 x H6 := cs_0 hX1 hκ0 ho2 (fun q hq => by
    obtain ⟨a1, a2, a3, a4, a5, lp, lv, lh, lz, tg, -, -, -, -, -, -, hκ⟩ := hX1
    rw [eκ]
    show (if H2.size ≤ q ∧ q < H6.size then 500 else κ1 q) = 0
    rw [if_neg (by omega)]; exact hκ q (by omega))
  have hO6 := (hO4 μ hμ0 hμ1).mv (H1 := H6) (fun q q1 _ => (o6 q (by omega)).trans (o5 q (by omega)))
  have hI : lw_I D E s.heap.size x mx u w (fun a => H3.size + (a - 5)) μ H4.size sp_0 κ (fun _ => 0) (fun _ _ => 0) H6 := ⟨wf_0, hX6, hO6, mi_0, fun q hq => by
      obtain ⟨a1, a2⟩ := hμ2 q hq
      exact ⟨by rw [hκ5 q (by omega) (by omega)]; exact Nat.le_refl _, by omega, by omega, by omega, by omega⟩, ⟨by rw [hκ5 u (by omega) (by omega)]; exact Nat.le_refl _, by rw [hκ5 w (by omega) (by omega)]; exact Nat.le_refl _, by omega, by omega, by omega⟩, fun q hq => by rw [hκ0 q (by omega), hk1 q (by omega)]; exact if_neg (by omega), ⟨by omega, by omega⟩, ⟨_, pu.kept (o6 _ pu.lt)⟩, ⟨_, pw⟩⟩
  refine zs_sub (lo' := [(5, .int (nI 0)), (0, .ref b), (1, .ref x), (2, .ref mx), (3, .ref u), (4, .ref w)]) [0, 5, 4, 3, 2, 1] rfl ?_
  refine zs_lo (lo' := [(5, .int (nI (6 * 0))), (0, .ref b), (1, .ref x), (2, .ref mx), (3, .ref u), (4, .ref w)]) (rfl) ?_
  refine zs_sub (lo' := [(5, .int (nI (6 * 0))), (0, .ref b), (1, .ref x), (2, .ref mx), (3, .ref u), (4, .ref w)]) [0, 1, 2, 3, 4, 5] rfl ?_
  refine zs_ind6 (Hs := fun (t : Nat) (K : Heap) (S : sp_S) (κ : Nat → Nat) (sc : Nat → Nat) (ar : Nat → Nat → Int32) => K) (ks := fun (t : Nat) (K : Heap) (S : sp_S) (κ : Nat → Nat) (sc : Nat → Nat) (ar : Nat → Nat → Int32) => 25 + 70 * t) (ns := fun (t : Nat) (K : Heap) (S : sp_S) (κ : Nat → Nat) (sc : Nat → Nat) (ar : Nat → Nat → Int32) => 53172 + 240 * t) (los := fun (t : Nat) (K : Heap) (S : sp_S) (κ : Nat → Nat) (sc : Nat → Nat) (ar : Nat → Nat → Int32) => [(5, .int (nI (6 * t))), (0, .ref b), (1, .ref x), (2, .ref mx), (3, .ref u), (4, .ref w)]) (I := fun (t : Nat) (K : Heap) (S : sp_S) (κ : Nat → Nat) (sc : Nat → Nat) (ar : Nat → Nat → Int32) => 6 * t ≤ L ∧ lw_I D E s.heap.size x mx u w (fun a => H3.size + (a - 5)) μ H4.size S κ sc ar K) (μ := fun (t : Nat) (K : Heap) (S : sp_S) (κ : Nat → Nat) (sc : Nat → Nat) (ar : Nat → Nat → Int32) => L - 6 * t) 0 H6 sp_0 κ (fun _ => 0) (fun _ _ => 0) (⟨by omega, hI⟩) (fun t K S κ sc ar hi ih => ?_)
  try dsimp only at hi ih ⊢
  obtain ⟨h6, hI⟩ := hi
  refine zs_iload hE 0 dL_law_28 rfl ?_
  refine zs_aload_n hE 1 dL_law_30 rfl rfl ?_
  refine zs_slen hE hX0 hbl (Nat.not_le.mpr hbl) dL_law_31 ?_
  refine zs_bipush (v := (nI 6)) hE dL_law_32 (by decide) ?_
  refine zs_isub hE dL_law_34 ?_
  refine zs_icmp_gt (tgt := 2208) hE dL_law_35 (by decide) (fun h1 => ?_) (fun h1 => ?_)
  · refine zs_iconst (v := (nI 1)) hE dL_law_2208 (by decide) ?_
    exact zs_end hE hr (by omega) (by omega) dL_law_2209
  · have ht : 6 * t + 6 ≤ L := by have hg : ¬ (nI L - nI 6 < nI (6 * t)) := h1; rw [Int32.lt_iff_toInt_lt, pk_sub_toInt (by omega) (by decide), nI_toInt (by omega)] at hg; omega
    refine zs_aload_n hE 1 dL_law_38 rfl rfl ?_
    refine zs_iload hE 0 dL_law_39 rfl ?_
    refine zs_sld hE hX0 hbl (Nat.not_le.mpr hbl) (by omega) (by omega) dL_law_41 ?_
    refine zs_bipush (v := (nI 31)) hE dL_law_42 (by decide) ?_
    refine zs_iand hE dL_law_44 ?_
    obtain ⟨j, hj, ej⟩ := and_31 (xs (6 * t))
    refine zs_top (v' := .int (nI j)) (by rw [ej]) ?_
    have ih9 : ∀ (S : sp_S) (κ sc : Nat → Nat) (ar : Nat → Nat → Int32) (K : Heap), lw_I D E s.heap.size x mx u w (fun a => H3.size + (a - 5)) μ H4.size S κ sc ar K → zs_W (fun q => s.heap.size ≤ q) p l e room_1 s m #[Value.ref b] below meth c 9 (lw_Z below #[Value.ref b] s) K (25 + 70 * (t + 1)) (53172 + 240 * (t + 1)) 28 [(5, .int (nI (6 * (t + 1)))), (0, .ref b), (1, .ref x), (2, .ref mx), (3, .ref u), (4, .ref w)] [] := fun S κ sc ar K hI2 => ih (t + 1) K S κ sc ar ⟨by omega, hI2⟩ (by omega)
    clear ih
    rcases (show j = 0 ∨ j = 1 ∨ j = 2 ∨ j = 3 ∨ j = 4 ∨ j = 5 ∨ j = 6 ∨ j = 7 ∨ j = 8 ∨ j = 9 ∨ j = 10 ∨ j = 11 ∨ j = 12 ∨ j = 13 ∨ j = 14 ∨ j = 15 ∨ j = 16 ∨ j = 17 ∨ j = 18 ∨ j = 19 ∨ j = 20 ∨ j = 21 ∨ j = 22 ∨ j = 23 ∨ j = 24 ∨ j = 25 ∨ j = 26 ∨ j = 27 ∨ j = 28 ∨ j = 29 ∨ j = 30 ∨ j = 31 by omega) with rfl | rfl | rfl | rfl | rfl | rfl | rfl | rfl | rfl | rfl | rfl | rfl | rfl | rfl | rfl | rfl | rfl | rfl | rfl | rfl | rfl | rfl | rfl | rfl | rfl | rfl | rfl | rfl | rfl | rfl | rfl | rfl
    · refine zs_tab (tgt := 188) hE dL_law_45 (by decide) (by decide) rfl (by decide) ?_
      exact lw_piece hl hL hX0 hbl hE hN ht hI ih9
    · refine zs_tab (tgt := 256) hE dL_law_45 (by decide) (by decide) rfl (by decide) ?_
      exact lw_firstOf hl hL hX0 hbl hE hN ht hI ih9
    · refine zs_tab (tgt := 312) hE dL_law_45 (by decide) (by decide) rfl (by decide) ?_
      exact lw_pieceOf hl hL hX0 hbl hE hN ht hI ih9
    · refine zs_tab (tgt := 368) hE dL_law_45 (by decide) (by decide) rfl (by decide) ?_
      exact lw_note hl hL hX0 hbl hE hN ht hI ih9
    · refine zs_tab (tgt := 424) hE dL_law_45 (by decide) (by decide) rfl (by decide) ?_
      exact lw_wipe hl hL hX0 hbl hE hN ht hI ih9
    · refine zs_tab (tgt := 437) hE dL_law_45 (by decide) (by decide) rfl (by decide) ?_
      exact lw_write hl hL hX0 hbl hE hN ht hI ih9
    · refine zs_tab (tgt := 529) hE dL_law_45 (by decide) (by decide) rfl (by decide) ?_
      exact lw_rule hl hL hX0 hbl hE hN ht hI ih9
    · refine zs_tab (tgt := 611) hE dL_law_45 (by decide) (by decide) rfl (by decide) ?_
      exact lw_merge hl hL hX0 hbl hE hN ht hI ih9
    · refine zs_tab (tgt := 691) hE dL_law_45 (by decide) (by decide) rfl (by decide) ?_
      exact lw_base hl hL hX0 hbl hE hN ht hI ih9
    · refine zs_tab (tgt := 759) hE dL_law_45 (by decide) (by decide) rfl (by decide) ?_
      exact lw_isAbove hl hL hX0 hbl hE hN ht hI ih9
    · refine zs_tab (tgt := 834) hE dL_law_45 (by decide) (by decide) rfl (by decide) ?_
      exact lw_rows hl hL hX0 hbl hE hN ht hI ih9
    · refine zs_tab (tgt := 914) hE dL_law_45 (by decide) (by decide) rfl (by decide) ?_
      exact lw_noteAt hl hL hX0 hbl hE hN ht hI ih9
    · refine zs_tab (tgt := 1018) hE dL_law_45 (by decide) (by decide) rfl (by decide) ?_
      exact lw_writer hl hL hX0 hbl hE hN ht hI ih9
    · refine zs_tab (tgt := 1110) hE dL_law_45 (by decide) (by decide) rfl (by decide) ?_
      exact lw_doubts hl hL hX0 hbl hE hN ht hI ih9
    · refine zs_tab (tgt := 1166) hE dL_law_45 (by decide) (by decide) rfl (by decide) ?_
      exact lw_unlike hl hL hX0 hbl hE hN ht hI ih9
    · refine zs_tab (tgt := 1234) hE dL_law_45 (by decide) (by decide) rfl (by decide) ?_
      exact lw_hear hl hL hX0 hbl hE hN ht hI ih9
    · refine zs_tab (tgt := 1302) hE dL_law_45 (by decide) (by decide) rfl (by decide) ?_
      exact lw_mark hl hL hX0 hbl hE hN ht hI ih9
    · refine zs_tab (tgt := 1394) hE dL_law_45 (by decide) (by decide) rfl (by decide) ?_
      exact lw_affirm hl hL hX0 hbl hE hN ht hI ih9
    · refine zs_tab (tgt := 1474) hE dL_law_45 (by decide) (by decide) rfl (by decide) ?_
      exact lw_asked hl hL hX0 hbl hE hN ht hI ih9
    · refine zs_tab (tgt := 1487) hE dL_law_45 (by decide) (by decide) rfl (by decide) ?_
      exact lw_points hl hL hX0 hbl hE hN ht hI ih9
    · refine zs_tab (tgt := 1555) hE dL_law_45 (by decide) (by decide) rfl (by decide) ?_
      exact lw_ranked hl hL hX0 hbl hE hN ht hI ih9
    · refine zs_tab (tgt := 1611) hE dL_law_45 (by decide) (by decide) rfl (by decide) ?_
      exact lw_isTied hl hL hX0 hbl hE hN ht hI ih9
    · refine zs_tab (tgt := 1674) hE dL_law_45 (by decide) (by decide) rfl (by decide) ?_
      exact lw_give hl hL hX0 hbl hE hN ht hI ih9
    · refine zs_tab (tgt := 1742) hE dL_law_45 (by decide) (by decide) rfl (by decide) ?_
      exact lw_named hl hL hX0 hbl hE hN ht hI ih9
    · refine zs_tab (tgt := 1798) hE dL_law_45 (by decide) (by decide) rfl (by decide) ?_
      exact lw_share hl hL hX0 hbl hE hN ht hI ih9
    · refine zs_tab (tgt := 1866) hE dL_law_45 (by decide) (by decide) rfl (by decide) ?_
      exact lw_got hl hL hX0 hbl hE hN ht hI ih9
    · refine zs_tab (tgt := 1922) hE dL_law_45 (by decide) (by decide) rfl (by decide) ?_
      exact lw_partsOf hl hL hX0 hbl hE hN ht hI ih9
    · refine zs_tab (tgt := 1990) hE dL_law_45 (by decide) (by decide) rfl (by decide) ?_
      exact lw_versions hl hL hX0 hbl hE hN ht hI ih9
    · refine zs_tab (tgt := 2003) hE dL_law_45 (by decide) (by decide) rfl (by decide) ?_
      exact lw_countShare hl hL hX0 hbl hE hN ht hI ih9
    · refine zs_tab (tgt := 2069) hE dL_law_45 (by decide) (by decide) rfl (by decide) ?_
      exact lw_meanMark hl hL hX0 hbl hE hN ht hI ih9
    · refine zs_tab (tgt := 2134) hE dL_law_45 (by decide) (by decide) rfl (by decide) ?_
      exact lw_checksum hl hL hX0 hbl hE hN ht hI ih9
    · refine zs_tab (tgt := 2189) hE dL_law_45 (by decide) (by decide) rfl (by decide) ?_
      exact lw_isSound hl hL hX0 hbl hE hN ht hI ih9

set_option maxHeartbeats 4000000 in
theorem whole_start {p : Program} {e : Env} {s : State} {m : MethodId} {below : List Frame} {meth : Method} {c : Code} (l : Launch) (hflags : l.flags = flags0) {b L : Nat} {xs : Nat → Int32} (hL : L ≤ 3072) (C0 : lw_At p s m meth c b L xs) : W p l e room_1 s m #[Value.ref b] below meth c s.heap [] 0 0 (lw_Z below #[Value.ref b] s) (entryFrame m ([Value.ref b] : List Value).toArray 9) := by
  obtain ⟨D, E, hE, hN⟩ := law_K C0
  obtain ⟨hx, hb, hr, hml, hown, hts, hX, hbl, hlocks, hgv⟩ := id C0
  have hl : l.stackTraces = false := by
    show (!l.flags.contains noTraceFlag) = false
    rw [hflags]; decide +kernel
  have hll := lv_entry ([.ref b]) (n := 9) (Nat.le_of_ble_eq_true rfl)
  rw [lg_entry_eq]
  exact law_body hl hL hX hbl hE hN hr _ [] hll va_S.rf


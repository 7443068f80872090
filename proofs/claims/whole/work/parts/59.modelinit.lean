/-! the model: isSound, the new object -/
theorem mi_0 : mi_ sp_0 (fun _ => 0) (fun _ _ => 0) := by
  refine ⟨⟨rfl, fun i h => absurd h (Nat.not_lt_zero _)⟩, ⟨rfl, fun v h => absurd h (Nat.not_lt_zero _)⟩, ⟨rfl, fun v h => absurd h (Nat.not_lt_zero _)⟩, fun r _ i _ => ⟨rfl, fun j _ => ⟨rfl, ?_⟩⟩, ⟨rfl, fun v h => absurd h (Nat.not_lt_zero _)⟩, fun q _ _ => rfl⟩
  rw [if_neg (fun w => w.1 rfl)]; rfl

set_option maxHeartbeats 4000000 in
set_option maxRecDepth 100000 in
theorem m_X7_isSound (D : va_G) (E : Nat → ClassId) (B : Nat) (l : Launch) (κ : Nat → Nat) (x : Nat) (ad sc : Nat → Nat) (ar : Nat → Nat → Int32) (S : sp_S) (hM : mi_ S sc ar) (hw : sp_wf S) : zs_Ct D E B l yX7_isSound cX7_isSound 1 (some .boolean) ({ frames := 0, cells := 0, slots := 0, locals := 0 } : Room) [.ref x] (fun H => md_O D E κ x ad sc ar H) (md_F κ) (mq_ D E κ x ad (o_isSound S)) := by
  refine zs_ct (by decide) (Nat.le_of_ble_eq_true rfl) (fun p e s m below meth c hE hr hin hp => ?_)
  refine zs_lo (lo' := [(0, .ref x)]) rfl ?_
  have hO := hp
  obtain ⟨t0, hx, t5, t6, t7, t8, t9, t10, t11, t12, t13, t14, t15, t16, t17, t18, t19, t20, r5, r6, r7, r8, r9, r10, r11, r12, r13, r14, r15, r16, r17, r18, r19, r20⟩ := id hO
  obtain ⟨wN, wP, wV, wA, wH, wZ, wF⟩ := id hw
  obtain ⟨n6, n40, n12, n8, n99⟩ := id wN
  obtain ⟨⟨mp0, mP⟩, ⟨mv0, mV⟩, ⟨mt0, mT⟩, mH, ⟨mz0, mZ⟩, mE⟩ := id hM
  refine zs_aload_n hE 0 dX7_isSound_0 rfl rfl ?_
  refine zs_iconst (v := (nI 0)) hE dX7_isSound_1 (by decide) ?_
  refine zs_put (v := .int (nI 0)) hE fl_X7_22 hx (Or.inl (show 500 ≤ κ x by omega)) (rfl) (rfl) (Nat.le_of_ble_eq_true rfl) dX7_isSound_2 (fun H1 hp1 hz1 ho1 => ?_)
  have r5 := zs_pt.kept r5 (ho1 _ (cs_ne t5 t0 (by decide)))
  have r6 := zs_pt.kept r6 (ho1 _ (cs_ne t6 t0 (by decide)))
  have r7 := zs_pt.kept r7 (ho1 _ (cs_ne t7 t0 (by decide)))
  have r8 := zs_pt.kept r8 (ho1 _ (cs_ne t8 t0 (by decide)))
  have r9 := zs_pt.kept r9 (ho1 _ (cs_ne t9 t0 (by decide)))
  have r10 := zs_pt.kept r10 (ho1 _ (cs_ne t10 t0 (by decide)))
  have r11 := zs_pt.kept r11 (ho1 _ (cs_ne t11 t0 (by decide)))
  have r12 := zs_pt.kept r12 (ho1 _ (cs_ne t12 t0 (by decide)))
  have r13 := zs_pt.kept r13 (ho1 _ (cs_ne t13 t0 (by decide)))
  have r14 := zs_pt.kept r14 (ho1 _ (cs_ne t14 t0 (by decide)))
  have r15 := zs_pt.kept r15 (ho1 _ (cs_ne t15 t0 (by decide)))
  have r16 := zs_pt.kept r16 (ho1 _ (cs_ne t16 t0 (by decide)))
  have r17 := zs_pt.kept r17 (ho1 _ (cs_ne t17 t0 (by decide)))
  have r18 := zs_pt.kept r18 (ho1 _ (cs_ne t18 t0 (by decide)))
  have r19 := zs_pt.kept r19 (ho1 _ (cs_ne t19 t0 (by decide)))
  have r20 := zs_pt.kept r20 (ho1 _ (cs_ne t20 t0 (by decide)))
  have hp1 : zs_pt D x (.inr (7, [.int (nI (sc 0)), .int (nI (sc 1)), .int (nI (sc 2)), .int (nI (sc 3)), .int (nI 0), .ref (ad 5), .ref (ad 6), .ref (ad 7), .ref (ad 8), .ref (ad 9), .ref (ad 10), .ref (ad 11), .ref (ad 12), .ref (ad 13), .ref (ad 14), .ref (ad 15), .ref (ad 16), .ref (ad 17), .ref (ad 18), .ref (ad 19), .ref (ad 20)])) H1 := hp1
  have hO4 : md_O D E κ x ad (va_up sc 4 0) ar H1 := ⟨t0, hp1, t5, t6, t7, t8, t9, t10, t11, t12, t13, t14, t15, t16, t17, t18, t19, t20, r5, r6, r7, r8, r9, r10, r11, r12, r13, r14, r15, r16, r17, r18, r19, r20⟩
  refine zs_iconst (v := (nI 1)) hE dX7_isSound_5 (by decide) ?_
  exact zs_zret hE hr (rfl) (mq_mk (S' := S) (k := 0) rfl (by omega) (fun _ => rfl) hO4 (mi_4 hM)) (by decide) (by decide) dX7_isSound_6

set_option maxHeartbeats 4000000 in
set_option maxRecDepth 100000 in
theorem m_X7_init (D : va_G) (E : Nat → ClassId) (B : Nat) (l : Launch) (x : Nat) : zs_Ct D E B l yX7_init cX7_init 1 none ({ frames := 1, cells := 16, slots := 53050, locals := 40 } : Room) [.ref x] (fun H => zs_pt D x (.inr (7, [.int 0, .int 0, .int 0, .int 0, .int 0, .null, .null, .null, .null, .null, .null, .null, .null, .null, .null, .null, .null, .null, .null, .null, .null])) H) (fun q => q = x) (fun v H H1 => v = none ∧ H1.size = H.size + 16 ∧ ∀ κ : Nat → Nat, κ x = 500 → (∀ i, i < 16 → κ (H.size + i) = 505 + i) → md_O D E κ x (fun a => H.size + (a - 5)) (fun _ => 0) (fun _ _ => 0) H1) := by
  refine zs_ct (by decide) (Nat.le_of_ble_eq_true rfl) (fun p e s m below meth c hE hr hin hp => ?_)
  refine zs_lo (lo' := [(0, .ref x)]) rfl ?_
  have hx := hp
  have lx := hx.lt
  refine zs_aload_n hE 0 dX7_init_0 rfl rfl ?_
  refine zs_objInit hE ol_X7_1 q_objI q_objC dX7_init_1 (by decide) (Nat.le_of_ble_eq_true rfl) (by decide) ?_
  refine zs_aload_n hE 0 dX7_init_4 rfl rfl ?_
  refine zs_iconst (v := (nI 0)) hE dX7_init_5 (by decide) ?_
  refine zs_put (v := .int (nI 0)) hE fl_X7_7 hx (Or.inl rfl) (rfl) (rfl) (Nat.le_of_ble_eq_true rfl) dX7_init_6 (fun H1 hp1 hz1 ho1 => ?_)
  have hp1 : zs_pt D x (.inr (7, [.int (nI 0), .int 0, .int 0, .int 0, .int 0, .null, .null, .null, .null, .null, .null, .null, .null, .null, .null, .null, .null, .null, .null, .null, .null])) H1 := hp1
  refine zs_aload_n hE 0 dX7_init_9 rfl rfl ?_
  refine zs_iconst (v := (nI 0)) hE dX7_init_10 (by decide) ?_
  refine zs_put (v := .int (nI 0)) hE fl_X7_13 hp1 (Or.inl rfl) (rfl) (rfl) (Nat.le_of_ble_eq_true rfl) dX7_init_11 (fun H2 hp2 hz2 ho2 => ?_)
  have hp2 : zs_pt D x (.inr (7, [.int (nI 0), .int (nI 0), .int 0, .int 0, .int 0, .null, .null, .null, .null, .null, .null, .null, .null, .null, .null, .null, .null, .null, .null, .null, .null])) H2 := hp2
  refine zs_aload_n hE 0 dX7_init_14 rfl rfl ?_
  refine zs_iconst (v := (nI 0)) hE dX7_init_15 (by decide) ?_
  refine zs_put (v := .int (nI 0)) hE fl_X7_16 hp2 (Or.inl rfl) (rfl) (rfl) (Nat.le_of_ble_eq_true rfl) dX7_init_16 (fun H3 hp3 hz3 ho3 => ?_)
  have hp3 : zs_pt D x (.inr (7, [.int (nI 0), .int (nI 0), .int (nI 0), .int 0, .int 0, .null, .null, .null, .null, .null, .null, .null, .null, .null, .null, .null, .null, .null, .null, .null, .null])) H3 := hp3
  refine zs_aload_n hE 0 dX7_init_19 rfl rfl ?_
  refine zs_iconst (v := (nI 0)) hE dX7_init_20 (by decide) ?_
  refine zs_put (v := .int (nI 0)) hE fl_X7_19 hp3 (Or.inl rfl) (rfl) (rfl) (Nat.le_of_ble_eq_true rfl) dX7_init_21 (fun H4 hp4 hz4 ho4 => ?_)
  have hp4 : zs_pt D x (.inr (7, [.int (nI 0), .int (nI 0), .int (nI 0), .int (nI 0), .int 0, .null, .null, .null, .null, .null, .null, .null, .null, .null, .null, .null, .null, .null, .null, .null, .null])) H4 := hp4
  refine zs_aload_n hE 0 dX7_init_24 rfl rfl ?_
  refine zs_iconst (v := (nI 0)) hE dX7_init_25 (by decide) ?_
  refine zs_put (v := .int (nI 0)) hE fl_X7_22 hp4 (Or.inl rfl) (rfl) (rfl) (Nat.le_of_ble_eq_true rfl) dX7_init_26 (fun H5 hp5 hz5 ho5 => ?_)
  have hp5 : zs_pt D x (.inr (7, [.int (nI 0), .int (nI 0), .int (nI 0), .int (nI 0), .int (nI 0), .null, .null, .null, .null, .null, .null, .null, .null, .null, .null, .null, .null, .null, .null, .null, .null])) H5 := hp5
  refine zs_aload_n hE 0 dX7_init_29 rfl rfl ?_
  refine zs_bipush (v := (nI 6)) hE dX7_init_30 (by decide) ?_
  refine zs_newi hE q_arr_int (by decide) (by decide) (by decide) dX7_init_32 (fun q6 H6 hq6 hp6 hz6 ho6 => ?_)
  refine zs_widen (k' := 1) (n' := 6) (by omega) (by omega) ?_
  have ne7 : x ≠ q6 := by have := zs_pt.lt hp5; omega
  have hp5 := zs_pt.kept hp5 (ho6 _ (zs_pt.lt hp5))
  refine zs_putF (v := .ref q6) hE (hin rfl) fl_X7_25 ⟨_, _, _, rfl, rfl⟩ hp5 (Or.inl rfl) (rfl) (rfl) (Nat.le_of_ble_eq_true rfl) dX7_init_34 (fun H8 hp8 hz8 ho8 => ?_)
  have hp6 := zs_pt.kept hp6 (ho8 _ ne7.symm)
  have hp8 : zs_pt D x (.inr (7, [.int (nI 0), .int (nI 0), .int (nI 0), .int (nI 0), .int (nI 0), .ref q6, .null, .null, .null, .null, .null, .null, .null, .null, .null, .null, .null, .null, .null, .null, .null])) H8 := hp8
  refine zs_aload_n hE 0 dX7_init_37 rfl rfl ?_
  refine zs_bipush (v := (nI 6)) hE dX7_init_38 (by decide) ?_
  refine zs_newi hE q_arr_int (by decide) (by decide) (by decide) dX7_init_40 (fun q9 H9 hq9 hp9 hz9 ho9 => ?_)
  refine zs_widen (k' := 2) (n' := 12) (by omega) (by omega) ?_
  have ne10 : x ≠ q9 := by have := zs_pt.lt hp8; omega
  have hp8 := zs_pt.kept hp8 (ho9 _ (zs_pt.lt hp8))
  have ne11 : q6 ≠ q9 := by have := zs_pt.lt hp6; omega
  have hp6 := zs_pt.kept hp6 (ho9 _ (zs_pt.lt hp6))
  refine zs_putF (v := .ref q9) hE (hin rfl) fl_X7_29 ⟨_, _, _, rfl, rfl⟩ hp8 (Or.inl rfl) (rfl) (rfl) (Nat.le_of_ble_eq_true rfl) dX7_init_42 (fun H12 hp12 hz12 ho12 => ?_)
  have hp6 := zs_pt.kept hp6 (ho12 _ ne7.symm)
  have hp9 := zs_pt.kept hp9 (ho12 _ ne10.symm)
  have hp12 : zs_pt D x (.inr (7, [.int (nI 0), .int (nI 0), .int (nI 0), .int (nI 0), .int (nI 0), .ref q6, .ref q9, .null, .null, .null, .null, .null, .null, .null, .null, .null, .null, .null, .null, .null, .null])) H12 := hp12
  refine zs_aload_n hE 0 dX7_init_45 rfl rfl ?_
  refine zs_bipush (v := (nI 6)) hE dX7_init_46 (by decide) ?_
  refine zs_newi hE q_arr_int (by decide) (by decide) (by decide) dX7_init_48 (fun q13 H13 hq13 hp13 hz13 ho13 => ?_)
  refine zs_widen (k' := 3) (n' := 18) (by omega) (by omega) ?_
  have ne14 : x ≠ q13 := by have := zs_pt.lt hp12; omega
  have hp12 := zs_pt.kept hp12 (ho13 _ (zs_pt.lt hp12))
  have ne15 : q6 ≠ q13 := by have := zs_pt.lt hp6; omega
  have hp6 := zs_pt.kept hp6 (ho13 _ (zs_pt.lt hp6))
  have ne16 : q9 ≠ q13 := by have := zs_pt.lt hp9; omega
  have hp9 := zs_pt.kept hp9 (ho13 _ (zs_pt.lt hp9))
  refine zs_putF (v := .ref q13) hE (hin rfl) fl_X7_32 ⟨_, _, _, rfl, rfl⟩ hp12 (Or.inl rfl) (rfl) (rfl) (Nat.le_of_ble_eq_true rfl) dX7_init_50 (fun H17 hp17 hz17 ho17 => ?_)
  have hp6 := zs_pt.kept hp6 (ho17 _ ne7.symm)
  have hp9 := zs_pt.kept hp9 (ho17 _ ne10.symm)
  have hp13 := zs_pt.kept hp13 (ho17 _ ne14.symm)
  have hp17 : zs_pt D x (.inr (7, [.int (nI 0), .int (nI 0), .int (nI 0), .int (nI 0), .int (nI 0), .ref q6, .ref q9, .ref q13, .null, .null, .null, .null, .null, .null, .null, .null, .null, .null, .null, .null, .null])) H17 := hp17
  refine zs_aload_n hE 0 dX7_init_53 rfl rfl ?_
  refine zs_bipush (v := (nI 24)) hE dX7_init_54 (by decide) ?_
  refine zs_newc hE q_arr_char (by decide) (by decide) (by decide) dX7_init_56 (fun q18 H18 hq18 hp18 hz18 ho18 => ?_)
  refine zs_widen (k' := 4) (n' := 42) (by omega) (by omega) ?_
  have ne19 : x ≠ q18 := by have := zs_pt.lt hp17; omega
  have hp17 := zs_pt.kept hp17 (ho18 _ (zs_pt.lt hp17))
  have ne20 : q6 ≠ q18 := by have := zs_pt.lt hp6; omega
  have hp6 := zs_pt.kept hp6 (ho18 _ (zs_pt.lt hp6))
  have ne21 : q9 ≠ q18 := by have := zs_pt.lt hp9; omega
  have hp9 := zs_pt.kept hp9 (ho18 _ (zs_pt.lt hp9))
  have ne22 : q13 ≠ q18 := by have := zs_pt.lt hp13; omega
  have hp13 := zs_pt.kept hp13 (ho18 _ (zs_pt.lt hp13))
  refine zs_putF (v := .ref q18) hE (hin rfl) fl_X7_35 ⟨_, _, _, rfl, rfl⟩ hp17 (Or.inl rfl) (rfl) (rfl) (Nat.le_of_ble_eq_true rfl) dX7_init_58 (fun H23 hp23 hz23 ho23 => ?_)
  have hp6 := zs_pt.kept hp6 (ho23 _ ne7.symm)
  have hp9 := zs_pt.kept hp9 (ho23 _ ne10.symm)
  have hp13 := zs_pt.kept hp13 (ho23 _ ne14.symm)
  have hp18 := zs_pt.kept hp18 (ho23 _ ne19.symm)
  have hp23 : zs_pt D x (.inr (7, [.int (nI 0), .int (nI 0), .int (nI 0), .int (nI 0), .int (nI 0), .ref q6, .ref q9, .ref q13, .ref q18, .null, .null, .null, .null, .null, .null, .null, .null, .null, .null, .null, .null])) H23 := hp23
  refine zs_aload_n hE 0 dX7_init_61 rfl rfl ?_
  refine zs_bipush (v := (nI 40)) hE dX7_init_62 (by decide) ?_
  refine zs_newi hE q_arr_int (by decide) (by decide) (by decide) dX7_init_64 (fun q24 H24 hq24 hp24 hz24 ho24 => ?_)
  refine zs_widen (k' := 5) (n' := 82) (by omega) (by omega) ?_
  have ne25 : x ≠ q24 := by have := zs_pt.lt hp23; omega
  have hp23 := zs_pt.kept hp23 (ho24 _ (zs_pt.lt hp23))
  have ne26 : q6 ≠ q24 := by have := zs_pt.lt hp6; omega
  have hp6 := zs_pt.kept hp6 (ho24 _ (zs_pt.lt hp6))
  have ne27 : q9 ≠ q24 := by have := zs_pt.lt hp9; omega
  have hp9 := zs_pt.kept hp9 (ho24 _ (zs_pt.lt hp9))
  have ne28 : q13 ≠ q24 := by have := zs_pt.lt hp13; omega
  have hp13 := zs_pt.kept hp13 (ho24 _ (zs_pt.lt hp13))
  have ne29 : q18 ≠ q24 := by have := zs_pt.lt hp18; omega
  have hp18 := zs_pt.kept hp18 (ho24 _ (zs_pt.lt hp18))
  refine zs_putF (v := .ref q24) hE (hin rfl) fl_X7_39 ⟨_, _, _, rfl, rfl⟩ hp23 (Or.inl rfl) (rfl) (rfl) (Nat.le_of_ble_eq_true rfl) dX7_init_66 (fun H30 hp30 hz30 ho30 => ?_)
  have hp6 := zs_pt.kept hp6 (ho30 _ ne7.symm)
  have hp9 := zs_pt.kept hp9 (ho30 _ ne10.symm)
  have hp13 := zs_pt.kept hp13 (ho30 _ ne14.symm)
  have hp18 := zs_pt.kept hp18 (ho30 _ ne19.symm)
  have hp24 := zs_pt.kept hp24 (ho30 _ ne25.symm)
  have hp30 : zs_pt D x (.inr (7, [.int (nI 0), .int (nI 0), .int (nI 0), .int (nI 0), .int (nI 0), .ref q6, .ref q9, .ref q13, .ref q18, .ref q24, .null, .null, .null, .null, .null, .null, .null, .null, .null, .null, .null])) H30 := hp30
  refine zs_aload_n hE 0 dX7_init_69 rfl rfl ?_
  refine zs_bipush (v := (nI 40)) hE dX7_init_70 (by decide) ?_
  refine zs_newi hE q_arr_int (by decide) (by decide) (by decide) dX7_init_72 (fun q31 H31 hq31 hp31 hz31 ho31 => ?_)
  refine zs_widen (k' := 6) (n' := 122) (by omega) (by omega) ?_
  have ne32 : x ≠ q31 := by have := zs_pt.lt hp30; omega
  have hp30 := zs_pt.kept hp30 (ho31 _ (zs_pt.lt hp30))
  have ne33 : q6 ≠ q31 := by have := zs_pt.lt hp6; omega
  have hp6 := zs_pt.kept hp6 (ho31 _ (zs_pt.lt hp6))
  have ne34 : q9 ≠ q31 := by have := zs_pt.lt hp9; omega
  have hp9 := zs_pt.kept hp9 (ho31 _ (zs_pt.lt hp9))
  have ne35 : q13 ≠ q31 := by have := zs_pt.lt hp13; omega
  have hp13 := zs_pt.kept hp13 (ho31 _ (zs_pt.lt hp13))
  have ne36 : q18 ≠ q31 := by have := zs_pt.lt hp18; omega
  have hp18 := zs_pt.kept hp18 (ho31 _ (zs_pt.lt hp18))
  have ne37 : q24 ≠ q31 := by have := zs_pt.lt hp24; omega
  have hp24 := zs_pt.kept hp24 (ho31 _ (zs_pt.lt hp24))
  refine zs_putF (v := .ref q31) hE (hin rfl) fl_X7_42 ⟨_, _, _, rfl, rfl⟩ hp30 (Or.inl rfl) (rfl) (rfl) (Nat.le_of_ble_eq_true rfl) dX7_init_74 (fun H38 hp38 hz38 ho38 => ?_)
  have hp6 := zs_pt.kept hp6 (ho38 _ ne7.symm)
  have hp9 := zs_pt.kept hp9 (ho38 _ ne10.symm)
  have hp13 := zs_pt.kept hp13 (ho38 _ ne14.symm)
  have hp18 := zs_pt.kept hp18 (ho38 _ ne19.symm)
  have hp24 := zs_pt.kept hp24 (ho38 _ ne25.symm)
  have hp31 := zs_pt.kept hp31 (ho38 _ ne32.symm)
  have hp38 : zs_pt D x (.inr (7, [.int (nI 0), .int (nI 0), .int (nI 0), .int (nI 0), .int (nI 0), .ref q6, .ref q9, .ref q13, .ref q18, .ref q24, .ref q31, .null, .null, .null, .null, .null, .null, .null, .null, .null, .null])) H38 := hp38
  refine zs_aload_n hE 0 dX7_init_77 rfl rfl ?_
  refine zs_bipush (v := (nI 40)) hE dX7_init_78 (by decide) ?_
  refine zs_newi hE q_arr_int (by decide) (by decide) (by decide) dX7_init_80 (fun q39 H39 hq39 hp39 hz39 ho39 => ?_)
  refine zs_widen (k' := 7) (n' := 162) (by omega) (by omega) ?_
  have ne40 : x ≠ q39 := by have := zs_pt.lt hp38; omega
  have hp38 := zs_pt.kept hp38 (ho39 _ (zs_pt.lt hp38))
  have ne41 : q6 ≠ q39 := by have := zs_pt.lt hp6; omega
  have hp6 := zs_pt.kept hp6 (ho39 _ (zs_pt.lt hp6))
  have ne42 : q9 ≠ q39 := by have := zs_pt.lt hp9; omega
  have hp9 := zs_pt.kept hp9 (ho39 _ (zs_pt.lt hp9))
  have ne43 : q13 ≠ q39 := by have := zs_pt.lt hp13; omega
  have hp13 := zs_pt.kept hp13 (ho39 _ (zs_pt.lt hp13))
  have ne44 : q18 ≠ q39 := by have := zs_pt.lt hp18; omega
  have hp18 := zs_pt.kept hp18 (ho39 _ (zs_pt.lt hp18))
  have ne45 : q24 ≠ q39 := by have := zs_pt.lt hp24; omega
  have hp24 := zs_pt.kept hp24 (ho39 _ (zs_pt.lt hp24))
  have ne46 : q31 ≠ q39 := by have := zs_pt.lt hp31; omega
  have hp31 := zs_pt.kept hp31 (ho39 _ (zs_pt.lt hp31))
  refine zs_putF (v := .ref q39) hE (hin rfl) fl_X7_45 ⟨_, _, _, rfl, rfl⟩ hp38 (Or.inl rfl) (rfl) (rfl) (Nat.le_of_ble_eq_true rfl) dX7_init_82 (fun H47 hp47 hz47 ho47 => ?_)
  have hp6 := zs_pt.kept hp6 (ho47 _ ne7.symm)
  have hp9 := zs_pt.kept hp9 (ho47 _ ne10.symm)
  have hp13 := zs_pt.kept hp13 (ho47 _ ne14.symm)
  have hp18 := zs_pt.kept hp18 (ho47 _ ne19.symm)
  have hp24 := zs_pt.kept hp24 (ho47 _ ne25.symm)
  have hp31 := zs_pt.kept hp31 (ho47 _ ne32.symm)
  have hp39 := zs_pt.kept hp39 (ho47 _ ne40.symm)
  have hp47 : zs_pt D x (.inr (7, [.int (nI 0), .int (nI 0), .int (nI 0), .int (nI 0), .int (nI 0), .ref q6, .ref q9, .ref q13, .ref q18, .ref q24, .ref q31, .ref q39, .null, .null, .null, .null, .null, .null, .null, .null, .null])) H47 := hp47
  refine zs_aload_n hE 0 dX7_init_85 rfl rfl ?_
  refine zs_ldc hE k_X7_48 dX7_init_86 ?_
  refine zs_top (v' := .int (nI 52480)) (rfl) ?_
  refine zs_newi hE q_arr_int (by decide) (by decide) (by decide) dX7_init_88 (fun q48 H48 hq48 hp48 hz48 ho48 => ?_)
  refine zs_widen (k' := 8) (n' := 52642) (by omega) (by omega) ?_
  have ne49 : x ≠ q48 := by have := zs_pt.lt hp47; omega
  have hp47 := zs_pt.kept hp47 (ho48 _ (zs_pt.lt hp47))
  have ne50 : q6 ≠ q48 := by have := zs_pt.lt hp6; omega
  have hp6 := zs_pt.kept hp6 (ho48 _ (zs_pt.lt hp6))
  have ne51 : q9 ≠ q48 := by have := zs_pt.lt hp9; omega
  have hp9 := zs_pt.kept hp9 (ho48 _ (zs_pt.lt hp9))
  have ne52 : q13 ≠ q48 := by have := zs_pt.lt hp13; omega
  have hp13 := zs_pt.kept hp13 (ho48 _ (zs_pt.lt hp13))
  have ne53 : q18 ≠ q48 := by have := zs_pt.lt hp18; omega
  have hp18 := zs_pt.kept hp18 (ho48 _ (zs_pt.lt hp18))
  have ne54 : q24 ≠ q48 := by have := zs_pt.lt hp24; omega
  have hp24 := zs_pt.kept hp24 (ho48 _ (zs_pt.lt hp24))
  have ne55 : q31 ≠ q48 := by have := zs_pt.lt hp31; omega
  have hp31 := zs_pt.kept hp31 (ho48 _ (zs_pt.lt hp31))
  have ne56 : q39 ≠ q48 := by have := zs_pt.lt hp39; omega
  have hp39 := zs_pt.kept hp39 (ho48 _ (zs_pt.lt hp39))
  refine zs_putF (v := .ref q48) hE (hin rfl) fl_X7_49 ⟨_, _, _, rfl, rfl⟩ hp47 (Or.inl rfl) (rfl) (rfl) (Nat.le_of_ble_eq_true rfl) dX7_init_90 (fun H57 hp57 hz57 ho57 => ?_)
  have hp6 := zs_pt.kept hp6 (ho57 _ ne7.symm)
  have hp9 := zs_pt.kept hp9 (ho57 _ ne10.symm)
  have hp13 := zs_pt.kept hp13 (ho57 _ ne14.symm)
  have hp18 := zs_pt.kept hp18 (ho57 _ ne19.symm)
  have hp24 := zs_pt.kept hp24 (ho57 _ ne25.symm)
  have hp31 := zs_pt.kept hp31 (ho57 _ ne32.symm)
  have hp39 := zs_pt.kept hp39 (ho57 _ ne40.symm)
  have hp48 := zs_pt.kept hp48 (ho57 _ ne49.symm)
  have hp57 : zs_pt D x (.inr (7, [.int (nI 0), .int (nI 0), .int (nI 0), .int (nI 0), .int (nI 0), .ref q6, .ref q9, .ref q13, .ref q18, .ref q24, .ref q31, .ref q39, .ref q48, .null, .null, .null, .null, .null, .null, .null, .null])) H57 := hp57
  refine zs_aload_n hE 0 dX7_init_93 rfl rfl ?_
  refine zs_bipush (v := (nI 8)) hE dX7_init_94 (by decide) ?_
  refine zs_newi hE q_arr_int (by decide) (by decide) (by decide) dX7_init_96 (fun q58 H58 hq58 hp58 hz58 ho58 => ?_)
  refine zs_widen (k' := 9) (n' := 52650) (by omega) (by omega) ?_
  have ne59 : x ≠ q58 := by have := zs_pt.lt hp57; omega
  have hp57 := zs_pt.kept hp57 (ho58 _ (zs_pt.lt hp57))
  have ne60 : q6 ≠ q58 := by have := zs_pt.lt hp6; omega
  have hp6 := zs_pt.kept hp6 (ho58 _ (zs_pt.lt hp6))
  have ne61 : q9 ≠ q58 := by have := zs_pt.lt hp9; omega
  have hp9 := zs_pt.kept hp9 (ho58 _ (zs_pt.lt hp9))
  have ne62 : q13 ≠ q58 := by have := zs_pt.lt hp13; omega
  have hp13 := zs_pt.kept hp13 (ho58 _ (zs_pt.lt hp13))
  have ne63 : q18 ≠ q58 := by have := zs_pt.lt hp18; omega
  have hp18 := zs_pt.kept hp18 (ho58 _ (zs_pt.lt hp18))
  have ne64 : q24 ≠ q58 := by have := zs_pt.lt hp24; omega
  have hp24 := zs_pt.kept hp24 (ho58 _ (zs_pt.lt hp24))
  have ne65 : q31 ≠ q58 := by have := zs_pt.lt hp31; omega
  have hp31 := zs_pt.kept hp31 (ho58 _ (zs_pt.lt hp31))
  have ne66 : q39 ≠ q58 := by have := zs_pt.lt hp39; omega
  have hp39 := zs_pt.kept hp39 (ho58 _ (zs_pt.lt hp39))
  have ne67 : q48 ≠ q58 := by have := zs_pt.lt hp48; omega
  have hp48 := zs_pt.kept hp48 (ho58 _ (zs_pt.lt hp48))
  refine zs_putF (v := .ref q58) hE (hin rfl) fl_X7_52 ⟨_, _, _, rfl, rfl⟩ hp57 (Or.inl rfl) (rfl) (rfl) (Nat.le_of_ble_eq_true rfl) dX7_init_98 (fun H68 hp68 hz68 ho68 => ?_)
  have hp6 := zs_pt.kept hp6 (ho68 _ ne7.symm)
  have hp9 := zs_pt.kept hp9 (ho68 _ ne10.symm)
  have hp13 := zs_pt.kept hp13 (ho68 _ ne14.symm)
  have hp18 := zs_pt.kept hp18 (ho68 _ ne19.symm)
  have hp24 := zs_pt.kept hp24 (ho68 _ ne25.symm)
  have hp31 := zs_pt.kept hp31 (ho68 _ ne32.symm)
  have hp39 := zs_pt.kept hp39 (ho68 _ ne40.symm)
  have hp48 := zs_pt.kept hp48 (ho68 _ ne49.symm)
  have hp58 := zs_pt.kept hp58 (ho68 _ ne59.symm)
  have hp68 : zs_pt D x (.inr (7, [.int (nI 0), .int (nI 0), .int (nI 0), .int (nI 0), .int (nI 0), .ref q6, .ref q9, .ref q13, .ref q18, .ref q24, .ref q31, .ref q39, .ref q48, .ref q58, .null, .null, .null, .null, .null, .null, .null])) H68 := hp68
  refine zs_aload_n hE 0 dX7_init_101 rfl rfl ?_
  refine zs_bipush (v := (nI 24)) hE dX7_init_102 (by decide) ?_
  refine zs_newi hE q_arr_int (by decide) (by decide) (by decide) dX7_init_104 (fun q69 H69 hq69 hp69 hz69 ho69 => ?_)
  refine zs_widen (k' := 10) (n' := 52674) (by omega) (by omega) ?_
  have ne70 : x ≠ q69 := by have := zs_pt.lt hp68; omega
  have hp68 := zs_pt.kept hp68 (ho69 _ (zs_pt.lt hp68))
  have ne71 : q6 ≠ q69 := by have := zs_pt.lt hp6; omega
  have hp6 := zs_pt.kept hp6 (ho69 _ (zs_pt.lt hp6))
  have ne72 : q9 ≠ q69 := by have := zs_pt.lt hp9; omega
  have hp9 := zs_pt.kept hp9 (ho69 _ (zs_pt.lt hp9))
  have ne73 : q13 ≠ q69 := by have := zs_pt.lt hp13; omega
  have hp13 := zs_pt.kept hp13 (ho69 _ (zs_pt.lt hp13))
  have ne74 : q18 ≠ q69 := by have := zs_pt.lt hp18; omega
  have hp18 := zs_pt.kept hp18 (ho69 _ (zs_pt.lt hp18))
  have ne75 : q24 ≠ q69 := by have := zs_pt.lt hp24; omega
  have hp24 := zs_pt.kept hp24 (ho69 _ (zs_pt.lt hp24))
  have ne76 : q31 ≠ q69 := by have := zs_pt.lt hp31; omega
  have hp31 := zs_pt.kept hp31 (ho69 _ (zs_pt.lt hp31))
  have ne77 : q39 ≠ q69 := by have := zs_pt.lt hp39; omega
  have hp39 := zs_pt.kept hp39 (ho69 _ (zs_pt.lt hp39))
  have ne78 : q48 ≠ q69 := by have := zs_pt.lt hp48; omega
  have hp48 := zs_pt.kept hp48 (ho69 _ (zs_pt.lt hp48))
  have ne79 : q58 ≠ q69 := by have := zs_pt.lt hp58; omega
  have hp58 := zs_pt.kept hp58 (ho69 _ (zs_pt.lt hp58))
  refine zs_putF (v := .ref q69) hE (hin rfl) fl_X7_55 ⟨_, _, _, rfl, rfl⟩ hp68 (Or.inl rfl) (rfl) (rfl) (Nat.le_of_ble_eq_true rfl) dX7_init_106 (fun H80 hp80 hz80 ho80 => ?_)
  have hp6 := zs_pt.kept hp6 (ho80 _ ne7.symm)
  have hp9 := zs_pt.kept hp9 (ho80 _ ne10.symm)
  have hp13 := zs_pt.kept hp13 (ho80 _ ne14.symm)
  have hp18 := zs_pt.kept hp18 (ho80 _ ne19.symm)
  have hp24 := zs_pt.kept hp24 (ho80 _ ne25.symm)
  have hp31 := zs_pt.kept hp31 (ho80 _ ne32.symm)
  have hp39 := zs_pt.kept hp39 (ho80 _ ne40.symm)
  have hp48 := zs_pt.kept hp48 (ho80 _ ne49.symm)
  have hp58 := zs_pt.kept hp58 (ho80 _ ne59.symm)
  have hp69 := zs_pt.kept hp69 (ho80 _ ne70.symm)
  have hp80 : zs_pt D x (.inr (7, [.int (nI 0), .int (nI 0), .int (nI 0), .int (nI 0), .int (nI 0), .ref q6, .ref q9, .ref q13, .ref q18, .ref q24, .ref q31, .ref q39, .ref q48, .ref q58, .ref q69, .null, .null, .null, .null, .null, .null])) H80 := hp80
  refine zs_aload_n hE 0 dX7_init_109 rfl rfl ?_
  refine zs_bipush (v := (nI 120)) hE dX7_init_110 (by decide) ?_
  refine zs_newi hE q_arr_int (by decide) (by decide) (by decide) dX7_init_112 (fun q81 H81 hq81 hp81 hz81 ho81 => ?_)
  refine zs_widen (k' := 11) (n' := 52794) (by omega) (by omega) ?_
  have ne82 : x ≠ q81 := by have := zs_pt.lt hp80; omega
  have hp80 := zs_pt.kept hp80 (ho81 _ (zs_pt.lt hp80))
  have ne83 : q6 ≠ q81 := by have := zs_pt.lt hp6; omega
  have hp6 := zs_pt.kept hp6 (ho81 _ (zs_pt.lt hp6))
  have ne84 : q9 ≠ q81 := by have := zs_pt.lt hp9; omega
  have hp9 := zs_pt.kept hp9 (ho81 _ (zs_pt.lt hp9))
  have ne85 : q13 ≠ q81 := by have := zs_pt.lt hp13; omega
  have hp13 := zs_pt.kept hp13 (ho81 _ (zs_pt.lt hp13))
  have ne86 : q18 ≠ q81 := by have := zs_pt.lt hp18; omega
  have hp18 := zs_pt.kept hp18 (ho81 _ (zs_pt.lt hp18))
  have ne87 : q24 ≠ q81 := by have := zs_pt.lt hp24; omega
  have hp24 := zs_pt.kept hp24 (ho81 _ (zs_pt.lt hp24))
  have ne88 : q31 ≠ q81 := by have := zs_pt.lt hp31; omega
  have hp31 := zs_pt.kept hp31 (ho81 _ (zs_pt.lt hp31))
  have ne89 : q39 ≠ q81 := by have := zs_pt.lt hp39; omega
  have hp39 := zs_pt.kept hp39 (ho81 _ (zs_pt.lt hp39))
  have ne90 : q48 ≠ q81 := by have := zs_pt.lt hp48; omega
  have hp48 := zs_pt.kept hp48 (ho81 _ (zs_pt.lt hp48))
  have ne91 : q58 ≠ q81 := by have := zs_pt.lt hp58; omega
  have hp58 := zs_pt.kept hp58 (ho81 _ (zs_pt.lt hp58))
  have ne92 : q69 ≠ q81 := by have := zs_pt.lt hp69; omega
  have hp69 := zs_pt.kept hp69 (ho81 _ (zs_pt.lt hp69))
  refine zs_putF (v := .ref q81) hE (hin rfl) fl_X7_58 ⟨_, _, _, rfl, rfl⟩ hp80 (Or.inl rfl) (rfl) (rfl) (Nat.le_of_ble_eq_true rfl) dX7_init_114 (fun H93 hp93 hz93 ho93 => ?_)
  have hp6 := zs_pt.kept hp6 (ho93 _ ne7.symm)
  have hp9 := zs_pt.kept hp9 (ho93 _ ne10.symm)
  have hp13 := zs_pt.kept hp13 (ho93 _ ne14.symm)
  have hp18 := zs_pt.kept hp18 (ho93 _ ne19.symm)
  have hp24 := zs_pt.kept hp24 (ho93 _ ne25.symm)
  have hp31 := zs_pt.kept hp31 (ho93 _ ne32.symm)
  have hp39 := zs_pt.kept hp39 (ho93 _ ne40.symm)
  have hp48 := zs_pt.kept hp48 (ho93 _ ne49.symm)
  have hp58 := zs_pt.kept hp58 (ho93 _ ne59.symm)
  have hp69 := zs_pt.kept hp69 (ho93 _ ne70.symm)
  have hp81 := zs_pt.kept hp81 (ho93 _ ne82.symm)
  have hp93 : zs_pt D x (.inr (7, [.int (nI 0), .int (nI 0), .int (nI 0), .int (nI 0), .int (nI 0), .ref q6, .ref q9, .ref q13, .ref q18, .ref q24, .ref q31, .ref q39, .ref q48, .ref q58, .ref q69, .ref q81, .null, .null, .null, .null, .null])) H93 := hp93
  refine zs_aload_n hE 0 dX7_init_117 rfl rfl ?_
  refine zs_bipush (v := (nI 120)) hE dX7_init_118 (by decide) ?_
  refine zs_newz hE q_arr_boolean (by decide) (by decide) (by decide) dX7_init_120 (fun q94 H94 hq94 hp94 hz94 ho94 => ?_)
  refine zs_widen (k' := 12) (n' := 52914) (by omega) (by omega) ?_
  have ne95 : x ≠ q94 := by have := zs_pt.lt hp93; omega
  have hp93 := zs_pt.kept hp93 (ho94 _ (zs_pt.lt hp93))
  have ne96 : q6 ≠ q94 := by have := zs_pt.lt hp6; omega
  have hp6 := zs_pt.kept hp6 (ho94 _ (zs_pt.lt hp6))
  have ne97 : q9 ≠ q94 := by have := zs_pt.lt hp9; omega
  have hp9 := zs_pt.kept hp9 (ho94 _ (zs_pt.lt hp9))
  have ne98 : q13 ≠ q94 := by have := zs_pt.lt hp13; omega
  have hp13 := zs_pt.kept hp13 (ho94 _ (zs_pt.lt hp13))
  have ne99 : q18 ≠ q94 := by have := zs_pt.lt hp18; omega
  have hp18 := zs_pt.kept hp18 (ho94 _ (zs_pt.lt hp18))
  have ne100 : q24 ≠ q94 := by have := zs_pt.lt hp24; omega
  have hp24 := zs_pt.kept hp24 (ho94 _ (zs_pt.lt hp24))
  have ne101 : q31 ≠ q94 := by have := zs_pt.lt hp31; omega
  have hp31 := zs_pt.kept hp31 (ho94 _ (zs_pt.lt hp31))
  have ne102 : q39 ≠ q94 := by have := zs_pt.lt hp39; omega
  have hp39 := zs_pt.kept hp39 (ho94 _ (zs_pt.lt hp39))
  have ne103 : q48 ≠ q94 := by have := zs_pt.lt hp48; omega
  have hp48 := zs_pt.kept hp48 (ho94 _ (zs_pt.lt hp48))
  have ne104 : q58 ≠ q94 := by have := zs_pt.lt hp58; omega
  have hp58 := zs_pt.kept hp58 (ho94 _ (zs_pt.lt hp58))
  have ne105 : q69 ≠ q94 := by have := zs_pt.lt hp69; omega
  have hp69 := zs_pt.kept hp69 (ho94 _ (zs_pt.lt hp69))
  have ne106 : q81 ≠ q94 := by have := zs_pt.lt hp81; omega
  have hp81 := zs_pt.kept hp81 (ho94 _ (zs_pt.lt hp81))
  refine zs_putF (v := .ref q94) hE (hin rfl) fl_X7_61 ⟨_, _, _, rfl, rfl⟩ hp93 (Or.inl rfl) (rfl) (rfl) (Nat.le_of_ble_eq_true rfl) dX7_init_122 (fun H107 hp107 hz107 ho107 => ?_)
  have hp6 := zs_pt.kept hp6 (ho107 _ ne7.symm)
  have hp9 := zs_pt.kept hp9 (ho107 _ ne10.symm)
  have hp13 := zs_pt.kept hp13 (ho107 _ ne14.symm)
  have hp18 := zs_pt.kept hp18 (ho107 _ ne19.symm)
  have hp24 := zs_pt.kept hp24 (ho107 _ ne25.symm)
  have hp31 := zs_pt.kept hp31 (ho107 _ ne32.symm)
  have hp39 := zs_pt.kept hp39 (ho107 _ ne40.symm)
  have hp48 := zs_pt.kept hp48 (ho107 _ ne49.symm)
  have hp58 := zs_pt.kept hp58 (ho107 _ ne59.symm)
  have hp69 := zs_pt.kept hp69 (ho107 _ ne70.symm)
  have hp81 := zs_pt.kept hp81 (ho107 _ ne82.symm)
  have hp94 := zs_pt.kept hp94 (ho107 _ ne95.symm)
  have hp107 : zs_pt D x (.inr (7, [.int (nI 0), .int (nI 0), .int (nI 0), .int (nI 0), .int (nI 0), .ref q6, .ref q9, .ref q13, .ref q18, .ref q24, .ref q31, .ref q39, .ref q48, .ref q58, .ref q69, .ref q81, .ref q94, .null, .null, .null, .null])) H107 := hp107
  refine zs_aload_n hE 0 dX7_init_125 rfl rfl ?_
  refine zs_bipush (v := (nI 40)) hE dX7_init_126 (by decide) ?_
  refine zs_newz hE q_arr_boolean (by decide) (by decide) (by decide) dX7_init_128 (fun q108 H108 hq108 hp108 hz108 ho108 => ?_)
  refine zs_widen (k' := 13) (n' := 52954) (by omega) (by omega) ?_
  have ne109 : x ≠ q108 := by have := zs_pt.lt hp107; omega
  have hp107 := zs_pt.kept hp107 (ho108 _ (zs_pt.lt hp107))
  have ne110 : q6 ≠ q108 := by have := zs_pt.lt hp6; omega
  have hp6 := zs_pt.kept hp6 (ho108 _ (zs_pt.lt hp6))
  have ne111 : q9 ≠ q108 := by have := zs_pt.lt hp9; omega
  have hp9 := zs_pt.kept hp9 (ho108 _ (zs_pt.lt hp9))
  have ne112 : q13 ≠ q108 := by have := zs_pt.lt hp13; omega
  have hp13 := zs_pt.kept hp13 (ho108 _ (zs_pt.lt hp13))
  have ne113 : q18 ≠ q108 := by have := zs_pt.lt hp18; omega
  have hp18 := zs_pt.kept hp18 (ho108 _ (zs_pt.lt hp18))
  have ne114 : q24 ≠ q108 := by have := zs_pt.lt hp24; omega
  have hp24 := zs_pt.kept hp24 (ho108 _ (zs_pt.lt hp24))
  have ne115 : q31 ≠ q108 := by have := zs_pt.lt hp31; omega
  have hp31 := zs_pt.kept hp31 (ho108 _ (zs_pt.lt hp31))
  have ne116 : q39 ≠ q108 := by have := zs_pt.lt hp39; omega
  have hp39 := zs_pt.kept hp39 (ho108 _ (zs_pt.lt hp39))
  have ne117 : q48 ≠ q108 := by have := zs_pt.lt hp48; omega
  have hp48 := zs_pt.kept hp48 (ho108 _ (zs_pt.lt hp48))
  have ne118 : q58 ≠ q108 := by have := zs_pt.lt hp58; omega
  have hp58 := zs_pt.kept hp58 (ho108 _ (zs_pt.lt hp58))
  have ne119 : q69 ≠ q108 := by have := zs_pt.lt hp69; omega
  have hp69 := zs_pt.kept hp69 (ho108 _ (zs_pt.lt hp69))
  have ne120 : q81 ≠ q108 := by have := zs_pt.lt hp81; omega
  have hp81 := zs_pt.kept hp81 (ho108 _ (zs_pt.lt hp81))
  have ne121 : q94 ≠ q108 := by have := zs_pt.lt hp94; omega
  have hp94 := zs_pt.kept hp94 (ho108 _ (zs_pt.lt hp94))
  refine zs_putF (v := .ref q108) hE (hin rfl) fl_X7_65 ⟨_, _, _, rfl, rfl⟩ hp107 (Or.inl rfl) (rfl) (rfl) (Nat.le_of_ble_eq_true rfl) dX7_init_130 (fun H122 hp122 hz122 ho122 => ?_)
  have hp6 := zs_pt.kept hp6 (ho122 _ ne7.symm)
  have hp9 := zs_pt.kept hp9 (ho122 _ ne10.symm)
  have hp13 := zs_pt.kept hp13 (ho122 _ ne14.symm)
  have hp18 := zs_pt.kept hp18 (ho122 _ ne19.symm)
  have hp24 := zs_pt.kept hp24 (ho122 _ ne25.symm)
  have hp31 := zs_pt.kept hp31 (ho122 _ ne32.symm)
  have hp39 := zs_pt.kept hp39 (ho122 _ ne40.symm)
  have hp48 := zs_pt.kept hp48 (ho122 _ ne49.symm)
  have hp58 := zs_pt.kept hp58 (ho122 _ ne59.symm)
  have hp69 := zs_pt.kept hp69 (ho122 _ ne70.symm)
  have hp81 := zs_pt.kept hp81 (ho122 _ ne82.symm)
  have hp94 := zs_pt.kept hp94 (ho122 _ ne95.symm)
  have hp108 := zs_pt.kept hp108 (ho122 _ ne109.symm)
  have hp122 : zs_pt D x (.inr (7, [.int (nI 0), .int (nI 0), .int (nI 0), .int (nI 0), .int (nI 0), .ref q6, .ref q9, .ref q13, .ref q18, .ref q24, .ref q31, .ref q39, .ref q48, .ref q58, .ref q69, .ref q81, .ref q94, .ref q108, .null, .null, .null])) H122 := hp122
  refine zs_aload_n hE 0 dX7_init_133 rfl rfl ?_
  refine zs_bipush (v := (nI 12)) hE dX7_init_134 (by decide) ?_
  refine zs_newi hE q_arr_int (by decide) (by decide) (by decide) dX7_init_136 (fun q123 H123 hq123 hp123 hz123 ho123 => ?_)
  refine zs_widen (k' := 14) (n' := 52966) (by omega) (by omega) ?_
  have ne124 : x ≠ q123 := by have := zs_pt.lt hp122; omega
  have hp122 := zs_pt.kept hp122 (ho123 _ (zs_pt.lt hp122))
  have ne125 : q6 ≠ q123 := by have := zs_pt.lt hp6; omega
  have hp6 := zs_pt.kept hp6 (ho123 _ (zs_pt.lt hp6))
  have ne126 : q9 ≠ q123 := by have := zs_pt.lt hp9; omega
  have hp9 := zs_pt.kept hp9 (ho123 _ (zs_pt.lt hp9))
  have ne127 : q13 ≠ q123 := by have := zs_pt.lt hp13; omega
  have hp13 := zs_pt.kept hp13 (ho123 _ (zs_pt.lt hp13))
  have ne128 : q18 ≠ q123 := by have := zs_pt.lt hp18; omega
  have hp18 := zs_pt.kept hp18 (ho123 _ (zs_pt.lt hp18))
  have ne129 : q24 ≠ q123 := by have := zs_pt.lt hp24; omega
  have hp24 := zs_pt.kept hp24 (ho123 _ (zs_pt.lt hp24))
  have ne130 : q31 ≠ q123 := by have := zs_pt.lt hp31; omega
  have hp31 := zs_pt.kept hp31 (ho123 _ (zs_pt.lt hp31))
  have ne131 : q39 ≠ q123 := by have := zs_pt.lt hp39; omega
  have hp39 := zs_pt.kept hp39 (ho123 _ (zs_pt.lt hp39))
  have ne132 : q48 ≠ q123 := by have := zs_pt.lt hp48; omega
  have hp48 := zs_pt.kept hp48 (ho123 _ (zs_pt.lt hp48))
  have ne133 : q58 ≠ q123 := by have := zs_pt.lt hp58; omega
  have hp58 := zs_pt.kept hp58 (ho123 _ (zs_pt.lt hp58))
  have ne134 : q69 ≠ q123 := by have := zs_pt.lt hp69; omega
  have hp69 := zs_pt.kept hp69 (ho123 _ (zs_pt.lt hp69))
  have ne135 : q81 ≠ q123 := by have := zs_pt.lt hp81; omega
  have hp81 := zs_pt.kept hp81 (ho123 _ (zs_pt.lt hp81))
  have ne136 : q94 ≠ q123 := by have := zs_pt.lt hp94; omega
  have hp94 := zs_pt.kept hp94 (ho123 _ (zs_pt.lt hp94))
  have ne137 : q108 ≠ q123 := by have := zs_pt.lt hp108; omega
  have hp108 := zs_pt.kept hp108 (ho123 _ (zs_pt.lt hp108))
  refine zs_putF (v := .ref q123) hE (hin rfl) fl_X7_68 ⟨_, _, _, rfl, rfl⟩ hp122 (Or.inl rfl) (rfl) (rfl) (Nat.le_of_ble_eq_true rfl) dX7_init_138 (fun H138 hp138 hz138 ho138 => ?_)
  have hp6 := zs_pt.kept hp6 (ho138 _ ne7.symm)
  have hp9 := zs_pt.kept hp9 (ho138 _ ne10.symm)
  have hp13 := zs_pt.kept hp13 (ho138 _ ne14.symm)
  have hp18 := zs_pt.kept hp18 (ho138 _ ne19.symm)
  have hp24 := zs_pt.kept hp24 (ho138 _ ne25.symm)
  have hp31 := zs_pt.kept hp31 (ho138 _ ne32.symm)
  have hp39 := zs_pt.kept hp39 (ho138 _ ne40.symm)
  have hp48 := zs_pt.kept hp48 (ho138 _ ne49.symm)
  have hp58 := zs_pt.kept hp58 (ho138 _ ne59.symm)
  have hp69 := zs_pt.kept hp69 (ho138 _ ne70.symm)
  have hp81 := zs_pt.kept hp81 (ho138 _ ne82.symm)
  have hp94 := zs_pt.kept hp94 (ho138 _ ne95.symm)
  have hp108 := zs_pt.kept hp108 (ho138 _ ne109.symm)
  have hp123 := zs_pt.kept hp123 (ho138 _ ne124.symm)
  have hp138 : zs_pt D x (.inr (7, [.int (nI 0), .int (nI 0), .int (nI 0), .int (nI 0), .int (nI 0), .ref q6, .ref q9, .ref q13, .ref q18, .ref q24, .ref q31, .ref q39, .ref q48, .ref q58, .ref q69, .ref q81, .ref q94, .ref q108, .ref q123, .null, .null])) H138 := hp138
  refine zs_aload_n hE 0 dX7_init_141 rfl rfl ?_
  refine zs_bipush (v := (nI 12)) hE dX7_init_142 (by decide) ?_
  refine zs_newi hE q_arr_int (by decide) (by decide) (by decide) dX7_init_144 (fun q139 H139 hq139 hp139 hz139 ho139 => ?_)
  refine zs_widen (k' := 15) (n' := 52978) (by omega) (by omega) ?_
  have ne140 : x ≠ q139 := by have := zs_pt.lt hp138; omega
  have hp138 := zs_pt.kept hp138 (ho139 _ (zs_pt.lt hp138))
  have ne141 : q6 ≠ q139 := by have := zs_pt.lt hp6; omega
  have hp6 := zs_pt.kept hp6 (ho139 _ (zs_pt.lt hp6))
  have ne142 : q9 ≠ q139 := by have := zs_pt.lt hp9; omega
  have hp9 := zs_pt.kept hp9 (ho139 _ (zs_pt.lt hp9))
  have ne143 : q13 ≠ q139 := by have := zs_pt.lt hp13; omega
  have hp13 := zs_pt.kept hp13 (ho139 _ (zs_pt.lt hp13))
  have ne144 : q18 ≠ q139 := by have := zs_pt.lt hp18; omega
  have hp18 := zs_pt.kept hp18 (ho139 _ (zs_pt.lt hp18))
  have ne145 : q24 ≠ q139 := by have := zs_pt.lt hp24; omega
  have hp24 := zs_pt.kept hp24 (ho139 _ (zs_pt.lt hp24))
  have ne146 : q31 ≠ q139 := by have := zs_pt.lt hp31; omega
  have hp31 := zs_pt.kept hp31 (ho139 _ (zs_pt.lt hp31))
  have ne147 : q39 ≠ q139 := by have := zs_pt.lt hp39; omega
  have hp39 := zs_pt.kept hp39 (ho139 _ (zs_pt.lt hp39))
  have ne148 : q48 ≠ q139 := by have := zs_pt.lt hp48; omega
  have hp48 := zs_pt.kept hp48 (ho139 _ (zs_pt.lt hp48))
  have ne149 : q58 ≠ q139 := by have := zs_pt.lt hp58; omega
  have hp58 := zs_pt.kept hp58 (ho139 _ (zs_pt.lt hp58))
  have ne150 : q69 ≠ q139 := by have := zs_pt.lt hp69; omega
  have hp69 := zs_pt.kept hp69 (ho139 _ (zs_pt.lt hp69))
  have ne151 : q81 ≠ q139 := by have := zs_pt.lt hp81; omega
  have hp81 := zs_pt.kept hp81 (ho139 _ (zs_pt.lt hp81))
  have ne152 : q94 ≠ q139 := by have := zs_pt.lt hp94; omega
  have hp94 := zs_pt.kept hp94 (ho139 _ (zs_pt.lt hp94))
  have ne153 : q108 ≠ q139 := by have := zs_pt.lt hp108; omega
  have hp108 := zs_pt.kept hp108 (ho139 _ (zs_pt.lt hp108))
  have ne154 : q123 ≠ q139 := by have := zs_pt.lt hp123; omega
  have hp123 := zs_pt.kept hp123 (ho139 _ (zs_pt.lt hp123))
  refine zs_putF (v := .ref q139) hE (hin rfl) fl_X7_71 ⟨_, _, _, rfl, rfl⟩ hp138 (Or.inl rfl) (rfl) (rfl) (Nat.le_of_ble_eq_true rfl) dX7_init_146 (fun H155 hp155 hz155 ho155 => ?_)
  have hp6 := zs_pt.kept hp6 (ho155 _ ne7.symm)
  have hp9 := zs_pt.kept hp9 (ho155 _ ne10.symm)
  have hp13 := zs_pt.kept hp13 (ho155 _ ne14.symm)
  have hp18 := zs_pt.kept hp18 (ho155 _ ne19.symm)
  have hp24 := zs_pt.kept hp24 (ho155 _ ne25.symm)
  have hp31 := zs_pt.kept hp31 (ho155 _ ne32.symm)
  have hp39 := zs_pt.kept hp39 (ho155 _ ne40.symm)
  have hp48 := zs_pt.kept hp48 (ho155 _ ne49.symm)
  have hp58 := zs_pt.kept hp58 (ho155 _ ne59.symm)
  have hp69 := zs_pt.kept hp69 (ho155 _ ne70.symm)
  have hp81 := zs_pt.kept hp81 (ho155 _ ne82.symm)
  have hp94 := zs_pt.kept hp94 (ho155 _ ne95.symm)
  have hp108 := zs_pt.kept hp108 (ho155 _ ne109.symm)
  have hp123 := zs_pt.kept hp123 (ho155 _ ne124.symm)
  have hp139 := zs_pt.kept hp139 (ho155 _ ne140.symm)
  have hp155 : zs_pt D x (.inr (7, [.int (nI 0), .int (nI 0), .int (nI 0), .int (nI 0), .int (nI 0), .ref q6, .ref q9, .ref q13, .ref q18, .ref q24, .ref q31, .ref q39, .ref q48, .ref q58, .ref q69, .ref q81, .ref q94, .ref q108, .ref q123, .ref q139, .null])) H155 := hp155
  refine zs_aload_n hE 0 dX7_init_149 rfl rfl ?_
  refine zs_bipush (v := (nI 72)) hE dX7_init_150 (by decide) ?_
  refine zs_newi hE q_arr_int (by decide) (by decide) (by decide) dX7_init_152 (fun q156 H156 hq156 hp156 hz156 ho156 => ?_)
  refine zs_widen (k' := 16) (n' := 53050) (by omega) (by omega) ?_
  have ne157 : x ≠ q156 := by have := zs_pt.lt hp155; omega
  have hp155 := zs_pt.kept hp155 (ho156 _ (zs_pt.lt hp155))
  have ne158 : q6 ≠ q156 := by have := zs_pt.lt hp6; omega
  have hp6 := zs_pt.kept hp6 (ho156 _ (zs_pt.lt hp6))
  have ne159 : q9 ≠ q156 := by have := zs_pt.lt hp9; omega
  have hp9 := zs_pt.kept hp9 (ho156 _ (zs_pt.lt hp9))
  have ne160 : q13 ≠ q156 := by have := zs_pt.lt hp13; omega
  have hp13 := zs_pt.kept hp13 (ho156 _ (zs_pt.lt hp13))
  have ne161 : q18 ≠ q156 := by have := zs_pt.lt hp18; omega
  have hp18 := zs_pt.kept hp18 (ho156 _ (zs_pt.lt hp18))
  have ne162 : q24 ≠ q156 := by have := zs_pt.lt hp24; omega
  have hp24 := zs_pt.kept hp24 (ho156 _ (zs_pt.lt hp24))
  have ne163 : q31 ≠ q156 := by have := zs_pt.lt hp31; omega
  have hp31 := zs_pt.kept hp31 (ho156 _ (zs_pt.lt hp31))
  have ne164 : q39 ≠ q156 := by have := zs_pt.lt hp39; omega
  have hp39 := zs_pt.kept hp39 (ho156 _ (zs_pt.lt hp39))
  have ne165 : q48 ≠ q156 := by have := zs_pt.lt hp48; omega
  have hp48 := zs_pt.kept hp48 (ho156 _ (zs_pt.lt hp48))
  have ne166 : q58 ≠ q156 := by have := zs_pt.lt hp58; omega
  have hp58 := zs_pt.kept hp58 (ho156 _ (zs_pt.lt hp58))
  have ne167 : q69 ≠ q156 := by have := zs_pt.lt hp69; omega
  have hp69 := zs_pt.kept hp69 (ho156 _ (zs_pt.lt hp69))
  have ne168 : q81 ≠ q156 := by have := zs_pt.lt hp81; omega
  have hp81 := zs_pt.kept hp81 (ho156 _ (zs_pt.lt hp81))
  have ne169 : q94 ≠ q156 := by have := zs_pt.lt hp94; omega
  have hp94 := zs_pt.kept hp94 (ho156 _ (zs_pt.lt hp94))
  have ne170 : q108 ≠ q156 := by have := zs_pt.lt hp108; omega
  have hp108 := zs_pt.kept hp108 (ho156 _ (zs_pt.lt hp108))
  have ne171 : q123 ≠ q156 := by have := zs_pt.lt hp123; omega
  have hp123 := zs_pt.kept hp123 (ho156 _ (zs_pt.lt hp123))
  have ne172 : q139 ≠ q156 := by have := zs_pt.lt hp139; omega
  have hp139 := zs_pt.kept hp139 (ho156 _ (zs_pt.lt hp139))
  refine zs_putF (v := .ref q156) hE (hin rfl) fl_X7_74 ⟨_, _, _, rfl, rfl⟩ hp155 (Or.inl rfl) (rfl) (rfl) (Nat.le_of_ble_eq_true rfl) dX7_init_154 (fun H173 hp173 hz173 ho173 => ?_)
  have hp6 := zs_pt.kept hp6 (ho173 _ ne7.symm)
  have hp9 := zs_pt.kept hp9 (ho173 _ ne10.symm)
  have hp13 := zs_pt.kept hp13 (ho173 _ ne14.symm)
  have hp18 := zs_pt.kept hp18 (ho173 _ ne19.symm)
  have hp24 := zs_pt.kept hp24 (ho173 _ ne25.symm)
  have hp31 := zs_pt.kept hp31 (ho173 _ ne32.symm)
  have hp39 := zs_pt.kept hp39 (ho173 _ ne40.symm)
  have hp48 := zs_pt.kept hp48 (ho173 _ ne49.symm)
  have hp58 := zs_pt.kept hp58 (ho173 _ ne59.symm)
  have hp69 := zs_pt.kept hp69 (ho173 _ ne70.symm)
  have hp81 := zs_pt.kept hp81 (ho173 _ ne82.symm)
  have hp94 := zs_pt.kept hp94 (ho173 _ ne95.symm)
  have hp108 := zs_pt.kept hp108 (ho173 _ ne109.symm)
  have hp123 := zs_pt.kept hp123 (ho173 _ ne124.symm)
  have hp139 := zs_pt.kept hp139 (ho173 _ ne140.symm)
  have hp156 := zs_pt.kept hp156 (ho173 _ ne157.symm)
  have hp173 : zs_pt D x (.inr (7, [.int (nI 0), .int (nI 0), .int (nI 0), .int (nI 0), .int (nI 0), .ref q6, .ref q9, .ref q13, .ref q18, .ref q24, .ref q31, .ref q39, .ref q48, .ref q58, .ref q69, .ref q81, .ref q94, .ref q108, .ref q123, .ref q139, .ref q156])) H173 := hp173
  have eq6 : q6 = s.heap.size + (5 - 5) := by omega
  have eq9 : q9 = s.heap.size + (6 - 5) := by omega
  have eq13 : q13 = s.heap.size + (7 - 5) := by omega
  have eq18 : q18 = s.heap.size + (8 - 5) := by omega
  have eq24 : q24 = s.heap.size + (9 - 5) := by omega
  have eq31 : q31 = s.heap.size + (10 - 5) := by omega
  have eq39 : q39 = s.heap.size + (11 - 5) := by omega
  have eq48 : q48 = s.heap.size + (12 - 5) := by omega
  have eq58 : q58 = s.heap.size + (13 - 5) := by omega
  have eq69 : q69 = s.heap.size + (14 - 5) := by omega
  have eq81 : q81 = s.heap.size + (15 - 5) := by omega
  have eq94 : q94 = s.heap.size + (16 - 5) := by omega
  have eq108 : q108 = s.heap.size + (17 - 5) := by omega
  have eq123 : q123 = s.heap.size + (18 - 5) := by omega
  have eq139 : q139 = s.heap.size + (19 - 5) := by omega
  have eq156 : q156 = s.heap.size + (20 - 5) := by omega
  have hsz : H173.size = s.heap.size + 16 := by omega
  rw [eq6] at hp173 hp6
  rw [eq9] at hp173 hp9
  rw [eq13] at hp173 hp13
  rw [eq18] at hp173 hp18
  rw [eq24] at hp173 hp24
  rw [eq31] at hp173 hp31
  rw [eq39] at hp173 hp39
  rw [eq48] at hp173 hp48
  rw [eq58] at hp173 hp58
  rw [eq69] at hp173 hp69
  rw [eq81] at hp173 hp81
  rw [eq94] at hp173 hp94
  rw [eq108] at hp173 hp108
  rw [eq123] at hp173 hp123
  rw [eq139] at hp173 hp139
  rw [eq156] at hp173 hp156
  exact zs_vret hE hr (⟨rfl, hsz, fun κ k0 kk => ⟨k0, hp173, kk 0 (by decide), kk 1 (by decide), kk 2 (by decide), kk 3 (by decide), kk 4 (by decide), kk 5 (by decide), kk 6 (by decide), kk 7 (by decide), kk 8 (by decide), kk 9 (by decide), kk 10 (by decide), kk 11 (by decide), kk 12 (by decide), kk 13 (by decide), kk 14 (by decide), kk 15 (by decide), hp6, hp9, hp13, hp18, hp24, hp31, hp39, hp48, hp58, hp69, hp81, hp94, hp108, hp123, hp139, hp156⟩⟩) (by decide) (by decide) dX7_init_157


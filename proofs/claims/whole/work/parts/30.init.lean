/-! the new object -/
def sp_0 : sp_S := ((0, fun _ => 0, fun _ => 0, fun _ => 0, fun _ _ => 98), (0, fun _ => 0, fun _ => 0, fun _ => 0, fun _ => 0, fun _ _ => []), (fun _ _ => 0, fun _ _ _ => 0, fun _ _ _ => 0), (0, fun _ => 0, fun _ => 0, fun _ _ => 0), [])
theorem wf_0 : sp_wf sp_0 := by
  refine ⟨⟨Nat.zero_le _, Nat.zero_le _, Nat.zero_le _, Nat.zero_le _, fun x h => by cases h⟩, ⟨fun i h => absurd h (Nat.not_lt_zero _), fun _ _ => Or.inl rfl⟩, fun v h => absurd h (Nat.not_lt_zero _), fun v h => absurd h (Nat.not_lt_zero _), fun i r => ⟨fun j => ⟨Nat.zero_le _, Or.inl rfl, fun _ => rfl, fun _ => rfl⟩, Nat.zero_le _, fun h => absurd rfl h, fun _ => rfl⟩, fun z h => absurd h (Nat.not_lt_zero _), fun v h => absurd h (Nat.not_lt_zero _)⟩

set_option maxHeartbeats 4000000 in
set_option maxRecDepth 100000 in
theorem m_X6_init (D : va_G) (E : Nat → ClassId) (B : Nat) (l : Launch) (κ : Nat → Nat) (x : Nat) : zs_Ct D E B l yX6_init cX6_init 1 none ({ frames := 1, cells := 5, slots := 90, locals := 40 } : Room) [.ref x] (fun H => zs_pt D x (.inr (6, [.null, .int 0, .null, .int 0, .null, .null, .int 0, .null, .int 0])) H ∧ κ x = 1 ∧ ∀ q, H.size ≤ q → κ q = 0) (fun q => q = x) (fun v H H1 => v = none ∧ cs_to D E κ sp_0 x H H1) := by
  refine zs_ct (by decide) (Nat.le_of_ble_eq_true rfl) (fun p e s m below meth c hE hr hin hp => ?_)
  refine zs_lo (lo' := [(0, .ref x)]) rfl ?_
  obtain ⟨hx, t0, hκ⟩ := hp
  have lx := hx.lt
  refine zs_aload_n hE 0 dX6_init_0 rfl rfl ?_
  refine zs_objInit hE ol_X6_3 q_objI q_objC dX6_init_1 (by decide) (Nat.le_of_ble_eq_true rfl) (by decide) ?_
  refine zs_aload_n hE 0 dX6_init_4 rfl rfl ?_
  refine zs_bipush (v := (nI 6)) hE dX6_init_5 (by decide) ?_
  refine zs_newq (t := 5) hE al_X6_9 rfl (by decide) (by decide) (by decide) (by decide) dX6_init_7 (fun q1 H1 hq1 hp1 hz1 ho1 => ?_)
  refine zs_widen (k' := 1) (n' := 6) (by omega) (by omega) ?_
  have ne2 : x ≠ q1 := by have := zs_pt.lt hx; omega
  have hx := zs_pt.kept hx (ho1 _ (zs_pt.lt hx))
  refine zs_putF (v := .ref q1) hE (hin rfl) fl_X6_11 ⟨_, _, _, rfl, rfl⟩ hx (Or.inl rfl) (rfl) (rfl) (Nat.le_of_ble_eq_true rfl) dX6_init_10 (fun H3 hp3 hz3 ho3 => ?_)
  have hp1 := zs_pt.kept hp1 (ho3 _ ne2.symm)
  have hp3 : zs_pt D x (.inr (6, [.ref q1, .int 0, .null, .int 0, .null, .null, .int 0, .null, .int 0])) H3 := hp3
  refine zs_aload_n hE 0 dX6_init_13 rfl rfl ?_
  refine zs_bipush (v := (nI 40)) hE dX6_init_14 (by decide) ?_
  refine zs_newq (t := 6) hE al_X6_15 rfl (by decide) (by decide) (by decide) (by decide) dX6_init_16 (fun q4 H4 hq4 hp4 hz4 ho4 => ?_)
  refine zs_widen (k' := 2) (n' := 46) (by omega) (by omega) ?_
  have ne5 : x ≠ q4 := by have := zs_pt.lt hp3; omega
  have hp3 := zs_pt.kept hp3 (ho4 _ (zs_pt.lt hp3))
  have ne6 : q1 ≠ q4 := by have := zs_pt.lt hp1; omega
  have hp1 := zs_pt.kept hp1 (ho4 _ (zs_pt.lt hp1))
  refine zs_putF (v := .ref q4) hE (hin rfl) fl_X6_17 ⟨_, _, _, rfl, rfl⟩ hp3 (Or.inl rfl) (rfl) (rfl) (Nat.le_of_ble_eq_true rfl) dX6_init_19 (fun H7 hp7 hz7 ho7 => ?_)
  have hp1 := zs_pt.kept hp1 (ho7 _ ne2.symm)
  have hp4 := zs_pt.kept hp4 (ho7 _ ne5.symm)
  have hp7 : zs_pt D x (.inr (6, [.ref q1, .int 0, .ref q4, .int 0, .null, .null, .int 0, .null, .int 0])) H7 := hp7
  refine zs_aload_n hE 0 dX6_init_22 rfl rfl ?_
  refine zs_bipush (v := (nI 24)) hE dX6_init_23 (by decide) ?_
  refine zs_newq (t := 7) hE al_X6_21 rfl (by decide) (by decide) (by decide) (by decide) dX6_init_25 (fun q8 H8 hq8 hp8 hz8 ho8 => ?_)
  refine zs_widen (k' := 3) (n' := 70) (by omega) (by omega) ?_
  have ne9 : x ≠ q8 := by have := zs_pt.lt hp7; omega
  have hp7 := zs_pt.kept hp7 (ho8 _ (zs_pt.lt hp7))
  have ne10 : q1 ≠ q8 := by have := zs_pt.lt hp1; omega
  have hp1 := zs_pt.kept hp1 (ho8 _ (zs_pt.lt hp1))
  have ne11 : q4 ≠ q8 := by have := zs_pt.lt hp4; omega
  have hp4 := zs_pt.kept hp4 (ho8 _ (zs_pt.lt hp4))
  refine zs_putF (v := .ref q8) hE (hin rfl) fl_X6_23 ⟨_, _, _, rfl, rfl⟩ hp7 (Or.inl rfl) (rfl) (rfl) (Nat.le_of_ble_eq_true rfl) dX6_init_28 (fun H12 hp12 hz12 ho12 => ?_)
  have hp1 := zs_pt.kept hp1 (ho12 _ ne2.symm)
  have hp4 := zs_pt.kept hp4 (ho12 _ ne5.symm)
  have hp8 := zs_pt.kept hp8 (ho12 _ ne9.symm)
  have hp12 : zs_pt D x (.inr (6, [.ref q1, .int 0, .ref q4, .int 0, .ref q8, .null, .int 0, .null, .int 0])) H12 := hp12
  refine zs_aload_n hE 0 dX6_init_31 rfl rfl ?_
  refine zs_bipush (v := (nI 12)) hE dX6_init_32 (by decide) ?_
  refine zs_newq (t := 8) hE al_X6_27 rfl (by decide) (by decide) (by decide) (by decide) dX6_init_34 (fun q13 H13 hq13 hp13 hz13 ho13 => ?_)
  refine zs_widen (k' := 4) (n' := 82) (by omega) (by omega) ?_
  have ne14 : x ≠ q13 := by have := zs_pt.lt hp12; omega
  have hp12 := zs_pt.kept hp12 (ho13 _ (zs_pt.lt hp12))
  have ne15 : q1 ≠ q13 := by have := zs_pt.lt hp1; omega
  have hp1 := zs_pt.kept hp1 (ho13 _ (zs_pt.lt hp1))
  have ne16 : q4 ≠ q13 := by have := zs_pt.lt hp4; omega
  have hp4 := zs_pt.kept hp4 (ho13 _ (zs_pt.lt hp4))
  have ne17 : q8 ≠ q13 := by have := zs_pt.lt hp8; omega
  have hp8 := zs_pt.kept hp8 (ho13 _ (zs_pt.lt hp8))
  refine zs_putF (v := .ref q13) hE (hin rfl) fl_X6_29 ⟨_, _, _, rfl, rfl⟩ hp12 (Or.inl rfl) (rfl) (rfl) (Nat.le_of_ble_eq_true rfl) dX6_init_37 (fun H18 hp18 hz18 ho18 => ?_)
  have hp1 := zs_pt.kept hp1 (ho18 _ ne2.symm)
  have hp4 := zs_pt.kept hp4 (ho18 _ ne5.symm)
  have hp8 := zs_pt.kept hp8 (ho18 _ ne9.symm)
  have hp13 := zs_pt.kept hp13 (ho18 _ ne14.symm)
  have hp18 : zs_pt D x (.inr (6, [.ref q1, .int 0, .ref q4, .int 0, .ref q8, .ref q13, .int 0, .null, .int 0])) H18 := hp18
  refine zs_aload_n hE 0 dX6_init_40 rfl rfl ?_
  refine zs_bipush (v := (nI 8)) hE dX6_init_41 (by decide) ?_
  refine zs_newi hE q_arr_int (by decide) (by decide) (by decide) dX6_init_43 (fun q19 H19 hq19 hp19 hz19 ho19 => ?_)
  refine zs_widen (k' := 5) (n' := 90) (by omega) (by omega) ?_
  have ne20 : x ≠ q19 := by have := zs_pt.lt hp18; omega
  have hp18 := zs_pt.kept hp18 (ho19 _ (zs_pt.lt hp18))
  have ne21 : q1 ≠ q19 := by have := zs_pt.lt hp1; omega
  have hp1 := zs_pt.kept hp1 (ho19 _ (zs_pt.lt hp1))
  have ne22 : q4 ≠ q19 := by have := zs_pt.lt hp4; omega
  have hp4 := zs_pt.kept hp4 (ho19 _ (zs_pt.lt hp4))
  have ne23 : q8 ≠ q19 := by have := zs_pt.lt hp8; omega
  have hp8 := zs_pt.kept hp8 (ho19 _ (zs_pt.lt hp8))
  have ne24 : q13 ≠ q19 := by have := zs_pt.lt hp13; omega
  have hp13 := zs_pt.kept hp13 (ho19 _ (zs_pt.lt hp13))
  refine zs_putF (v := .ref q19) hE (hin rfl) fl_X6_33 ⟨_, _, _, rfl, rfl⟩ hp18 (Or.inl rfl) (rfl) (rfl) (Nat.le_of_ble_eq_true rfl) dX6_init_45 (fun H25 hp25 hz25 ho25 => ?_)
  have hp1 := zs_pt.kept hp1 (ho25 _ ne2.symm)
  have hp4 := zs_pt.kept hp4 (ho25 _ ne5.symm)
  have hp8 := zs_pt.kept hp8 (ho25 _ ne9.symm)
  have hp13 := zs_pt.kept hp13 (ho25 _ ne14.symm)
  have hp19 := zs_pt.kept hp19 (ho25 _ ne20.symm)
  have hp25 : zs_pt D x (.inr (6, [.ref q1, .int 0, .ref q4, .int 0, .ref q8, .ref q13, .int 0, .ref q19, .int 0])) H25 := hp25
  have e0 : ∀ z, z ≠ q1 → z ≠ q4 → z ≠ q8 → z ≠ q13 → z ≠ q19 → (va_up (va_up (va_up (va_up (va_up κ q1 2) q4 3) q8 4) q13 5) q19 6) z = κ z := fun z w1 w2 w3 w4 w5 => by rw [va_up_ne _ _ w5, va_up_ne _ _ w4, va_up_ne _ _ w3, va_up_ne _ _ w2, va_up_ne _ _ w1]
  exact zs_vret hE hr (⟨rfl, by omega, va_up (va_up (va_up (va_up (va_up κ q1 2) q4 3) q8 4) q13 5) q19 6, ⟨q1, q4, q8, q13, q19, fun _ => none, fun _ => none, fun _ => none, fun _ => none, fun _ => 0, ⟨(e0 x (by omega) (by omega) (by omega) (by omega) (by omega)).trans t0, by rw [va_up_ne _ _ (by omega), va_up_ne _ _ (by omega), va_up_ne _ _ (by omega), va_up_ne _ _ (by omega), va_up_self], by rw [va_up_ne _ _ (by omega), va_up_ne _ _ (by omega), va_up_ne _ _ (by omega), va_up_self], by rw [va_up_ne _ _ (by omega), va_up_ne _ _ (by omega), va_up_self], by rw [va_up_ne _ _ (by omega), va_up_self], va_up_self _ _ _, hp25, hp1, hp4, hp8, hp13, hp19⟩, fun j hj => absurd hj (Nat.not_lt_zero _), fun i hi => absurd hi (Nat.not_lt_zero _), fun i hi => absurd hi (Nat.not_lt_zero _), ⟨fun _ _ _ => rfl, fun k hk => absurd hk (Nat.not_lt_zero _)⟩, fun z hz => absurd hz (Nat.not_lt_zero _), fun z w => (e0 z (by omega) (by omega) (by omega) (by omega) (by omega)).trans (hκ z (by omega))⟩, fun z w => e0 z (by omega) (by omega) (by omega) (by omega) (by omega)⟩) (by decide) (by decide) dX6_init_48


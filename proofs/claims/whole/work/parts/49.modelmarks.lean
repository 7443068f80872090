/-! the model: the marks, 120 in a row -/
theorem zs_fconst {D : va_G} {E : Nat → ClassId} {B : Nat} {A : Nat → Prop} {p : Program} {l : Launch} {e : Env} {R : Room} {s : State} {m : MethodId} {args : Array Value} {below : List Frame} {meth : Method} {c : Code} {nL : Nat} {Q : State → Prop} {H : Heap} {k n pc : Nat} {lo : List (Nat × Value)} {st : List Value} {cc : ByteArray} {own : String} (hE : zs_E D E B A s m args meth c p cc nL own) (hd : decode cc pc = .ok (.fconst 0, 1)) (K : zs_W A p l e R s m args below meth c nL Q H k n (pc + 1) lo (.float FP.fconst0 :: st)) : zs_W A p l e R s m args below meth c nL Q H k n (pc) lo (st) := fun ls locs h1 h2 => lv_fconst0 hE.1 hE.2.1 hd (K ls locs h1 h2)
theorem zs_dconst {D : va_G} {E : Nat → ClassId} {B : Nat} {A : Nat → Prop} {p : Program} {l : Launch} {e : Env} {R : Room} {s : State} {m : MethodId} {args : Array Value} {below : List Frame} {meth : Method} {c : Code} {nL : Nat} {Q : State → Prop} {H : Heap} {k n pc : Nat} {lo : List (Nat × Value)} {st : List Value} {cc : ByteArray} {own : String} (hE : zs_E D E B A s m args meth c p cc nL own) (hd : decode cc pc = .ok (.dconst 0, 1)) (K : zs_W A p l e R s m args below meth c nL Q H k n (pc + 1) lo (.double FP.dconst0 :: st)) : zs_W A p l e R s m args below meth c nL Q H k n (pc) lo (st) := fun ls locs h1 h2 => lv_dconst0 hE.1 hE.2.1 hd (K ls locs h1 h2)

theorem sm_m5 (f : Nat → Nat) (m : Nat) : ∀ n : Nat, sm f (m * n) = sm (fun c => sm (fun j => f (m * c + j)) m) n
  | 0 => rfl
  | n + 1 => by
    show sm f (m * n + m) = sm (fun c => sm (fun j => f (m * c + j)) m) n + sm (fun j => f (m * n + j)) m
    rw [← sm_m5 f m n, sm_itn f, itn_add, ← sm_itn f]
    have : ∀ (g : Nat → Nat) (s k : Nat), itn (fun k x => x + g k) k s = s + sm g k := fun g s k => by
      induction k with
      | zero => rfl
      | succ k ih => show itn (fun k x => x + g k) k s + g k = s + (sm g k + g k); rw [ih]; omega
    exact this (fun j => f (m * n + j)) _ m
theorem sm_120 (F : Nat → Nat → Nat → Nat) : sm (fun q => F (q / 5 % 6) (q / 5 / 6) (q % 5)) 120 = sm (fun k => sm (fun j => F (k / 4) (k % 4) j) 5) 24 := by
  rw [show (120 : Nat) = 5 * 24 from rfl, sm_m5]
  have e1 : sm (fun c => sm (fun j => F ((5 * c + j) / 5 % 6) ((5 * c + j) / 5 / 6) ((5 * c + j) % 5)) 5) 24 = sm (fun c => sm (fun j => F (c % 6) (c / 6) j) 5) 24 := sm_congr (fun c _ => sm_congr (fun j hj => by
    rw [show (5 * c + j) / 5 = c by omega, show (5 * c + j) % 5 = j by omega]))
  rw [e1]
  generalize hG : (fun i r => sm (fun j => F i r j) 5) = G
  have e2 : ∀ i r, sm (fun j => F i r j) 5 = G i r := fun i r => by rw [← hG]
  simp only [e2]
  simp only [sm, Nat.reduceDiv, Nat.reduceMod]
  omega
/-- marks that are there (c = 0), those that count (c = 1), those asked -/
def mm_t (S : sp_S) (c q : Nat) : Nat := if c = 0 then (if sp_mk S (q / 5 % 6) (q / 5 / 6) (q % 5) = 0 then 0 else 1) else (if sp_ct S (q / 5 % 6) (q / 5 / 6) (q % 5) = 0 then 0 else 1)
def mm_a (S : sp_S) (q : Nat) : Nat := if sp_mk S (q / 5 % 6) (q / 5 / 6) (q % 5) ≠ 0 ∧ sp_ct S (q / 5 % 6) (q / 5 / 6) (q % 5) = 0 then 1 else 0
def mm_s (S : sp_S) (q : Nat) : Nat := sp_ct S (q / 5 % 6) (q / 5 / 6) (q % 5) - 1
theorem mm_0 (S : sp_S) : sm (mm_t S 0) 120 = sp_mt S := sm_120 (fun i r j => if sp_mk S i r j = 0 then 0 else 1)
theorem mm_1 (S : sp_S) : sm (mm_t S 1) 120 = sp_mc S := sm_120 (fun i r j => if sp_ct S i r j = 0 then 0 else 1)
theorem mm_2 (S : sp_S) : sm (mm_s S) 120 = sp_ms S := sm_120 (fun i r j => sp_ct S i r j - 1)
theorem mm_3 {S : sp_S} (h : sw_H S) : ∀ n : Nat, sm (mm_a S) n + sm (mm_t S 1) n = sm (mm_t S 0) n
  | 0 => rfl
  | n + 1 => by
    have ih := mm_3 h n
    show (sm (mm_a S) n + mm_a S n) + (sm (mm_t S 1) n + mm_t S 1 n) = sm (mm_t S 0) n + mm_t S 0 n
    have w := ((h (n / 5 % 6) (n / 5 / 6)).1 (n % 5)).2.1
    have : mm_a S n + mm_t S 1 n = mm_t S 0 n := by
      unfold mm_a mm_t
      rw [if_neg (by decide : ¬ (1 = 0)), if_pos rfl]
      by_cases z : sp_mk S (n / 5 % 6) (n / 5 / 6) (n % 5) = 0
      · rw [if_neg (fun y => y.1 z), if_pos z, if_pos (by omega)]
      · by_cases y : sp_ct S (n / 5 % 6) (n / 5 / 6) (n % 5) = 0
        · rw [if_pos ⟨z, y⟩, if_pos y, if_neg z]
        · rw [if_neg (fun t => y t.2), if_neg y, if_neg z]
    omega
theorem mm_b {S : sp_S} {f : Nat → Nat} (c : Nat) (hf : ∀ q, f q ≤ c) (n : Nat) : sm f n ≤ c * n := sm_le (fun j _ => hf j)
theorem mm_t1 (S : sp_S) (c q : Nat) : mm_t S c q ≤ 1 := by
  unfold mm_t
  repeat' split
  all_goals omega
theorem mm_a1 (S : sp_S) (q : Nat) : mm_a S q ≤ 1 := by
  unfold mm_a
  split <;> omega
/-- what the model's two rows hold at one place -/
theorem mi_H.at {S : sp_S} {ar : Nat → Nat → Int32} (h : mi_H S ar) {q : Nat} (hq : q < 120) : ar 15 q = nI (sp_mk S (q / 5 % 6) (q / 5 / 6) (q % 5)) ∧ ar 16 q = nI (mm_a S q) := by
  obtain ⟨-, h2⟩ := h (q / 5 / 6) (by omega) (q / 5 % 6) (by omega)
  obtain ⟨h3, h4⟩ := h2 (q % 5) (by omega)
  have e : 5 * (6 * (q / 5 / 6) + q / 5 % 6) + q % 5 = q := by omega
  rw [e] at h3 h4
  exact ⟨h3, h4⟩
theorem mm_sk {S : sp_S} (h : sw_H S) {q : Nat} : mm_s S q ≤ 20 := by
  have := sp_ctb h (q / 5 % 6) (q / 5 / 6) (q % 5) (Nat.mod_lt _ (by decide))
  unfold mm_s; omega

set_option maxHeartbeats 4000000 in
set_option maxRecDepth 100000 in
theorem m_X7_asked (D : va_G) (E : Nat → ClassId) (B : Nat) (l : Launch) (κ : Nat → Nat) (x : Nat) (ad sc : Nat → Nat) (ar : Nat → Nat → Int32) (S : sp_S) (hM : mi_ S sc ar) (hw : sp_wf S) : zs_Ct D E B l yX7_asked cX7_asked 3 (some .int) ({ frames := 1, cells := 0, slots := 0, locals := 21 } : Room) [.ref x] (fun H => md_O D E κ x ad sc ar H) (md_F κ) (mq_ D E κ x ad (o_asked S)) := by
  refine zs_ct (by decide) (Nat.le_of_ble_eq_true rfl) (fun p e s m below meth c hE hr hin hp => ?_)
  refine zs_lo (lo' := [(0, .ref x)]) rfl ?_
  have hO := hp
  obtain ⟨t0, hx, t5, t6, t7, t8, t9, t10, t11, t12, t13, t14, t15, t16, t17, t18, t19, t20, r5, r6, r7, r8, r9, r10, r11, r12, r13, r14, r15, r16, r17, r18, r19, r20⟩ := id hO
  obtain ⟨wN, wP, wV, wA, wH, wZ, wF⟩ := id hw
  obtain ⟨n6, n40, n12, n8, n99⟩ := id wN
  obtain ⟨⟨mp0, mP⟩, ⟨mv0, mV⟩, ⟨mt0, mT⟩, mH, ⟨mz0, mZ⟩, mE⟩ := id hM
  refine zs_iconst (v := (nI 0)) hE dX7_asked_0 (by decide) ?_
  refine zs_istore_n (lo' := [(1, .int (nI 0)), (0, .ref x)]) hE dX7_asked_1 rfl (by decide) rfl ?_
  refine zs_iconst (v := (nI 0)) hE dX7_asked_2 (by decide) ?_
  refine zs_istore_n (lo' := [(2, .int (nI 0)), (1, .int (nI 0)), (0, .ref x)]) hE dX7_asked_3 rfl (by decide) rfl ?_
  refine zs_sub (lo' := [(2, .int (nI 0)), (1, .int (nI 0)), (0, .ref x)]) [0, 1, 2] rfl ?_
  refine zs_ind1 (Hs := fun (k0 : Nat) => s.heap) (ks := fun (k0 : Nat) => 0) (ns := fun (k0 : Nat) => 0) (los := fun (k0 : Nat) => [(2, .int (nI k0)), (1, .int (nI (sm (mm_a S) (k0)))), (0, .ref x)]) (I := fun (k0 : Nat) => k0 ≤ 120) (μ := fun (k0 : Nat) => 120 - k0) 0 (Nat.zero_le _) (fun k0 hi ih => ?_)
  try dsimp only at hi ih ⊢
  refine zs_iload_n hE 0 dX7_asked_4 rfl rfl ?_
  refine zs_bipush (v := (nI 120)) hE dX7_asked_5 (by decide) ?_
  refine zs_icmp_geN (tgt := 33) hE (by omega) (by decide) dX7_asked_7 (by decide) (fun h5 => ?_) (fun h => ?_)
  · obtain rfl : k0 = 120 := by omega
    refine zs_aload_n hE 2 dX7_asked_33 rfl rfl ?_
    refine zs_iload_n hE 1 dX7_asked_34 rfl rfl ?_
    refine zs_callV (av := [.int (nI (sm (mm_a S) (120)))]) (st := []) hE (m_X7_tells D E B l κ x ad sc ar (nI (sm (mm_a S) (120)))) sV_X7_93 hx rfl rfl (hO) ⟨by decide, by decide⟩ ⟨by decide, by decide⟩ (fun q w9 => Or.inl w9) (Nat.le_of_ble_eq_true rfl) dX7_asked_35 (fun v1 H1 hv1 hz1 hk1 => ?_)
    obtain ⟨rfl, cz, cO⟩ := hv1
    refine zs_widen (k' := 0) (n' := 0) (by decide) (by decide) ?_
    exact zs_iret hE hr (mq_mk (S' := S) (k := 0) (by rw [o_asked, ← mm_0 S, ← mm_1 S, ← mm_3 wH 120, pk_sub (Nat.le_add_left _ _), Nat.add_sub_cancel]) cz (fun _ => rfl) cO (mi_4 hM)) (by decide) (by decide) dX7_asked_38
  · obtain ⟨-, e2⟩ := mH.at h
    have b1 := mm_a1 S k0
    refine zs_iload_n hE 1 dX7_asked_10 rfl rfl ?_
    refine zs_aload_n hE 2 dX7_asked_11 rfl rfl ?_
    refine zs_get hE fl_X7_61 hx rfl dX7_asked_12 ?_
    refine zs_iload_n hE 0 dX7_asked_15 rfl rfl ?_
    refine zs_zald hE r16 (by omega) (by decide) dX7_asked_16 ?_
    refine zs_top (v' := .int (nI (mm_a S k0))) (by rw [e2]) ?_
    refine zs_if_eqN (tgt := 24) hE (by omega) dX7_asked_17 (by decide) (fun h6 => ?_) (fun h6 => ?_)
    · refine zs_iconst (v := (nI 0)) hE dX7_asked_24 (by decide) ?_
      refine zs_iaddN hE dX7_asked_25 ?_
      refine zs_istore_n (lo' := [(1, .int (nI (sm (mm_a S) (k0) + 0))), (2, .int (nI k0)), (0, .ref x)]) hE dX7_asked_26 rfl (by decide) rfl ?_
      refine zs_iincN (lo' := [(2, .int (nI (k0 + 1))), (1, .int (nI (sm (mm_a S) (k0) + 0))), (0, .ref x)]) hE 1 dX7_asked_27 rfl (by decide) rfl ?_
      refine zs_goto (tgt := 4) hE dX7_asked_30 (by decide) ?_
      refine zs_sub (lo' := [(2, .int (nI (k0 + 1))), (1, .int (nI (sm (mm_a S) (k0) + 0))), (0, .ref x)]) [0, 1, 2] rfl ?_
      refine zs_lo (lo' := [(2, .int (nI (k0 + 1))), (1, .int (nI (sm (mm_a S) (k0 + 1)))), (0, .ref x)]) (by rw [show sm (mm_a S) (k0 + 1) = sm (mm_a S) k0 + mm_a S k0 from rfl, h6]) ?_
      refine zs_sub (lo' := [(2, .int (nI (k0 + 1))), (1, .int (nI (sm (mm_a S) (k0 + 1)))), (0, .ref x)]) [0, 1, 2] rfl ?_
      exact ih (k0 + 1) (by omega) (by omega)
    · refine zs_iconst (v := (nI 1)) hE dX7_asked_20 (by decide) ?_
      refine zs_goto (tgt := 25) hE dX7_asked_21 (by decide) ?_
      refine zs_iaddN hE dX7_asked_25 ?_
      refine zs_istore_n (lo' := [(1, .int (nI (sm (mm_a S) (k0) + 1))), (2, .int (nI k0)), (0, .ref x)]) hE dX7_asked_26 rfl (by decide) rfl ?_
      refine zs_iincN (lo' := [(2, .int (nI (k0 + 1))), (1, .int (nI (sm (mm_a S) (k0) + 1))), (0, .ref x)]) hE 1 dX7_asked_27 rfl (by decide) rfl ?_
      refine zs_goto (tgt := 4) hE dX7_asked_30 (by decide) ?_
      refine zs_sub (lo' := [(2, .int (nI (k0 + 1))), (1, .int (nI (sm (mm_a S) (k0) + 1))), (0, .ref x)]) [0, 1, 2] rfl ?_
      refine zs_lo (lo' := [(2, .int (nI (k0 + 1))), (1, .int (nI (sm (mm_a S) (k0 + 1)))), (0, .ref x)]) (by rw [show sm (mm_a S) (k0 + 1) = sm (mm_a S) k0 + mm_a S k0 from rfl, show mm_a S k0 = 1 by omega]) ?_
      refine zs_sub (lo' := [(2, .int (nI (k0 + 1))), (1, .int (nI (sm (mm_a S) (k0 + 1)))), (0, .ref x)]) [0, 1, 2] rfl ?_
      exact ih (k0 + 1) (by omega) (by omega)

set_option maxHeartbeats 4000000 in
set_option maxRecDepth 100000 in
theorem m_X7_marksThere (D : va_G) (E : Nat → ClassId) (B : Nat) (l : Launch) (κ : Nat → Nat) (x : Nat) (ad sc : Nat → Nat) (ar : Nat → Nat → Int32) (S : sp_S) (cq : Nat) (hM : mi_ S sc ar) (hw : sp_wf S) (hc : cq = 0 ∨ cq = 1) : zs_Ct D E B l yX7_marksThere cX7_marksThere 4 (some .int) ({ frames := 0, cells := 0, slots := 0, locals := 0 } : Room) [.ref x, .int (nI cq)] (fun H => md_O D E κ x ad sc ar H) (zs_N) (zs_ro (.int (nI (sm (mm_t S cq) 120)))) := by
  refine zs_ct (by decide) (Nat.le_of_ble_eq_true rfl) (fun p e s m below meth c hE hr hin hp => ?_)
  refine zs_lo (lo' := [(0, .ref x), (1, .int (nI cq))]) rfl ?_
  have hO := hp
  obtain ⟨t0, hx, t5, t6, t7, t8, t9, t10, t11, t12, t13, t14, t15, t16, t17, t18, t19, t20, r5, r6, r7, r8, r9, r10, r11, r12, r13, r14, r15, r16, r17, r18, r19, r20⟩ := id hO
  obtain ⟨wN, wP, wV, wA, wH, wZ, wF⟩ := id hw
  obtain ⟨n6, n40, n12, n8, n99⟩ := id wN
  obtain ⟨⟨mp0, mP⟩, ⟨mv0, mV⟩, ⟨mt0, mT⟩, mH, ⟨mz0, mZ⟩, mE⟩ := id hM
  refine zs_iconst (v := (nI 0)) hE dX7_marksThere_0 (by decide) ?_
  refine zs_istore_n (lo' := [(2, .int (nI 0)), (0, .ref x), (1, .int (nI cq))]) hE dX7_marksThere_1 rfl (by decide) rfl ?_
  refine zs_iconst (v := (nI 0)) hE dX7_marksThere_2 (by decide) ?_
  refine zs_istore_n (lo' := [(3, .int (nI 0)), (2, .int (nI 0)), (0, .ref x), (1, .int (nI cq))]) hE dX7_marksThere_3 rfl (by decide) rfl ?_
  refine zs_sub (lo' := [(3, .int (nI 0)), (2, .int (nI 0)), (0, .ref x), (1, .int (nI cq))]) [0, 1, 2, 3] rfl ?_
  refine zs_ind1 (Hs := fun (k0 : Nat) => s.heap) (ks := fun (k0 : Nat) => 0) (ns := fun (k0 : Nat) => 0) (los := fun (k0 : Nat) => [(3, .int (nI k0)), (2, .int (nI (sm (mm_t S cq) (k0)))), (0, .ref x), (1, .int (nI cq))]) (I := fun (k0 : Nat) => k0 ≤ 120) (μ := fun (k0 : Nat) => 120 - k0) 0 (Nat.zero_le _) (fun k0 hi ih => ?_)
  try dsimp only at hi ih ⊢
  refine zs_iload_n hE 0 dX7_marksThere_4 rfl rfl ?_
  refine zs_bipush (v := (nI 120)) hE dX7_marksThere_5 (by decide) ?_
  refine zs_icmp_geN (tgt := 46) hE (by omega) (by decide) dX7_marksThere_7 (by decide) (fun h5 => ?_) (fun h => ?_)
  · obtain rfl : k0 = 120 := by omega
    refine zs_iload_n hE 1 dX7_marksThere_46 rfl rfl ?_
    exact zs_iret hE hr (⟨rfl, rfl⟩) (by decide) (by decide) dX7_marksThere_47
  · obtain ⟨e1, e2⟩ := mH.at h
    have b1 := mm_a1 S k0
    have b2 := sp_mkb wH (k0 / 5 % 6) (k0 / 5 / 6) (k0 % 5) (Nat.mod_lt _ (by decide))
    have w9 := ((wH (k0 / 5 % 6) (k0 / 5 / 6)).1 (k0 % 5)).2.1
    have ut : mm_t S cq k0 = if cq = 0 then (if sp_mk S (k0 / 5 % 6) (k0 / 5 / 6) (k0 % 5) = 0 then 0 else 1) else (if sp_ct S (k0 / 5 % 6) (k0 / 5 / 6) (k0 % 5) = 0 then 0 else 1) := rfl
    have ua : mm_a S k0 = if sp_mk S (k0 / 5 % 6) (k0 / 5 / 6) (k0 % 5) ≠ 0 ∧ sp_ct S (k0 / 5 % 6) (k0 / 5 / 6) (k0 % 5) = 0 then 1 else 0 := rfl
    generalize sp_mk S (k0 / 5 % 6) (k0 / 5 / 6) (k0 % 5) = mk at *
    generalize sp_ct S (k0 / 5 % 6) (k0 / 5 / 6) (k0 % 5) = ct at *
    refine zs_iload_n hE 1 dX7_marksThere_10 rfl rfl ?_
    refine zs_aload_n hE 2 dX7_marksThere_11 rfl rfl ?_
    refine zs_get hE fl_X7_58 hx rfl dX7_marksThere_12 ?_
    refine zs_iload_n hE 0 dX7_marksThere_15 rfl rfl ?_
    refine zs_iald hE r15 (by omega) (by decide) dX7_marksThere_16 ?_
    refine zs_top (v' := .int (nI mk)) (by rw [e1]) ?_
    refine zs_if_leN (tgt := 37) hE (by omega) dX7_marksThere_17 (by decide) (fun h6 => ?_) (fun h6 => ?_)
    · refine zs_iconst (v := (nI 0)) hE dX7_marksThere_37 (by decide) ?_
      refine zs_iaddN hE dX7_marksThere_38 ?_
      refine zs_istore_n (lo' := [(2, .int (nI (sm (mm_t S cq) (k0) + 0))), (3, .int (nI k0)), (0, .ref x), (1, .int (nI cq))]) hE dX7_marksThere_39 rfl (by decide) rfl ?_
      refine zs_iincN (lo' := [(3, .int (nI (k0 + 1))), (2, .int (nI (sm (mm_t S cq) (k0) + 0))), (0, .ref x), (1, .int (nI cq))]) hE 1 dX7_marksThere_40 rfl (by decide) rfl ?_
      refine zs_goto (tgt := 4) hE dX7_marksThere_43 (by decide) ?_
      refine zs_sub (lo' := [(3, .int (nI (k0 + 1))), (2, .int (nI (sm (mm_t S cq) (k0) + 0))), (0, .ref x), (1, .int (nI cq))]) [0, 1, 2, 3] rfl ?_
      refine zs_lo (lo' := [(3, .int (nI (k0 + 1))), (2, .int (nI (sm (mm_t S cq) (k0 + 1)))), (0, .ref x), (1, .int (nI cq))]) (by rw [show sm (mm_t S cq) (k0 + 1) = sm (mm_t S cq) k0 + mm_t S cq k0 from rfl, show mm_t S cq k0 = 0 by rw [ut]; rcases hc with rfl | rfl; rw [if_pos rfl, if_pos h6]; rw [if_neg (by decide), if_pos (by omega)]]) ?_
      refine zs_sub (lo' := [(3, .int (nI (k0 + 1))), (2, .int (nI (sm (mm_t S cq) (k0 + 1)))), (0, .ref x), (1, .int (nI cq))]) [0, 1, 2, 3] rfl ?_
      exact ih (k0 + 1) (by omega) (by omega)
    · refine zs_iload_n hE 3 dX7_marksThere_20 rfl rfl ?_
      refine zs_if_eqN (tgt := 33) hE (by omega) dX7_marksThere_21 (by decide) (fun h7 => ?_) (fun h7 => ?_)
      · refine zs_iconst (v := (nI 1)) hE dX7_marksThere_33 (by decide) ?_
        refine zs_goto (tgt := 38) hE dX7_marksThere_34 (by decide) ?_
        refine zs_iaddN hE dX7_marksThere_38 ?_
        refine zs_istore_n (lo' := [(2, .int (nI (sm (mm_t S cq) (k0) + 1))), (3, .int (nI k0)), (0, .ref x), (1, .int (nI cq))]) hE dX7_marksThere_39 rfl (by decide) rfl ?_
        refine zs_iincN (lo' := [(3, .int (nI (k0 + 1))), (2, .int (nI (sm (mm_t S cq) (k0) + 1))), (0, .ref x), (1, .int (nI cq))]) hE 1 dX7_marksThere_40 rfl (by decide) rfl ?_
        refine zs_goto (tgt := 4) hE dX7_marksThere_43 (by decide) ?_
        refine zs_sub (lo' := [(3, .int (nI (k0 + 1))), (2, .int (nI (sm (mm_t S cq) (k0) + 1))), (0, .ref x), (1, .int (nI cq))]) [0, 1, 2, 3] rfl ?_
        refine zs_lo (lo' := [(3, .int (nI (k0 + 1))), (2, .int (nI (sm (mm_t S cq) (k0 + 1)))), (0, .ref x), (1, .int (nI cq))]) (by rw [show sm (mm_t S cq) (k0 + 1) = sm (mm_t S cq) k0 + mm_t S cq k0 from rfl, show mm_t S cq k0 = 1 by rw [ut, if_pos h7, if_neg (by omega)]]) ?_
        refine zs_sub (lo' := [(3, .int (nI (k0 + 1))), (2, .int (nI (sm (mm_t S cq) (k0 + 1)))), (0, .ref x), (1, .int (nI cq))]) [0, 1, 2, 3] rfl ?_
        exact ih (k0 + 1) (by omega) (by omega)
      · refine zs_aload_n hE 2 dX7_marksThere_24 rfl rfl ?_
        refine zs_get hE fl_X7_61 hx rfl dX7_marksThere_25 ?_
        refine zs_iload_n hE 0 dX7_marksThere_28 rfl rfl ?_
        refine zs_zald hE r16 (by omega) (by decide) dX7_marksThere_29 ?_
        refine zs_top (v' := .int (nI (mm_a S k0))) (by rw [e2]) ?_
        refine zs_if_neN (tgt := 37) hE (by omega) dX7_marksThere_30 (by decide) (fun h8 => ?_) (fun h8 => ?_)
        · refine zs_iconst (v := (nI 0)) hE dX7_marksThere_37 (by decide) ?_
          refine zs_iaddN hE dX7_marksThere_38 ?_
          refine zs_istore_n (lo' := [(2, .int (nI (sm (mm_t S cq) (k0) + 0))), (3, .int (nI k0)), (0, .ref x), (1, .int (nI cq))]) hE dX7_marksThere_39 rfl (by decide) rfl ?_
          refine zs_iincN (lo' := [(3, .int (nI (k0 + 1))), (2, .int (nI (sm (mm_t S cq) (k0) + 0))), (0, .ref x), (1, .int (nI cq))]) hE 1 dX7_marksThere_40 rfl (by decide) rfl ?_
          refine zs_goto (tgt := 4) hE dX7_marksThere_43 (by decide) ?_
          refine zs_sub (lo' := [(3, .int (nI (k0 + 1))), (2, .int (nI (sm (mm_t S cq) (k0) + 0))), (0, .ref x), (1, .int (nI cq))]) [0, 1, 2, 3] rfl ?_
          refine zs_lo (lo' := [(3, .int (nI (k0 + 1))), (2, .int (nI (sm (mm_t S cq) (k0 + 1)))), (0, .ref x), (1, .int (nI cq))]) (by rw [show sm (mm_t S cq) (k0 + 1) = sm (mm_t S cq) k0 + mm_t S cq k0 from rfl, show mm_t S cq k0 = 0 by rw [ut, if_neg (Nat.ne_of_gt h7), if_pos (Classical.byContradiction fun z => by rw [if_neg (fun y => z y.2)] at ua; omega)]]) ?_
          refine zs_sub (lo' := [(3, .int (nI (k0 + 1))), (2, .int (nI (sm (mm_t S cq) (k0 + 1)))), (0, .ref x), (1, .int (nI cq))]) [0, 1, 2, 3] rfl ?_
          exact ih (k0 + 1) (by omega) (by omega)
        · refine zs_iconst (v := (nI 1)) hE dX7_marksThere_33 (by decide) ?_
          refine zs_goto (tgt := 38) hE dX7_marksThere_34 (by decide) ?_
          refine zs_iaddN hE dX7_marksThere_38 ?_
          refine zs_istore_n (lo' := [(2, .int (nI (sm (mm_t S cq) (k0) + 1))), (3, .int (nI k0)), (0, .ref x), (1, .int (nI cq))]) hE dX7_marksThere_39 rfl (by decide) rfl ?_
          refine zs_iincN (lo' := [(3, .int (nI (k0 + 1))), (2, .int (nI (sm (mm_t S cq) (k0) + 1))), (0, .ref x), (1, .int (nI cq))]) hE 1 dX7_marksThere_40 rfl (by decide) rfl ?_
          refine zs_goto (tgt := 4) hE dX7_marksThere_43 (by decide) ?_
          refine zs_sub (lo' := [(3, .int (nI (k0 + 1))), (2, .int (nI (sm (mm_t S cq) (k0) + 1))), (0, .ref x), (1, .int (nI cq))]) [0, 1, 2, 3] rfl ?_
          refine zs_lo (lo' := [(3, .int (nI (k0 + 1))), (2, .int (nI (sm (mm_t S cq) (k0 + 1)))), (0, .ref x), (1, .int (nI cq))]) (by rw [show sm (mm_t S cq) (k0 + 1) = sm (mm_t S cq) k0 + mm_t S cq k0 from rfl, show mm_t S cq k0 = 1 by rw [ut, if_neg (Nat.ne_of_gt h7), if_neg (fun z => by rw [if_pos ⟨by omega, z⟩] at ua; omega)]]) ?_
          refine zs_sub (lo' := [(3, .int (nI (k0 + 1))), (2, .int (nI (sm (mm_t S cq) (k0 + 1)))), (0, .ref x), (1, .int (nI cq))]) [0, 1, 2, 3] rfl ?_
          exact ih (k0 + 1) (by omega) (by omega)

set_option maxHeartbeats 4000000 in
set_option maxRecDepth 100000 in
theorem m_X7_countShare (D : va_G) (E : Nat → ClassId) (B : Nat) (l : Launch) (κ : Nat → Nat) (x : Nat) (ad sc : Nat → Nat) (ar : Nat → Nat → Int32) (S : sp_S) (hM : mi_ S sc ar) (hw : sp_wf S) : zs_Ct D E B l yX7_countShare cX7_countShare 1 (some .float) ({ frames := 1, cells := 0, slots := 0, locals := 23 } : Room) [.ref x] (fun H => md_O D E κ x ad sc ar H) (md_F κ) (mg_ Value.float D E κ x ad (o_countShare S)) := by
  refine zs_ct (by decide) (Nat.le_of_ble_eq_true rfl) (fun p e s m below meth c hE hr hin hp => ?_)
  refine zs_lo (lo' := [(0, .ref x)]) rfl ?_
  have hO := hp
  obtain ⟨t0, hx, t5, t6, t7, t8, t9, t10, t11, t12, t13, t14, t15, t16, t17, t18, t19, t20, r5, r6, r7, r8, r9, r10, r11, r12, r13, r14, r15, r16, r17, r18, r19, r20⟩ := id hO
  obtain ⟨wN, wP, wV, wA, wH, wZ, wF⟩ := id hw
  obtain ⟨n6, n40, n12, n8, n99⟩ := id wN
  obtain ⟨⟨mp0, mP⟩, ⟨mv0, mV⟩, ⟨mt0, mT⟩, mH, ⟨mz0, mZ⟩, mE⟩ := id hM
  have bt := sp_mt_le wH
  have bc := sp_mc_le wH
  refine zs_aload_n hE 0 dX7_countShare_0 rfl rfl ?_
  refine zs_aload_n hE 0 dX7_countShare_1 rfl rfl ?_
  refine zs_iconst (v := (nI 0)) hE dX7_countShare_2 (by decide) ?_
  refine zs_callVR (av := [.int (nI 0)]) (st := [.ref x]) (b := x) hE (m_X7_marksThere D E B l κ x ad sc ar S 0 hM hw (Or.inl rfl)) rfl rfl sV_X7_168 hx rfl rfl (hO) ⟨by decide, by decide⟩ ⟨by decide, by decide⟩ (Nat.le_of_ble_eq_true rfl) dX7_countShare_3 ?_
  refine zs_top (v' := .int (nI (sp_mt S))) (by rw [mm_0]) ?_
  refine zs_if_neN (tgt := 13) hE (by omega) dX7_countShare_6 (by decide) (fun h1 => ?_) (fun h1 => ?_)
  · refine zs_iconst (v := (nI 0)) hE dX7_countShare_13 (by decide) ?_
    refine zs_put (v := .int (nI 0)) hE fl_X7_22 hx (Or.inl (show 500 ≤ κ x by omega)) (rfl) (rfl) (Nat.le_of_ble_eq_true rfl) dX7_countShare_14 (fun H1 hp1 hz1 ho1 => ?_)
    have r5 := zs_pt.kept r5 (ho1 _ (cs_ne t5 t0 (by decide)))
    have r6 := zs_pt.kept r6 (ho1 _ (cs_ne t6 t0 (by decide)))
    have r7 := zs_pt.kept r7 (ho1 _ (cs_ne t7 t0 (by decide)))
    have r8 := zs_pt.kept r8 (ho1 _ (cs_ne t8 t0 (by decide)))
    have r9 := zs_pt.kept r9 (ho1 _ (cs_ne t9 t0 (by decide)))
    have r10 := zs_pt.kept r10 (ho1 _ (cs_ne t10 t0 (by decide)))
    have r11 := zs_pt.kept r11 (ho1 _ (cs_ne t11 t0 (by decide)))
    have r12 := zs_pt.kept r12 (ho1 _ (cs_ne t12 t0 (by decide)))
    have r13 := zs_pt.kept r13 (ho1 _ (cs_ne t13 t0 (by decide)))
    have r14 := zs_pt.kept r14 (ho1 _ (cs_ne t14 t0 (by decide)))
    have r15 := zs_pt.kept r15 (ho1 _ (cs_ne t15 t0 (by decide)))
    have r16 := zs_pt.kept r16 (ho1 _ (cs_ne t16 t0 (by decide)))
    have r17 := zs_pt.kept r17 (ho1 _ (cs_ne t17 t0 (by decide)))
    have r18 := zs_pt.kept r18 (ho1 _ (cs_ne t18 t0 (by decide)))
    have r19 := zs_pt.kept r19 (ho1 _ (cs_ne t19 t0 (by decide)))
    have r20 := zs_pt.kept r20 (ho1 _ (cs_ne t20 t0 (by decide)))
    have hp1 : zs_pt D x (.inr (7, [.int (nI (sc 0)), .int (nI (sc 1)), .int (nI (sc 2)), .int (nI (sc 3)), .int (nI 0), .ref (ad 5), .ref (ad 6), .ref (ad 7), .ref (ad 8), .ref (ad 9), .ref (ad 10), .ref (ad 11), .ref (ad 12), .ref (ad 13), .ref (ad 14), .ref (ad 15), .ref (ad 16), .ref (ad 17), .ref (ad 18), .ref (ad 19), .ref (ad 20)])) H1 := hp1
    have hO4 : md_O D E κ x ad (va_up sc 4 0) ar H1 := ⟨t0, hp1, t5, t6, t7, t8, t9, t10, t11, t12, t13, t14, t15, t16, t17, t18, t19, t20, r5, r6, r7, r8, r9, r10, r11, r12, r13, r14, r15, r16, r17, r18, r19, r20⟩
    refine zs_aload_n hE 0 dX7_countShare_17 rfl rfl ?_
    refine zs_get hE fl_X7_22 hp1 rfl dX7_countShare_18 ?_
    refine zs_if_leN (tgt := 28) hE (by decide) dX7_countShare_21 (by decide) (fun h9 => ?_) (fun h9 => ?_)
    · refine zs_aload_n hE 0 dX7_countShare_28 rfl rfl ?_
      refine zs_iconst (v := (nI 1)) hE dX7_countShare_29 (by decide) ?_
      refine zs_callVR (av := [.int (nI 1)]) (st := []) (b := x) hE (m_X7_marksThere D E B l κ x ad (va_up sc 4 0) ar S 1 (mi_4 hM) hw (Or.inr rfl)) rfl rfl sV_X7_168 hp1 rfl rfl (hO4) ⟨by decide, by decide⟩ ⟨by decide, by decide⟩ (Nat.le_of_ble_eq_true rfl) dX7_countShare_30 ?_
      refine zs_top (v' := .int (nI (sp_mc S))) (by rw [mm_1]) ?_
      refine zs_i2f hE dX7_countShare_33 ?_
      refine zs_aload_n hE 0 dX7_countShare_34 rfl rfl ?_
      refine zs_iconst (v := (nI 0)) hE dX7_countShare_35 (by decide) ?_
      refine zs_callVR (av := [.int (nI 0)]) (st := [.float (FP.i2f (nI (sp_mc S)))]) (b := x) hE (m_X7_marksThere D E B l κ x ad (va_up sc 4 0) ar S 0 (mi_4 hM) hw (Or.inl rfl)) rfl rfl sV_X7_168 hp1 rfl rfl (hO4) ⟨by decide, by decide⟩ ⟨by decide, by decide⟩ (Nat.le_of_ble_eq_true rfl) dX7_countShare_36 ?_
      refine zs_top (v' := .int (nI (sp_mt S))) (by rw [mm_0]) ?_
      refine zs_i2f hE dX7_countShare_39 ?_
      refine zs_fdiv hE dX7_countShare_40 (fl_share (by omega) (by omega) (by omega)) ?_
      exact zs_fret hE hr (mg_mk Value.float (S' := S) (k := 0) (by rw [o_countShare, pI_f (by omega)]) (by omega) (fun _ => rfl) hO4 (mi_4 hM)) (by decide) (by decide) dX7_countShare_41
    · exact absurd h9 (by decide)
  · refine zs_iconst (v := (nI 1)) hE dX7_countShare_9 (by decide) ?_
    refine zs_goto (tgt := 14) hE dX7_countShare_10 (by decide) ?_
    refine zs_put (v := .int (nI 1)) hE fl_X7_22 hx (Or.inl (show 500 ≤ κ x by omega)) (rfl) (rfl) (Nat.le_of_ble_eq_true rfl) dX7_countShare_14 (fun H2 hp2 hz2 ho2 => ?_)
    have r5 := zs_pt.kept r5 (ho2 _ (cs_ne t5 t0 (by decide)))
    have r6 := zs_pt.kept r6 (ho2 _ (cs_ne t6 t0 (by decide)))
    have r7 := zs_pt.kept r7 (ho2 _ (cs_ne t7 t0 (by decide)))
    have r8 := zs_pt.kept r8 (ho2 _ (cs_ne t8 t0 (by decide)))
    have r9 := zs_pt.kept r9 (ho2 _ (cs_ne t9 t0 (by decide)))
    have r10 := zs_pt.kept r10 (ho2 _ (cs_ne t10 t0 (by decide)))
    have r11 := zs_pt.kept r11 (ho2 _ (cs_ne t11 t0 (by decide)))
    have r12 := zs_pt.kept r12 (ho2 _ (cs_ne t12 t0 (by decide)))
    have r13 := zs_pt.kept r13 (ho2 _ (cs_ne t13 t0 (by decide)))
    have r14 := zs_pt.kept r14 (ho2 _ (cs_ne t14 t0 (by decide)))
    have r15 := zs_pt.kept r15 (ho2 _ (cs_ne t15 t0 (by decide)))
    have r16 := zs_pt.kept r16 (ho2 _ (cs_ne t16 t0 (by decide)))
    have r17 := zs_pt.kept r17 (ho2 _ (cs_ne t17 t0 (by decide)))
    have r18 := zs_pt.kept r18 (ho2 _ (cs_ne t18 t0 (by decide)))
    have r19 := zs_pt.kept r19 (ho2 _ (cs_ne t19 t0 (by decide)))
    have r20 := zs_pt.kept r20 (ho2 _ (cs_ne t20 t0 (by decide)))
    have hp2 : zs_pt D x (.inr (7, [.int (nI (sc 0)), .int (nI (sc 1)), .int (nI (sc 2)), .int (nI (sc 3)), .int (nI 1), .ref (ad 5), .ref (ad 6), .ref (ad 7), .ref (ad 8), .ref (ad 9), .ref (ad 10), .ref (ad 11), .ref (ad 12), .ref (ad 13), .ref (ad 14), .ref (ad 15), .ref (ad 16), .ref (ad 17), .ref (ad 18), .ref (ad 19), .ref (ad 20)])) H2 := hp2
    have hO4 : md_O D E κ x ad (va_up sc 4 1) ar H2 := ⟨t0, hp2, t5, t6, t7, t8, t9, t10, t11, t12, t13, t14, t15, t16, t17, t18, t19, t20, r5, r6, r7, r8, r9, r10, r11, r12, r13, r14, r15, r16, r17, r18, r19, r20⟩
    refine zs_aload_n hE 0 dX7_countShare_17 rfl rfl ?_
    refine zs_get hE fl_X7_22 hp2 rfl dX7_countShare_18 ?_
    refine zs_if_leN (tgt := 28) hE (by decide) dX7_countShare_21 (by decide) (fun h9 => ?_) (fun h9 => ?_)
    · exact absurd h9 (by decide)
    · refine zs_fconst hE dX7_countShare_24 ?_
      refine zs_goto (tgt := 41) hE dX7_countShare_25 (by decide) ?_
      exact zs_fret hE hr (mg_mk Value.float (S' := S) (v := .null) (k := 1) (by rw [o_countShare, pI_t h1]; rfl) (by omega) (fun w9 => by cases w9) hO4 (mi_4 hM)) (by decide) (by decide) dX7_countShare_41

set_option maxHeartbeats 4000000 in
set_option maxRecDepth 100000 in
theorem m_X7_meanMark (D : va_G) (E : Nat → ClassId) (B : Nat) (l : Launch) (κ : Nat → Nat) (x : Nat) (ad sc : Nat → Nat) (ar : Nat → Nat → Int32) (S : sp_S) (hM : mi_ S sc ar) (hw : sp_wf S) : zs_Ct D E B l yX7_meanMark cX7_meanMark 3 (some .double) ({ frames := 1, cells := 0, slots := 0, locals := 23 } : Room) [.ref x] (fun H => md_O D E κ x ad sc ar H) (md_F κ) (mg_ Value.double D E κ x ad (o_meanMark S)) := by
  refine zs_ct (by decide) (Nat.le_of_ble_eq_true rfl) (fun p e s m below meth c hE hr hin hp => ?_)
  refine zs_lo (lo' := [(0, .ref x)]) rfl ?_
  have hO := hp
  obtain ⟨t0, hx, t5, t6, t7, t8, t9, t10, t11, t12, t13, t14, t15, t16, t17, t18, t19, t20, r5, r6, r7, r8, r9, r10, r11, r12, r13, r14, r15, r16, r17, r18, r19, r20⟩ := id hO
  obtain ⟨wN, wP, wV, wA, wH, wZ, wF⟩ := id hw
  obtain ⟨n6, n40, n12, n8, n99⟩ := id wN
  obtain ⟨⟨mp0, mP⟩, ⟨mv0, mV⟩, ⟨mt0, mT⟩, mH, ⟨mz0, mZ⟩, mE⟩ := id hM
  have bs := sp_ms_le wH
  have bc := sp_mc_le wH
  refine zs_iconst (v := (nI 0)) hE dX7_meanMark_0 (by decide) ?_
  refine zs_istore_n (lo' := [(1, .int (nI 0)), (0, .ref x)]) hE dX7_meanMark_1 rfl (by decide) rfl ?_
  refine zs_iconst (v := (nI 0)) hE dX7_meanMark_2 (by decide) ?_
  refine zs_istore_n (lo' := [(2, .int (nI 0)), (1, .int (nI 0)), (0, .ref x)]) hE dX7_meanMark_3 rfl (by decide) rfl ?_
  refine zs_sub (lo' := [(2, .int (nI 0)), (1, .int (nI 0)), (0, .ref x)]) [0, 1, 2] rfl ?_
  refine zs_ind1 (Hs := fun (k0 : Nat) => s.heap) (ks := fun (k0 : Nat) => 0) (ns := fun (k0 : Nat) => 0) (los := fun (k0 : Nat) => [(2, .int (nI k0)), (1, .int (nI (sm (mm_s S) (k0)))), (0, .ref x)]) (I := fun (k0 : Nat) => k0 ≤ 120) (μ := fun (k0 : Nat) => 120 - k0) 0 (Nat.zero_le _) (fun k0 hi ih => ?_)
  try dsimp only at hi ih ⊢
  refine zs_iload_n hE 0 dX7_meanMark_4 rfl rfl ?_
  refine zs_bipush (v := (nI 120)) hE dX7_meanMark_5 (by decide) ?_
  refine zs_icmp_geN (tgt := 49) hE (by omega) (by decide) dX7_meanMark_7 (by decide) (fun h5 => ?_) (fun h => ?_)
  · obtain rfl : k0 = 120 := by omega
    refine zs_lo (lo' := [(2, .int (nI 120)), (1, .int (nI (sp_ms S))), (0, .ref x)]) (by rw [mm_2]) ?_
    refine zs_aload_n hE 2 dX7_meanMark_49 rfl rfl ?_
    refine zs_aload_n hE 2 dX7_meanMark_50 rfl rfl ?_
    refine zs_iconst (v := (nI 1)) hE dX7_meanMark_51 (by decide) ?_
    refine zs_callVR (av := [.int (nI 1)]) (st := [.ref x]) (b := x) hE (m_X7_marksThere D E B l κ x ad sc ar S 1 hM hw (Or.inr rfl)) rfl rfl sV_X7_168 hx rfl rfl (hO) ⟨by decide, by decide⟩ ⟨by decide, by decide⟩ (Nat.le_of_ble_eq_true rfl) dX7_meanMark_52 ?_
    refine zs_top (v' := .int (nI (sp_mc S))) (by rw [mm_1]) ?_
    refine zs_if_neN (tgt := 62) hE (by omega) dX7_meanMark_55 (by decide) (fun h1 => ?_) (fun h1 => ?_)
    · refine zs_iconst (v := (nI 0)) hE dX7_meanMark_62 (by decide) ?_
      refine zs_put (v := .int (nI 0)) hE fl_X7_22 hx (Or.inl (show 500 ≤ κ x by omega)) (rfl) (rfl) (Nat.le_of_ble_eq_true rfl) dX7_meanMark_63 (fun H1 hp1 hz1 ho1 => ?_)
      have r5 := zs_pt.kept r5 (ho1 _ (cs_ne t5 t0 (by decide)))
      have r6 := zs_pt.kept r6 (ho1 _ (cs_ne t6 t0 (by decide)))
      have r7 := zs_pt.kept r7 (ho1 _ (cs_ne t7 t0 (by decide)))
      have r8 := zs_pt.kept r8 (ho1 _ (cs_ne t8 t0 (by decide)))
      have r9 := zs_pt.kept r9 (ho1 _ (cs_ne t9 t0 (by decide)))
      have r10 := zs_pt.kept r10 (ho1 _ (cs_ne t10 t0 (by decide)))
      have r11 := zs_pt.kept r11 (ho1 _ (cs_ne t11 t0 (by decide)))
      have r12 := zs_pt.kept r12 (ho1 _ (cs_ne t12 t0 (by decide)))
      have r13 := zs_pt.kept r13 (ho1 _ (cs_ne t13 t0 (by decide)))
      have r14 := zs_pt.kept r14 (ho1 _ (cs_ne t14 t0 (by decide)))
      have r15 := zs_pt.kept r15 (ho1 _ (cs_ne t15 t0 (by decide)))
      have r16 := zs_pt.kept r16 (ho1 _ (cs_ne t16 t0 (by decide)))
      have r17 := zs_pt.kept r17 (ho1 _ (cs_ne t17 t0 (by decide)))
      have r18 := zs_pt.kept r18 (ho1 _ (cs_ne t18 t0 (by decide)))
      have r19 := zs_pt.kept r19 (ho1 _ (cs_ne t19 t0 (by decide)))
      have r20 := zs_pt.kept r20 (ho1 _ (cs_ne t20 t0 (by decide)))
      have hp1 : zs_pt D x (.inr (7, [.int (nI (sc 0)), .int (nI (sc 1)), .int (nI (sc 2)), .int (nI (sc 3)), .int (nI 0), .ref (ad 5), .ref (ad 6), .ref (ad 7), .ref (ad 8), .ref (ad 9), .ref (ad 10), .ref (ad 11), .ref (ad 12), .ref (ad 13), .ref (ad 14), .ref (ad 15), .ref (ad 16), .ref (ad 17), .ref (ad 18), .ref (ad 19), .ref (ad 20)])) H1 := hp1
      have hO4 : md_O D E κ x ad (va_up sc 4 0) ar H1 := ⟨t0, hp1, t5, t6, t7, t8, t9, t10, t11, t12, t13, t14, t15, t16, t17, t18, t19, t20, r5, r6, r7, r8, r9, r10, r11, r12, r13, r14, r15, r16, r17, r18, r19, r20⟩
      refine zs_aload_n hE 2 dX7_meanMark_66 rfl rfl ?_
      refine zs_get hE fl_X7_22 hp1 rfl dX7_meanMark_67 ?_
      refine zs_if_leN (tgt := 77) hE (by decide) dX7_meanMark_70 (by decide) (fun h9 => ?_) (fun h9 => ?_)
      · refine zs_iload_n hE 1 dX7_meanMark_77 rfl rfl ?_
        refine zs_i2d hE dX7_meanMark_78 ?_
        refine zs_aload_n hE 2 dX7_meanMark_79 rfl rfl ?_
        refine zs_iconst (v := (nI 1)) hE dX7_meanMark_80 (by decide) ?_
        refine zs_callVR (av := [.int (nI 1)]) (st := [.double (FP.i2d (nI (sp_ms S)))]) (b := x) hE (m_X7_marksThere D E B l κ x ad (va_up sc 4 0) ar S 1 (mi_4 hM) hw (Or.inr rfl)) rfl rfl sV_X7_168 hp1 rfl rfl (hO4) ⟨by decide, by decide⟩ ⟨by decide, by decide⟩ (Nat.le_of_ble_eq_true rfl) dX7_meanMark_81 ?_
        refine zs_top (v' := .int (nI (sp_mc S))) (by rw [mm_1]) ?_
        refine zs_i2d hE dX7_meanMark_84 ?_
        refine zs_ddiv hE dX7_meanMark_85 (fl_mean (by omega) (by omega) (by omega)) ?_
        exact zs_dret hE hr (mg_mk Value.double (S' := S) (k := 0) (by rw [o_meanMark, pI_f (by omega)]) (by omega) (fun _ => rfl) hO4 (mi_4 hM)) (by decide) (by decide) dX7_meanMark_86
      · exact absurd h9 (by decide)
    · refine zs_iconst (v := (nI 1)) hE dX7_meanMark_58 (by decide) ?_
      refine zs_goto (tgt := 63) hE dX7_meanMark_59 (by decide) ?_
      refine zs_put (v := .int (nI 1)) hE fl_X7_22 hx (Or.inl (show 500 ≤ κ x by omega)) (rfl) (rfl) (Nat.le_of_ble_eq_true rfl) dX7_meanMark_63 (fun H2 hp2 hz2 ho2 => ?_)
      have r5 := zs_pt.kept r5 (ho2 _ (cs_ne t5 t0 (by decide)))
      have r6 := zs_pt.kept r6 (ho2 _ (cs_ne t6 t0 (by decide)))
      have r7 := zs_pt.kept r7 (ho2 _ (cs_ne t7 t0 (by decide)))
      have r8 := zs_pt.kept r8 (ho2 _ (cs_ne t8 t0 (by decide)))
      have r9 := zs_pt.kept r9 (ho2 _ (cs_ne t9 t0 (by decide)))
      have r10 := zs_pt.kept r10 (ho2 _ (cs_ne t10 t0 (by decide)))
      have r11 := zs_pt.kept r11 (ho2 _ (cs_ne t11 t0 (by decide)))
      have r12 := zs_pt.kept r12 (ho2 _ (cs_ne t12 t0 (by decide)))
      have r13 := zs_pt.kept r13 (ho2 _ (cs_ne t13 t0 (by decide)))
      have r14 := zs_pt.kept r14 (ho2 _ (cs_ne t14 t0 (by decide)))
      have r15 := zs_pt.kept r15 (ho2 _ (cs_ne t15 t0 (by decide)))
      have r16 := zs_pt.kept r16 (ho2 _ (cs_ne t16 t0 (by decide)))
      have r17 := zs_pt.kept r17 (ho2 _ (cs_ne t17 t0 (by decide)))
      have r18 := zs_pt.kept r18 (ho2 _ (cs_ne t18 t0 (by decide)))
      have r19 := zs_pt.kept r19 (ho2 _ (cs_ne t19 t0 (by decide)))
      have r20 := zs_pt.kept r20 (ho2 _ (cs_ne t20 t0 (by decide)))
      have hp2 : zs_pt D x (.inr (7, [.int (nI (sc 0)), .int (nI (sc 1)), .int (nI (sc 2)), .int (nI (sc 3)), .int (nI 1), .ref (ad 5), .ref (ad 6), .ref (ad 7), .ref (ad 8), .ref (ad 9), .ref (ad 10), .ref (ad 11), .ref (ad 12), .ref (ad 13), .ref (ad 14), .ref (ad 15), .ref (ad 16), .ref (ad 17), .ref (ad 18), .ref (ad 19), .ref (ad 20)])) H2 := hp2
      have hO4 : md_O D E κ x ad (va_up sc 4 1) ar H2 := ⟨t0, hp2, t5, t6, t7, t8, t9, t10, t11, t12, t13, t14, t15, t16, t17, t18, t19, t20, r5, r6, r7, r8, r9, r10, r11, r12, r13, r14, r15, r16, r17, r18, r19, r20⟩
      refine zs_aload_n hE 2 dX7_meanMark_66 rfl rfl ?_
      refine zs_get hE fl_X7_22 hp2 rfl dX7_meanMark_67 ?_
      refine zs_if_leN (tgt := 77) hE (by decide) dX7_meanMark_70 (by decide) (fun h9 => ?_) (fun h9 => ?_)
      · exact absurd h9 (by decide)
      · refine zs_dconst hE dX7_meanMark_73 ?_
        refine zs_goto (tgt := 86) hE dX7_meanMark_74 (by decide) ?_
        exact zs_dret hE hr (mg_mk Value.double (S' := S) (v := .null) (k := 1) (by rw [o_meanMark, pI_t h1]; rfl) (by omega) (fun w9 => by cases w9) hO4 (mi_4 hM)) (by decide) (by decide) dX7_meanMark_86
  · obtain ⟨e1, e2⟩ := mH.at h
    have b1 := mm_a1 S k0
    have b2 := sp_mkb wH (k0 / 5 % 6) (k0 / 5 / 6) (k0 % 5) (Nat.mod_lt _ (by decide))
    have w9 := ((wH (k0 / 5 % 6) (k0 / 5 / 6)).1 (k0 % 5)).2.1
    have ut : mm_s S k0 = sp_ct S (k0 / 5 % 6) (k0 / 5 / 6) (k0 % 5) - 1 := rfl
    have ua : mm_a S k0 = if sp_mk S (k0 / 5 % 6) (k0 / 5 / 6) (k0 % 5) ≠ 0 ∧ sp_ct S (k0 / 5 % 6) (k0 / 5 / 6) (k0 % 5) = 0 then 1 else 0 := rfl
    generalize sp_mk S (k0 / 5 % 6) (k0 / 5 / 6) (k0 % 5) = mk at *
    generalize sp_ct S (k0 / 5 % 6) (k0 / 5 / 6) (k0 % 5) = ct at *
    refine zs_iload_n hE 1 dX7_meanMark_10 rfl rfl ?_
    refine zs_aload_n hE 2 dX7_meanMark_11 rfl rfl ?_
    refine zs_get hE fl_X7_58 hx rfl dX7_meanMark_12 ?_
    refine zs_iload_n hE 0 dX7_meanMark_15 rfl rfl ?_
    refine zs_iald hE r15 (by omega) (by decide) dX7_meanMark_16 ?_
    refine zs_top (v' := .int (nI mk)) (by rw [e1]) ?_
    refine zs_if_leN (tgt := 40) hE (by omega) dX7_meanMark_17 (by decide) (fun h6 => ?_) (fun h6 => ?_)
    · refine zs_iconst (v := (nI 0)) hE dX7_meanMark_40 (by decide) ?_
      refine zs_iaddN hE dX7_meanMark_41 ?_
      refine zs_istore_n (lo' := [(1, .int (nI (sm (mm_s S) (k0) + 0))), (2, .int (nI k0)), (0, .ref x)]) hE dX7_meanMark_42 rfl (by decide) rfl ?_
      refine zs_iincN (lo' := [(2, .int (nI (k0 + 1))), (1, .int (nI (sm (mm_s S) (k0) + 0))), (0, .ref x)]) hE 1 dX7_meanMark_43 rfl (by decide) rfl ?_
      refine zs_goto (tgt := 4) hE dX7_meanMark_46 (by decide) ?_
      refine zs_sub (lo' := [(2, .int (nI (k0 + 1))), (1, .int (nI (sm (mm_s S) (k0) + 0))), (0, .ref x)]) [0, 1, 2] rfl ?_
      refine zs_lo (lo' := [(2, .int (nI (k0 + 1))), (1, .int (nI (sm (mm_s S) (k0 + 1)))), (0, .ref x)]) (by rw [show sm (mm_s S) (k0 + 1) = sm (mm_s S) k0 + mm_s S k0 from rfl, show mm_s S k0 = 0 by rw [ut]; omega]) ?_
      refine zs_sub (lo' := [(2, .int (nI (k0 + 1))), (1, .int (nI (sm (mm_s S) (k0 + 1)))), (0, .ref x)]) [0, 1, 2] rfl ?_
      exact ih (k0 + 1) (by omega) (by omega)
    · refine zs_aload_n hE 2 dX7_meanMark_20 rfl rfl ?_
      refine zs_get hE fl_X7_61 hx rfl dX7_meanMark_21 ?_
      refine zs_iload_n hE 0 dX7_meanMark_24 rfl rfl ?_
      refine zs_zald hE r16 (by omega) (by decide) dX7_meanMark_25 ?_
      refine zs_top (v' := .int (nI (mm_a S k0))) (by rw [e2]) ?_
      refine zs_if_neN (tgt := 40) hE (by omega) dX7_meanMark_26 (by decide) (fun h8 => ?_) (fun h8 => ?_)
      · refine zs_iconst (v := (nI 0)) hE dX7_meanMark_40 (by decide) ?_
        refine zs_iaddN hE dX7_meanMark_41 ?_
        refine zs_istore_n (lo' := [(1, .int (nI (sm (mm_s S) (k0) + 0))), (2, .int (nI k0)), (0, .ref x)]) hE dX7_meanMark_42 rfl (by decide) rfl ?_
        refine zs_iincN (lo' := [(2, .int (nI (k0 + 1))), (1, .int (nI (sm (mm_s S) (k0) + 0))), (0, .ref x)]) hE 1 dX7_meanMark_43 rfl (by decide) rfl ?_
        refine zs_goto (tgt := 4) hE dX7_meanMark_46 (by decide) ?_
        refine zs_sub (lo' := [(2, .int (nI (k0 + 1))), (1, .int (nI (sm (mm_s S) (k0) + 0))), (0, .ref x)]) [0, 1, 2] rfl ?_
        refine zs_lo (lo' := [(2, .int (nI (k0 + 1))), (1, .int (nI (sm (mm_s S) (k0 + 1)))), (0, .ref x)]) (by rw [show sm (mm_s S) (k0 + 1) = sm (mm_s S) k0 + mm_s S k0 from rfl, show mm_s S k0 = 0 by rw [ut]; have : ct = 0 := Classical.byContradiction fun z => by { rw [if_neg (fun y => z y.2)] at ua; omega }; omega]) ?_
        refine zs_sub (lo' := [(2, .int (nI (k0 + 1))), (1, .int (nI (sm (mm_s S) (k0 + 1)))), (0, .ref x)]) [0, 1, 2] rfl ?_
        exact ih (k0 + 1) (by omega) (by omega)
      · have hct : ct = mk := by rcases w9 with w9 | w9; exact w9; rw [if_pos ⟨by omega, w9⟩] at ua; omega
        refine zs_aload_n hE 2 dX7_meanMark_29 rfl rfl ?_
        refine zs_get hE fl_X7_58 hx rfl dX7_meanMark_30 ?_
        refine zs_iload_n hE 0 dX7_meanMark_33 rfl rfl ?_
        refine zs_iald hE r15 (by omega) (by decide) dX7_meanMark_34 ?_
        refine zs_top (v' := .int (nI mk)) (by rw [e1]) ?_
        refine zs_iconst (v := (nI 1)) hE dX7_meanMark_35 (by decide) ?_
        refine zs_isubN hE (by omega) dX7_meanMark_36 ?_
        refine zs_goto (tgt := 41) hE dX7_meanMark_37 (by decide) ?_
        refine zs_iaddN hE dX7_meanMark_41 ?_
        refine zs_istore_n (lo' := [(1, .int (nI (sm (mm_s S) (k0) + (mk - 1)))), (2, .int (nI k0)), (0, .ref x)]) hE dX7_meanMark_42 rfl (by decide) rfl ?_
        refine zs_iincN (lo' := [(2, .int (nI (k0 + 1))), (1, .int (nI (sm (mm_s S) (k0) + (mk - 1)))), (0, .ref x)]) hE 1 dX7_meanMark_43 rfl (by decide) rfl ?_
        refine zs_goto (tgt := 4) hE dX7_meanMark_46 (by decide) ?_
        refine zs_sub (lo' := [(2, .int (nI (k0 + 1))), (1, .int (nI (sm (mm_s S) (k0) + (mk - 1)))), (0, .ref x)]) [0, 1, 2] rfl ?_
        refine zs_lo (lo' := [(2, .int (nI (k0 + 1))), (1, .int (nI (sm (mm_s S) (k0 + 1)))), (0, .ref x)]) (by rw [show sm (mm_s S) (k0 + 1) = sm (mm_s S) k0 + mm_s S k0 from rfl, ut, hct]) ?_
        refine zs_sub (lo' := [(2, .int (nI (k0 + 1))), (1, .int (nI (sm (mm_s S) (k0 + 1)))), (0, .ref x)]) [0, 1, 2] rfl ?_
        exact ih (k0 + 1) (by omega) (by omega)


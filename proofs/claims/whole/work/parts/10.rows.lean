/-! rows and sheaves of the class: what the cells hold; κ a = 0: a cell that stays as it is -/
abbrev sp_R : Type := Nat × List Nat
abbrev sp_Sh : Type := List sp_R
def sp_rok (r : sp_R) : Prop := r.1 < 6 ∧ r.2.length ≤ 8 ∧ ∀ x ∈ r.2, x ≤ 99
abbrev sp_d0 : sp_R := (0, [])
def cs_row (D : va_G) (E : Nat → ClassId) (κ : Nat → Nat) (H : Heap) (a : Nat) (r : sp_R) : Prop := sp_rok r ∧ κ a = 0 ∧ ∃ na : Nat, κ na = 0 ∧ zs_pt D a (.inr (3, [.int (nI r.1), .ref na])) H ∧ zs_pt D na (.inl (E 0, r.2.length, .inl (fun j => nI (r.2.getD j 0)))) H
def cs_sh (D : va_G) (E : Nat → ClassId) (κ : Nat → Nat) (H : Heap) (a : Nat) (rs : sp_Sh) : Prop := rs.length ≤ 4 ∧ κ a = 0 ∧ ∃ (ha : Nat) (f : Nat → Option Nat), κ ha = 0 ∧ zs_pt D a (.inr (4, [.ref ha, .int (nI rs.length)])) H ∧ zs_pt D ha (.inl (E 10, 4, .inr (.inr (.inr (.inr f))))) H ∧ ∀ j, j < rs.length → ∃ b : Nat, f j = some b ∧ cs_row D E κ H b (rs.getD j sp_d0)
/-- the cells that stay as they are, stay -/
def cs_kp (κ : Nat → Nat) (H H1 : Heap) : Prop := ∀ q, q < H.size → κ q = 0 → H1[q]? = H[q]?
theorem cs_row.kept {D : va_G} {E : Nat → ClassId} {κ : Nat → Nat} {H H1 : Heap} {a : Nat} {r : sp_R} (h : cs_row D E κ H a r) (hk : cs_kp κ H H1) : cs_row D E κ H1 a r := by
  obtain ⟨h0, h1, na, h2, h3, h4⟩ := h
  exact ⟨h0, h1, na, h2, h3.kept (hk _ h3.lt h1), h4.kept (hk _ h4.lt h2)⟩
theorem cs_sh.kept {D : va_G} {E : Nat → ClassId} {κ : Nat → Nat} {H H1 : Heap} {a : Nat} {rs : sp_Sh} (h : cs_sh D E κ H a rs) (hk : cs_kp κ H H1) : cs_sh D E κ H1 a rs := by
  obtain ⟨h0, h1, ha, f, h2, h3, h4, h5⟩ := h
  exact ⟨h0, h1, ha, f, h2, h3.kept (hk _ h3.lt h1), h4.kept (hk _ h4.lt h2), fun j hj => (h5 j hj).imp fun b q => ⟨q.1, q.2.kept hk⟩⟩
theorem gd_out {α : Type} {l : List α} {j : Nat} {d : α} (h : l.length ≤ j) : l.getD j d = d := by simp [List.getD, List.getElem?_eq_none h]
theorem gd_mem {α : Type} {l : List α} {j : Nat} {d : α} (h : j < l.length) : l.getD j d ∈ l := by
  simp [List.getD, List.getElem?_eq_getElem h]
theorem gd_ext {α : Type} {l l' : List α} (d : α) (h : l.length = l'.length) (hj : ∀ j, j < l.length → l.getD j d = l'.getD j d) : l = l' := by
  apply List.ext_getElem? 
  intro j
  rcases Nat.lt_or_ge j l.length with q | q
  · have := hj j q
    simp [List.getD, List.getElem?_eq_getElem q, List.getElem?_eq_getElem (h ▸ q)] at this
    rw [List.getElem?_eq_getElem q, List.getElem?_eq_getElem (h ▸ q), this]
  · rw [List.getElem?_eq_none q, List.getElem?_eq_none (by omega)]
theorem gd_gt {l : List Nat} {c : Nat} (h : ∀ x ∈ l, x ≤ c) (j : Nat) : l.getD j 0 ≤ c := by
  rcases Nat.lt_or_ge j l.length with q | q
  · exact h _ (gd_mem q)
  · rw [gd_out q]; exact Nat.zero_le _
/-- the sum over a row -/
def sp_ns (l : List Nat) (s : Int64) : Nat → Int64
  | 0 => s
  | k + 1 => 31 * sp_ns l s k + lN (l.getD k 0)
def sp_rs (r : sp_R) (s : Int64) : Int64 := 31 * sp_ns r.2 (31 * s + lN r.1) r.2.length + 100
/-- the parts of a row, for some editors (as bits) -/
def sp_rp (ed : Nat) (r : sp_R) : Nat := if ed / 2 ^ r.1 % 2 = 1 then r.2.length + 1 else 0
theorem sp_bit0 : ∀ ed : Nat, ed < 64 → ∀ e : Nat, e < 6 → (nI ed >>> (nI e &&& 31)) &&& nI 1 = nI (ed / 2 ^ e % 2) := by decide +kernel
/-- an argument that is one of the numbers below n -/
def sp_i (x : Int32) (n : Nat) : Option Nat := if 0 ≤ x.toInt ∧ x.toInt < n then some x.toInt.toNat else none
theorem sp_i_in {j n : Nat} (h : j < n) (hn : n < 2 ^ 31) : sp_i (nI j) n = some j := by
  have e : (nI j).toInt = (j : Int) := nI_toInt (by omega)
  unfold sp_i
  rw [e, if_pos ⟨by omega, by omega⟩]
  simp
theorem sp_i_lo {x : Int32} {n : Nat} (h : x < 0) : sp_i x n = none := by
  have h2 : x.toInt < 0 := Int32.lt_iff_toInt_lt.mp h
  unfold sp_i
  rw [if_neg (by omega)]
theorem sp_i_hi {x : Int32} {n : Nat} (hn : n < 2 ^ 31) (h : nI n ≤ x) : sp_i x n = none := by
  have h2 := Int32.le_iff_toInt_le.mp h
  rw [nI_toInt hn] at h2
  unfold sp_i
  rw [if_neg (by omega)]
theorem sp_dec {x : Int32} {n : Nat} (hn : n < 2 ^ 31) (h1 : ¬ x < 0) (h2 : x < nI n) : ∃ j : Nat, j < n ∧ x = nI j := by
  rcases pk_ix x hn with h | h | h
  · exact absurd h h1
  · have := Int32.le_iff_toInt_le.mp h
    have := Int32.lt_iff_toInt_lt.mp h2
    omega
  · exact h
theorem sp_le_lt {x y : Int32} (h : ¬ y ≤ x) : x < y := by
  have : ¬ y.toInt ≤ x.toInt := fun q => h (Int32.le_iff_toInt_le.mpr q)
  exact Int32.lt_iff_toInt_lt.mpr (by omega)
theorem sp_nlt_le {x y : Int32} (h : ¬ x < y) : y ≤ x := by
  have : ¬ x.toInt < y.toInt := fun q => h (Int32.lt_iff_toInt_lt.mpr q)
  exact Int32.le_iff_toInt_le.mpr (by omega)
def sp_at (x : Int32) (n : Nat) (f : Nat → Option Nat) : Option Nat := (sp_i x n).bind f
/-- the sum over a sheaf, its parts, its notes -/
def sp_ss (rs : sp_Sh) (s : Int64) : Nat → Int64
  | 0 => s
  | k + 1 => sp_rs (rs.getD k sp_d0) (sp_ss rs s k)
def sp_sp (ed : Nat) (rs : sp_Sh) : Nat := sm (fun k => sp_rp ed (rs.getD k sp_d0)) rs.length
def sp_no (rs : sp_Sh) : Nat := sm (fun k => (rs.getD k sp_d0).2.length) rs.length
/-- rows alike, sheaves alike -/
def sp_al (a b : sp_Sh) : Prop := a.length = b.length ∧ ∀ j, j < a.length → (a.getD j sp_d0).2 = (b.getD j sp_d0).2
def sp_has (rs : sp_Sh) (r : sp_R) : Prop := ∃ j, j < rs.length ∧ (rs.getD j sp_d0).2 = r.2

set_option maxHeartbeats 4000000 in
set_option maxRecDepth 100000 in
theorem m_X3_init (D : va_G) (E : Nat → ClassId) (B : Nat) (l : Launch) (a na : Nat) (x : Int32) : zs_Ct D E B l yX3_init cX3_init 3 none ({ frames := 1, cells := 0, slots := 0, locals := 40 } : Room) [.ref a, .int x, .ref na] (fun H => zs_pt D a (.inr (3, [.int 0, .null])) H) (fun q => q = a) (fun v H H1 => v = none ∧ zs_pt D a (.inr (3, [.int x, .ref na])) H1 ∧ H1.size = H.size) := by
  refine zs_ct (by decide) (Nat.le_of_ble_eq_true rfl) (fun p e s m below meth c hE hr hin hp => ?_)
  refine zs_lo (lo' := [(0, .ref a), (1, .int x), (2, .ref na)]) rfl ?_
  refine zs_aload_n hE 0 dX3_init_0 rfl rfl ?_
  refine zs_objInit hE ol_X3_1 q_objI q_objC dX3_init_1 (by decide) (Nat.le_of_ble_eq_true rfl) (by decide) ?_
  refine zs_aload_n hE 0 dX3_init_4 rfl rfl ?_
  refine zs_iload_n hE 1 dX3_init_5 rfl rfl ?_
  refine zs_putF (v := .int x) hE (hin rfl) fl_X3_7 ⟨_, _, _, rfl, rfl⟩ hp (Or.inl rfl) (rfl) (rfl) (Nat.le_of_ble_eq_true rfl) dX3_init_6 (fun H1 hp1 hz1 ho1 => ?_)
  have hp1 : zs_pt D a (.inr (3, [.int x, .null])) H1 := hp1
  refine zs_aload_n hE 0 dX3_init_9 rfl rfl ?_
  refine zs_aload_n hE 2 dX3_init_10 rfl rfl ?_
  refine zs_putF (v := .ref na) hE (hin rfl) fl_X3_13 ⟨_, _, _, rfl, rfl⟩ hp1 (Or.inl rfl) (rfl) (rfl) (Nat.le_of_ble_eq_true rfl) dX3_init_11 (fun H2 hp2 hz2 ho2 => ?_)
  have hp2 : zs_pt D a (.inr (3, [.int x, .ref na])) H2 := hp2
  exact zs_vret hE hr (⟨rfl, hp2, hz2.trans hz1⟩) (by decide) (by decide) dX3_init_14

set_option maxHeartbeats 4000000 in
set_option maxRecDepth 100000 in
theorem m_X3_isLike (D : va_G) (E : Nat → ClassId) (B : Nat) (l : Launch) (κ : Nat → Nat) (a b : Nat) (r t : sp_R) : zs_Ct D E B l yX3_isLike cX3_isLike 3 (some .boolean) ({ frames := 0, cells := 0, slots := 0, locals := 0 } : Room) [.ref a, .ref b] (fun H => cs_row D E κ H a r ∧ cs_row D E κ H b t) (zs_N) (zs_ro (.int (zs_b (r.2 = t.2)))) := by
  refine zs_ct (by decide) (Nat.le_of_ble_eq_true rfl) (fun p e s m below meth c hE hr hin hp => ?_)
  refine zs_lo (lo' := [(0, .ref a), (1, .ref b)]) rfl ?_
  obtain ⟨ra, rb⟩ := hp
  obtain ⟨⟨x0, x1, x2⟩, x3, xn, x4, x5, x6⟩ := ra
  obtain ⟨⟨y0, y1, y2⟩, y3, yn, y4, y5, y6⟩ := rb
  refine zs_aload_n hE 1 dX3_isLike_0 rfl rfl ?_
  refine zs_ifnullR hE dX3_isLike_1 ?_
  refine zs_aload_n hE 1 dX3_isLike_4 rfl rfl ?_
  refine zs_get hE fl_X3_13 y5 rfl dX3_isLike_5 ?_
  refine zs_alen hE y6 rfl dX3_isLike_8 ?_
  refine zs_aload_n hE 0 dX3_isLike_9 rfl rfl ?_
  refine zs_get hE fl_X3_13 x5 rfl dX3_isLike_10 ?_
  refine zs_alen hE x6 rfl dX3_isLike_13 ?_
  refine zs_icmp_eqN (tgt := 19) hE (by omega) (by omega) dX3_isLike_14 (by decide) (fun h => ?_) (fun h => ?_)
  · refine zs_iconst (v := (nI 0)) hE dX3_isLike_19 (by decide) ?_
    refine zs_istore_n (lo' := [(2, .int (nI 0)), (0, .ref a), (1, .ref b)]) hE dX3_isLike_20 rfl (by decide) rfl ?_
    refine zs_sub (lo' := [(2, .int (nI 0)), (0, .ref a), (1, .ref b)]) [0, 1, 2] rfl ?_
    refine zs_ind1 (Hs := fun (i : Nat) => s.heap) (ks := fun (i : Nat) => 0) (ns := fun (i : Nat) => 0) (los := fun (i : Nat) => [(2, .int (nI i)), (0, .ref a), (1, .ref b)]) (I := fun (i : Nat) => i ≤ r.2.length ∧ ∀ j, j < i → r.2.getD j 0 = t.2.getD j 0) (μ := fun (i : Nat) => r.2.length - i) 0 (⟨Nat.zero_le _, fun j hj => absurd hj (Nat.not_lt_zero _)⟩) (fun i hi ih => ?_)
    try dsimp only at hi ih ⊢
    refine zs_iload_n hE 0 dX3_isLike_21 rfl rfl ?_
    refine zs_aload_n hE 1 dX3_isLike_22 rfl rfl ?_
    refine zs_get hE fl_X3_13 x5 rfl dX3_isLike_23 ?_
    refine zs_alen hE x6 rfl dX3_isLike_26 ?_
    refine zs_icmp_geN (tgt := 53) hE (by omega) (by omega) dX3_isLike_27 (by decide) (fun h2 => ?_) (fun h2 => ?_)
    · refine zs_iconst (v := (nI 1)) hE dX3_isLike_53 (by decide) ?_
      refine zs_top (v' := .int (zs_b (r.2 = t.2))) (by rw [zs_b1 (gd_ext 0 h.symm (fun j hj => hi.2 j (by omega)))]; rfl) ?_
      exact zs_zret hE hr (zs_bnar _) (⟨rfl, rfl⟩) (by decide) (by decide) dX3_isLike_54
    · have hn : t.2.length = r.2.length := h
      refine zs_aload_n hE 1 dX3_isLike_30 rfl rfl ?_
      refine zs_get hE fl_X3_13 x5 rfl dX3_isLike_31 ?_
      refine zs_iload_n hE 0 dX3_isLike_34 rfl rfl ?_
      refine zs_iald hE x6 (by omega) (by omega) dX3_isLike_35 ?_
      refine zs_aload_n hE 2 dX3_isLike_36 rfl rfl ?_
      refine zs_get hE fl_X3_13 y5 rfl dX3_isLike_37 ?_
      refine zs_iload_n hE 0 dX3_isLike_40 rfl rfl ?_
      refine zs_iald hE y6 (by omega) (by omega) dX3_isLike_41 ?_
      refine zs_icmp_eqN (tgt := 47) hE (Nat.lt_of_le_of_lt (gd_gt x2 i) (by decide)) (Nat.lt_of_le_of_lt (gd_gt y2 i) (by decide)) dX3_isLike_42 (by decide) (fun h3 => ?_) (fun h3 => ?_)
      · refine zs_iincN (lo' := [(2, .int (nI (i + 1))), (0, .ref a), (1, .ref b)]) hE 0 dX3_isLike_47 rfl (by decide) rfl ?_
        refine zs_goto (tgt := 21) hE dX3_isLike_50 (by decide) ?_
        refine zs_sub (lo' := [(2, .int (nI (i + 1))), (0, .ref a), (1, .ref b)]) [0, 1, 2] rfl ?_
        exact ih (i + 1) (⟨by omega, fun j hj => by rcases Nat.lt_or_ge j i with q | q; exact hi.2 j q; rw [show j = i by omega]; exact h3⟩) (by omega)
      · refine zs_iconst (v := (nI 0)) hE dX3_isLike_45 (by decide) ?_
        refine zs_top (v' := .int (zs_b (r.2 = t.2))) (by rw [zs_b0 (fun e => h3 (by rw [e]))]; rfl) ?_
        exact zs_zret hE hr (zs_bnar _) (⟨rfl, rfl⟩) (by decide) (by decide) dX3_isLike_46
  · refine zs_iconst (v := (nI 0)) hE dX3_isLike_17 (by decide) ?_
    refine zs_top (v' := .int (zs_b (r.2 = t.2))) (by rw [zs_b0 (fun e => h (by rw [e]))]; rfl) ?_
    exact zs_zret hE hr (zs_bnar _) (⟨rfl, rfl⟩) (by decide) (by decide) dX3_isLike_18

set_option maxHeartbeats 4000000 in
set_option maxRecDepth 100000 in
theorem m_X3_partsBy (D : va_G) (E : Nat → ClassId) (B : Nat) (l : Launch) (κ : Nat → Nat) (a ed : Nat) (r : sp_R) (hed : ed < 64) : zs_Ct D E B l yX3_partsBy cX3_partsBy 2 (some .int) ({ frames := 0, cells := 0, slots := 0, locals := 0 } : Room) [.ref a, .int (nI ed)] (fun H => cs_row D E κ H a r) (zs_N) (zs_ro (.int (nI (sp_rp ed r)))) := by
  refine zs_ct (by decide) (Nat.le_of_ble_eq_true rfl) (fun p e s m below meth c hE hr hin hp => ?_)
  refine zs_lo (lo' := [(0, .ref a), (1, .int (nI ed))]) rfl ?_
  obtain ⟨⟨x0, x1, x2⟩, x3, xn, x4, x5, x6⟩ := hp
  refine zs_iload_n hE 1 dX3_partsBy_0 rfl rfl ?_
  refine zs_aload_n hE 0 dX3_partsBy_1 rfl rfl ?_
  refine zs_get hE fl_X3_7 x5 rfl dX3_partsBy_2 ?_
  refine zs_ishr hE dX3_partsBy_5 ?_
  refine zs_iconst (v := (nI 1)) hE dX3_partsBy_6 (by decide) ?_
  refine zs_iand hE dX3_partsBy_7 ?_
  refine zs_top (v' := .int (nI (ed / 2 ^ r.1 % 2))) (by rw [sp_bit0 ed hed r.1 x0]) ?_
  refine zs_iconst (v := (nI 1)) hE dX3_partsBy_8 (by decide) ?_
  refine zs_icmp_neN (tgt := 22) hE (Nat.lt_trans (Nat.mod_lt _ (by decide)) (by decide)) (by decide) dX3_partsBy_9 (by decide) (fun h => ?_) (fun h => ?_)
  · refine zs_iconst (v := (nI 0)) hE dX3_partsBy_22 (by decide) ?_
    refine zs_top (v' := .int (nI (sp_rp ed r))) (by rw [sp_rp, if_neg (fun e => h e)]) ?_
    exact zs_iret hE hr (⟨rfl, rfl⟩) (by decide) (by decide) dX3_partsBy_23
  · refine zs_aload_n hE 0 dX3_partsBy_12 rfl rfl ?_
    refine zs_get hE fl_X3_13 x5 rfl dX3_partsBy_13 ?_
    refine zs_alen hE x6 rfl dX3_partsBy_16 ?_
    refine zs_iconst (v := (nI 1)) hE dX3_partsBy_17 (by decide) ?_
    refine zs_iaddN hE dX3_partsBy_18 ?_
    refine zs_goto (tgt := 23) hE dX3_partsBy_19 (by decide) ?_
    refine zs_top (v' := .int (nI (sp_rp ed r))) (by rw [sp_rp, if_pos h]) ?_
    exact zs_iret hE hr (⟨rfl, rfl⟩) (by decide) (by decide) dX3_partsBy_23

set_option maxHeartbeats 4000000 in
set_option maxRecDepth 100000 in
theorem m_X3_sumOnto (D : va_G) (E : Nat → ClassId) (B : Nat) (l : Launch) (κ : Nat → Nat) (a : Nat) (x : Int64) (r : sp_R) : zs_Ct D E B l yX3_sumOnto cX3_sumOnto 9 (some .long) ({ frames := 0, cells := 0, slots := 0, locals := 0 } : Room) [.ref a, .long x] (fun H => cs_row D E κ H a r) (zs_N) (zs_ro (.long (sp_rs r x))) := by
  refine zs_ct (by decide) (Nat.le_of_ble_eq_true rfl) (fun p e s m below meth c hE hr hin hp => ?_)
  refine zs_lo (lo' := [(0, .ref a), (1, .long x)]) rfl ?_
  obtain ⟨⟨x0, x1, x2⟩, x3, xn, x4, x5, x6⟩ := hp
  refine zs_ldc2 hE k_X3_17 dX3_sumOnto_0 ?_
  refine zs_lload_n hE 1 dX3_sumOnto_3 rfl rfl ?_
  refine zs_lmul hE dX3_sumOnto_4 ?_
  refine zs_aload_n hE 0 dX3_sumOnto_5 rfl rfl ?_
  refine zs_get hE fl_X3_7 x5 rfl dX3_sumOnto_6 ?_
  refine zs_i2l hE dX3_sumOnto_9 ?_
  refine zs_top (v' := .long (lN r.1)) (by rw [nI_l (by omega)]) ?_
  refine zs_ladd hE dX3_sumOnto_10 ?_
  refine zs_lstore_n (lo' := [(3, .long (((31 : Int64) * x) + (lN r.1))), (0, .ref a), (1, .long x)]) hE dX3_sumOnto_11 rfl (by decide) rfl ?_
  refine zs_aload_n hE 1 dX3_sumOnto_12 rfl rfl ?_
  refine zs_get hE fl_X3_13 x5 rfl dX3_sumOnto_13 ?_
  refine zs_astore (lo' := [(5, .ref xn), (3, .long (((31 : Int64) * x) + (lN r.1))), (0, .ref a), (1, .long x)]) hE dX3_sumOnto_16 (by decide) rfl ?_
  refine zs_aload hE 0 dX3_sumOnto_18 rfl ?_
  refine zs_alen hE x6 rfl dX3_sumOnto_20 ?_
  refine zs_istore (lo' := [(6, .int (nI r.2.length)), (5, .ref xn), (3, .long (((31 : Int64) * x) + (lN r.1))), (0, .ref a), (1, .long x)]) hE dX3_sumOnto_21 (by decide) rfl ?_
  refine zs_iconst (v := (nI 0)) hE dX3_sumOnto_23 (by decide) ?_
  refine zs_istore (lo' := [(7, .int (nI 0)), (6, .int (nI r.2.length)), (5, .ref xn), (3, .long (((31 : Int64) * x) + (lN r.1))), (0, .ref a), (1, .long x)]) hE dX3_sumOnto_24 (by decide) rfl ?_
  refine zs_sub (lo' := [(7, .int (nI 0)), (6, .int (nI r.2.length)), (5, .ref xn), (3, .long (((31 : Int64) * x) + (lN r.1))), (0, .ref a)]) [0, 1, 2, 3, 4] rfl ?_
  refine zs_ind1 (Hs := fun (i : Nat) => s.heap) (ks := fun (i : Nat) => 0) (ns := fun (i : Nat) => 0) (los := fun (i : Nat) => [(7, .int (nI i)), (6, .int (nI r.2.length)), (5, .ref xn), (3, .long (sp_ns r.2 (31 * x + lN r.1) i)), (0, .ref a)]) (I := fun (i : Nat) => i ≤ r.2.length) (μ := fun (i : Nat) => r.2.length - i) 0 (Nat.zero_le _) (fun i hi ih => ?_)
  try dsimp only at hi ih ⊢
  refine zs_iload hE 0 dX3_sumOnto_26 rfl ?_
  refine zs_iload hE 1 dX3_sumOnto_28 rfl ?_
  refine zs_icmp_geN (tgt := 56) hE (by omega) (by omega) dX3_sumOnto_30 (by decide) (fun h => ?_) (fun h => ?_)
  · refine zs_ldc2 hE k_X3_17 dX3_sumOnto_56 ?_
    refine zs_lload_n hE 3 dX3_sumOnto_59 rfl rfl ?_
    refine zs_lmul hE dX3_sumOnto_60 ?_
    refine zs_ldc2 hE k_X3_19 dX3_sumOnto_61 ?_
    refine zs_ladd hE dX3_sumOnto_64 ?_
    refine zs_top (v' := .long (sp_rs r x)) (by rw [show i = r.2.length by omega]; rfl) ?_
    exact zs_lret hE hr (⟨rfl, rfl⟩) (by decide) (by decide) dX3_sumOnto_65
  · refine zs_aload hE 2 dX3_sumOnto_33 rfl ?_
    refine zs_iload hE 0 dX3_sumOnto_35 rfl ?_
    refine zs_iald hE x6 (by omega) (by omega) dX3_sumOnto_37 ?_
    refine zs_istore (lo' := [(8, .int (nI (r.2.getD i 0))), (7, .int (nI i)), (6, .int (nI r.2.length)), (5, .ref xn), (3, .long (sp_ns r.2 (31 * x + lN r.1) i)), (0, .ref a)]) hE dX3_sumOnto_38 (by decide) rfl ?_
    refine zs_ldc2 hE k_X3_17 dX3_sumOnto_40 ?_
    refine zs_lload_n hE 4 dX3_sumOnto_43 rfl rfl ?_
    refine zs_lmul hE dX3_sumOnto_44 ?_
    refine zs_iload hE 0 dX3_sumOnto_45 rfl ?_
    refine zs_i2l hE dX3_sumOnto_47 ?_
    refine zs_top (v' := .long (lN (r.2.getD i 0))) (by rw [nI_l (Nat.lt_of_le_of_lt (gd_gt x2 i) (by decide))]) ?_
    refine zs_ladd hE dX3_sumOnto_48 ?_
    refine zs_top (v' := .long (sp_ns r.2 (31 * x + lN r.1) (i + 1))) (rfl) ?_
    refine zs_lstore_n (lo' := [(3, .long (sp_ns r.2 (31 * x + lN r.1) (i + 1))), (8, .int (nI (r.2.getD i 0))), (7, .int (nI i)), (6, .int (nI r.2.length)), (5, .ref xn), (0, .ref a)]) hE dX3_sumOnto_49 rfl (by decide) rfl ?_
    refine zs_iincN (lo' := [(7, .int (nI (i + 1))), (3, .long (sp_ns r.2 (31 * x + lN r.1) (i + 1))), (8, .int (nI (r.2.getD i 0))), (6, .int (nI r.2.length)), (5, .ref xn), (0, .ref a)]) hE 2 dX3_sumOnto_50 rfl (by decide) rfl ?_
    refine zs_goto (tgt := 26) hE dX3_sumOnto_53 (by decide) ?_
    refine zs_sub (lo' := [(7, .int (nI (i + 1))), (6, .int (nI r.2.length)), (5, .ref xn), (3, .long (sp_ns r.2 (31 * x + lN r.1) (i + 1))), (0, .ref a)]) [0, 3, 4, 1, 5] rfl ?_
    exact ih (i + 1) (by omega) (by omega)

set_option maxHeartbeats 4000000 in
set_option maxRecDepth 100000 in
theorem m_X4_init (D : va_G) (E : Nat → ClassId) (B : Nat) (l : Launch) (a : Nat) : zs_Ct D E B l yX4_init cX4_init 1 none ({ frames := 1, cells := 1, slots := 4, locals := 40 } : Room) [.ref a] (fun H => zs_pt D a (.inr (4, [.null, .int 0])) H) (fun q => q = a) (fun v H H1 => v = none ∧ ∃ ha : Nat, H.size = ha ∧ H1.size = ha + 1 ∧ zs_pt D a (.inr (4, [.ref ha, .int (nI 0)])) H1 ∧ zs_pt D ha (.inl (E 10, 4, .inr (.inr (.inr (.inr (fun _ => none)))))) H1) := by
  refine zs_ct (by decide) (Nat.le_of_ble_eq_true rfl) (fun p e s m below meth c hE hr hin hp => ?_)
  refine zs_lo (lo' := [(0, .ref a)]) rfl ?_
  refine zs_aload_n hE 0 dX4_init_0 rfl rfl ?_
  refine zs_objInit hE ol_X4_3 q_objI q_objC dX4_init_1 (by decide) (Nat.le_of_ble_eq_true rfl) (by decide) ?_
  refine zs_aload_n hE 0 dX4_init_4 rfl rfl ?_
  refine zs_iconst (v := (nI 4)) hE dX4_init_5 (by decide) ?_
  refine zs_newq (t := 10) hE al_X4_9 rfl (by decide) (by decide) (by decide) (by decide) dX4_init_6 (fun q1 H1 hq1 hp1 hz1 ho1 => ?_)
  refine zs_widen (k' := 1) (n' := 4) (by omega) (by omega) ?_
  have ne2 : a ≠ q1 := by have := zs_pt.lt hp; omega
  have hp := zs_pt.kept hp (ho1 _ (zs_pt.lt hp))
  refine zs_putF (v := .ref q1) hE (hin rfl) fl_X4_11 ⟨_, _, _, rfl, rfl⟩ hp (Or.inl rfl) (rfl) (rfl) (Nat.le_of_ble_eq_true rfl) dX4_init_9 (fun H3 hp3 hz3 ho3 => ?_)
  have hp1 := zs_pt.kept hp1 (ho3 _ ne2.symm)
  have hp3 : zs_pt D a (.inr (4, [.ref q1, .int 0])) H3 := hp3
  exact zs_vret hE hr (⟨rfl, q1, hq1.symm, by omega, hp3, hp1⟩) (by decide) (by decide) dX4_init_12


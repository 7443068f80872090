/-! prizes -/
theorem nI_mi {a : Nat} (h : a < 2 ^ 31) : (nI a - 1).toInt = (a : Int) - 1 := by
  rcases Nat.eq_zero_or_pos a with z | z
  · subst z; rfl
  · rw [nI_m2 z, nI_toInt (by omega)]; omega
theorem nI_mle {a b : Nat} (ha : a < 2 ^ 31) (hb : b < 2 ^ 31) : nI a - 1 ≤ nI b - 1 ↔ a ≤ b := by
  rw [Int32.le_iff_toInt_le, nI_mi ha, nI_mi hb]; omega
/-- parts of a prize: W, the parts of each editor; al: of all -/
def pz_lt (W : Nat → Nat) (al co : Nat) (a b : Nat) : Prop := co * W b % al < co * W a % al ∨ (co * W a % al = co * W b % al ∧ a < b)
noncomputable def pz_o (W : Nat → Nat) (al co e : Nat) : Nat := od_r (pz_lt W al co) 6 e
def pz_b (W : Nat → Nat) (al co : Nat) : Nat → Nat := sm (fun e => co * W e / al)
noncomputable def pz_sh (W : Nat → Nat) (al co e : Nat) : Nat := co * W e / al + pI (pz_o W al co e < co - pz_b W al co 6) 1 0
theorem pz_ir (W : Nat → Nat) (al co : Nat) : ∀ i, ¬ pz_lt W al co i i := fun i h => by unfold pz_lt at h; omega
theorem pz_tr (W : Nat → Nat) (al co : Nat) : ∀ i j k, pz_lt W al co i j → pz_lt W al co j k → pz_lt W al co i k := fun i j k h1 h2 => by unfold pz_lt at *; omega
theorem pz_to (W : Nat → Nat) (al co : Nat) : ∀ i j, i ≠ j → pz_lt W al co i j ∨ pz_lt W al co j i := fun i j h => by unfold pz_lt; omega
theorem sm_add (f g : Nat → Nat) : ∀ n, sm (fun k => f k + g k) n = sm f n + sm g n
  | 0 => rfl
  | n + 1 => by
    show sm _ n + (f n + g n) = sm f n + f n + (sm g n + g n)
    rw [sm_add f g n]; omega
theorem sm_mul (c : Nat) (f : Nat → Nat) : ∀ n, sm (fun k => c * f k) n = c * sm f n
  | 0 => rfl
  | n + 1 => by
    show sm _ n + c * f n = c * (sm f n + f n)
    rw [sm_mul c f n, Nat.mul_add]
theorem sm_zero : ∀ {f : Nat → Nat} {n : Nat}, (∀ j, j < n → f j = 0) → sm f n = 0
  | _, 0, _ => rfl
  | f, n + 1, h => by show sm f n + f n = 0; rw [sm_zero (fun j hj => h j (by omega)), h n (by omega)]
theorem sm_one {f : Nat → Nat} {i : Nat} : ∀ {n : Nat}, i < n → (∀ j, j < n → f j = if j = i then 1 else 0) → sm f n = 1
  | 0, h, _ => absurd h (Nat.not_lt_zero _)
  | n + 1, hi, h => by
    show sm f n + f n = 1
    rcases Nat.lt_or_ge i n with q | q
    · rw [sm_one q (fun j hj => h j (by omega)), h n (by omega), if_neg (by omega)]
    · rw [sm_zero (fun j hj => by rw [h j (by omega), if_neg (by omega)]), h n (by omega), if_pos (by omega)]
/-- of a permutation below n, just L have an image below L -/
theorem sm_cnt {n : Nat} {f : Nat → Nat} (hb : ∀ i, i < n → f i < n) (hi : ∀ i j, i < n → j < n → f i = f j → i = j) : ∀ L, L ≤ n → sm (fun e => pI (f e < L) 1 0) n = L
  | 0, _ => sm_zero (fun j _ => pI_f (Nat.not_lt_zero _))
  | L + 1, h => by
    obtain ⟨i, h1, h2⟩ := pg_on n f hb hi L h
    rw [sm_congr (g := fun e => pI (f e < L) 1 0 + pI (f e = L) 1 0) (fun j hj => ?_), sm_add, sm_cnt hb hi L (by omega), sm_one h1 (fun j hj => ?_)]
    · by_cases q : j = i
      · rw [if_pos q, q, pI_t h2]
      · rw [if_neg q, pI_f (fun w => q (hi j i hj h1 (w.trans h2.symm)))]
    · by_cases q : f j < L
      · rw [pI_t q, pI_t (show f j < L + 1 by omega), pI_f (show ¬ f j = L by omega)]
      · by_cases w : f j = L
        · rw [pI_f q, pI_t (show f j < L + 1 by omega), pI_t w]
        · rw [pI_f q, pI_f (show ¬ f j < L + 1 by omega), pI_f w]
theorem pz_sum {W : Nat → Nat} {al co : Nat} (h : sm W 6 = al) (h0 : 0 < al) : co = pz_b W al co 6 + (co - pz_b W al co 6) ∧ co - pz_b W al co 6 < 6 := by
  have e1 : sm (fun e => al * (co * W e / al) + co * W e % al) 6 = co * al := by
    rw [sm_congr (g := fun e => co * W e) (fun j _ => Nat.div_add_mod _ _), sm_mul, h]
  rw [sm_add, sm_mul] at e1
  have e2 : sm (fun e => co * W e % al) 6 ≤ (al - 1) * 6 := sm_le (fun j _ => Nat.le_sub_one_of_lt (Nat.mod_lt _ h0))
  have e1 : al * pz_b W al co 6 + sm (fun e => co * W e % al) 6 = co * al := e1
  generalize sm (fun e => co * W e % al) 6 = x at *
  generalize pz_b W al co 6 = y at *
  have e3 : al * y ≤ al * co := by rw [Nat.mul_comm al co]; omega
  have e4 := Nat.le_of_mul_le_mul_left e3 h0
  obtain ⟨d, rfl⟩ := Nat.exists_eq_add_of_le e4
  rw [Nat.add_mul, Nat.mul_comm al y] at e1
  have e5 : d * al < 6 * al := by omega
  have e6 := Nat.lt_of_mul_lt_mul_right e5
  omega
/-- the shares make up the prize -/
theorem pz_all {W : Nat → Nat} {al co : Nat} (h : sm W 6 = al) (h0 : 0 < al) : sm (pz_sh W al co) 6 = co := by
  obtain ⟨h1, h2⟩ := pz_sum (co := co) h h0
  show sm (fun e => co * W e / al + pI (pz_o W al co e < co - pz_b W al co 6) 1 0) 6 = co
  rw [sm_add, sm_cnt (f := pz_o W al co) (fun i hi => od_bd (pz_ir W al co) hi) (fun i j hi hj q => od_inj (pz_ir W al co) (pz_tr W al co) (pz_to W al co) hi hj q) _ (by omega)]
  exact h1.symm
/-- the rests after k coins, one greater -/
noncomputable def pz_r (W : Nat → Nat) (al co k e : Nat) : Nat := pI (pz_o W al co e < k) 0 (co * W e % al + 1)
theorem pz_best {W : Nat → Nat} {al co k b : Nat} (hk : k < 6) (hb : b < 6) (h1 : ∀ j, j < 6 → pz_r W al co k j ≤ pz_r W al co k b) (h2 : ∀ j, j < b → pz_r W al co k j < pz_r W al co k b) : pz_o W al co b = k := by
  obtain ⟨i, hi, e⟩ := od_on (pz_ir W al co) (pz_tr W al co) (pz_to W al co) k hk
  have e : pz_o W al co i = k := e
  have a1 := h1 i hi
  have a2 : pz_r W al co k i = co * W i % al + 1 := by rw [pz_r, pI_f (by omega)]
  have nb : ¬ pz_o W al co b < k := fun q => by
    have : pz_r W al co k b = 0 := by rw [pz_r, pI_t q]
    omega
  have a3 : pz_r W al co k b = co * W b % al + 1 := by rw [pz_r, pI_f nb]
  apply Classical.byContradiction
  intro q
  have hlt : pz_lt W al co i b := (od_iff (pz_ir W al co) (pz_tr W al co) (pz_to W al co) hi hb).mpr (show pz_o W al co i < pz_o W al co b by omega)
  unfold pz_lt at hlt
  rcases hlt with w | ⟨w1, w2⟩
  · omega
  · have := h2 i w2; omega

set_option maxHeartbeats 4000000 in
set_option maxRecDepth 100000 in
theorem m_X2_init (D : va_G) (E : Nat → ClassId) (B : Nat) (l : Launch) (a n : Nat) (y : Int32) : zs_Ct D E B l yX2_init cX2_init 3 none ({ frames := 1, cells := 1, slots := 6, locals := 40 } : Room) [.ref a, .int (nI n), .int y] (fun H => zs_pt D a (.inr (2, [.int 0, .int 0, .null])) H) (fun q => q = a) (fun v H H1 => v = none ∧ ∃ g : Nat, g = H.size ∧ H1.size = H.size + 1 ∧ zs_pt D a (.inr (2, [.int (nI n), .int y, .ref g])) H1 ∧ zs_pt D g (.inl (E 0, 6, .inl (fun _ => 0))) H1) := by
  refine zs_ct (by decide) (Nat.le_of_ble_eq_true rfl) (fun p e s m below meth c hE hr hin hp => ?_)
  refine zs_lo (lo' := [(0, .ref a), (1, .int (nI n)), (2, .int y)]) rfl ?_
  refine zs_aload_n hE 0 dX2_init_0 rfl rfl ?_
  refine zs_objInit hE ol_X2_3 q_objI q_objC dX2_init_1 (by decide) (Nat.le_of_ble_eq_true rfl) (by decide) ?_
  refine zs_aload_n hE 0 dX2_init_4 rfl rfl ?_
  refine zs_bipush (v := (nI 6)) hE dX2_init_5 (by decide) ?_
  refine zs_newi hE q_arr_int (by decide) (by decide) (by decide) dX2_init_7 (fun q1 H1 hq1 hp1 hz1 ho1 => ?_)
  refine zs_widen (k' := 1) (n' := 6) (by omega) (by omega) ?_
  have ne2 : a ≠ q1 := by have := zs_pt.lt hp; omega
  have hp := zs_pt.kept hp (ho1 _ (zs_pt.lt hp))
  refine zs_putF (v := .ref q1) hE (hin rfl) fl_X2_9 ⟨_, _, _, rfl, rfl⟩ hp (Or.inl rfl) (rfl) (rfl) (Nat.le_of_ble_eq_true rfl) dX2_init_9 (fun H3 hp3 hz3 ho3 => ?_)
  have hp1 := zs_pt.kept hp1 (ho3 _ ne2.symm)
  have hp3 : zs_pt D a (.inr (2, [.int 0, .int 0, .ref q1])) H3 := hp3
  refine zs_aload_n hE 0 dX2_init_12 rfl rfl ?_
  refine zs_iload_n hE 1 dX2_init_13 rfl rfl ?_
  refine zs_putF (v := .int (nI n)) hE (hin rfl) fl_X2_15 ⟨_, _, _, rfl, rfl⟩ hp3 (Or.inl rfl) (rfl) (rfl) (Nat.le_of_ble_eq_true rfl) dX2_init_14 (fun H4 hp4 hz4 ho4 => ?_)
  have hp1 := zs_pt.kept hp1 (ho4 _ ne2.symm)
  have hp4 : zs_pt D a (.inr (2, [.int (nI n), .int 0, .ref q1])) H4 := hp4
  refine zs_aload_n hE 0 dX2_init_17 rfl rfl ?_
  refine zs_iload_n hE 2 dX2_init_18 rfl rfl ?_
  refine zs_putF (v := .int y) hE (hin rfl) fl_X2_19 ⟨_, _, _, rfl, rfl⟩ hp4 (Or.inl rfl) (rfl) (rfl) (Nat.le_of_ble_eq_true rfl) dX2_init_19 (fun H5 hp5 hz5 ho5 => ?_)
  have hp1 := zs_pt.kept hp1 (ho5 _ ne2.symm)
  have hp5 : zs_pt D a (.inr (2, [.int (nI n), .int y, .ref q1])) H5 := hp5
  exact zs_vret hE hr (⟨rfl, q1, by omega, by omega, hp5, hp1⟩) (by decide) (by decide) dX2_init_22

set_option maxHeartbeats 4000000 in
set_option maxRecDepth 100000 in
theorem m_X2_greatestOf (D : va_G) (E : Nat → ClassId) (B : Nat) (l : Launch) (a : Nat) (g : Nat → Nat) (hg : ∀ j, j < 6 → g j < 2 ^ 30) : zs_Ct D E B l yX2_greatestOf cX2_greatestOf 3 (some .int) ({ frames := 0, cells := 0, slots := 0, locals := 0 } : Room) [.ref a] (fun H => zs_pt D a (.inl (E 0, 6, .inl (fun j => nI (g j) - 1))) H) (zs_N) (fun v H H1 => H1 = H ∧ ∃ b, v = some (.int (nI b)) ∧ b < 6 ∧ (∀ j, j < 6 → g j ≤ g b) ∧ ∀ j, j < b → g j < g b) := by
  refine zs_ct (by decide) (Nat.le_of_ble_eq_true rfl) (fun p e s m below meth c hE hr hin hp => ?_)
  refine zs_lo (lo' := [(0, .ref a)]) rfl ?_
  refine zs_iconst (v := (nI 0)) hE dX2_greatestOf_0 (by decide) ?_
  refine zs_istore_n (lo' := [(1, .int (nI 0)), (0, .ref a)]) hE dX2_greatestOf_1 rfl (by decide) rfl ?_
  refine zs_iconst (v := (nI 1)) hE dX2_greatestOf_2 (by decide) ?_
  refine zs_istore_n (lo' := [(2, .int (nI 1)), (1, .int (nI 0)), (0, .ref a)]) hE dX2_greatestOf_3 rfl (by decide) rfl ?_
  refine zs_sub (lo' := [(2, .int (nI 1)), (1, .int (nI 0)), (0, .ref a)]) [0, 1, 2] rfl ?_
  refine zs_ind2 (Hs := fun (i : Nat) (b : Nat) => s.heap) (ks := fun (i : Nat) (b : Nat) => 0) (ns := fun (i : Nat) (b : Nat) => 0) (los := fun (i : Nat) (b : Nat) => [(2, .int (nI i)), (1, .int (nI b)), (0, .ref a)]) (I := fun (i : Nat) (b : Nat) => i ≤ 6 ∧ 1 ≤ i ∧ b < i ∧ (∀ j, j < i → g j ≤ g b) ∧ ∀ j, j < b → g j < g b) (μ := fun (i : Nat) (b : Nat) => 6 - i) 1 0 (⟨by decide, by decide, by decide, fun j hj => by rw [show j = 0 by omega]; exact Nat.le_refl _, fun j hj => absurd hj (Nat.not_lt_zero _)⟩) (fun i b hi ih => ?_)
  try dsimp only at hi ih ⊢
  obtain ⟨i6, i1, bi, hle, hlt⟩ := hi
  refine zs_iload_n hE 0 dX2_greatestOf_4 rfl rfl ?_
  refine zs_bipush (v := (nI 6)) hE dX2_greatestOf_5 (by decide) ?_
  refine zs_icmp_geN (tgt := 27) hE (by omega) (by decide) dX2_greatestOf_7 (by decide) (fun h3 => ?_) (fun h => ?_)
  · obtain rfl : i = 6 := by omega
    refine zs_iload_n hE 1 dX2_greatestOf_27 rfl rfl ?_
    exact zs_iret hE hr (⟨rfl, b, rfl, bi, hle, hlt⟩) (by decide) (by decide) dX2_greatestOf_28
  · have z1 := hg i h
    have z2 := hg b (by omega)
    refine zs_aload_n hE 2 dX2_greatestOf_10 rfl rfl ?_
    refine zs_iload_n hE 0 dX2_greatestOf_11 rfl rfl ?_
    refine zs_iald hE hp (by omega) (by decide) dX2_greatestOf_12 ?_
    refine zs_aload_n hE 2 dX2_greatestOf_13 rfl rfl ?_
    refine zs_iload_n hE 1 dX2_greatestOf_14 rfl rfl ?_
    refine zs_iald hE hp (by omega) (by decide) dX2_greatestOf_15 ?_
    refine zs_icmp_le (tgt := 21) hE dX2_greatestOf_16 (by decide) (fun h4 => ?_) (fun h4 => ?_)
    · have le := (nI_mle (by omega) (by omega)).mp h4
      refine zs_iincN (lo' := [(2, .int (nI (i + 1))), (1, .int (nI b)), (0, .ref a)]) hE 0 dX2_greatestOf_21 rfl (by decide) rfl ?_
      refine zs_goto (tgt := 4) hE dX2_greatestOf_24 (by decide) ?_
      refine zs_sub (lo' := [(2, .int (nI (i + 1))), (1, .int (nI b)), (0, .ref a)]) [0, 1, 2] rfl ?_
      exact ih (i + 1) b (⟨by omega, by omega, by omega, fun j hj => by rcases Nat.lt_or_ge j i with w | w; exact hle j w; rw [show j = i by omega]; exact le, hlt⟩) (by omega)
    · have gt : ¬ g i ≤ g b := fun w => h4 ((nI_mle (by omega) (by omega)).mpr w)
      refine zs_iload_n hE 0 dX2_greatestOf_19 rfl rfl ?_
      refine zs_istore_n (lo' := [(1, .int (nI i)), (2, .int (nI i)), (0, .ref a)]) hE dX2_greatestOf_20 rfl (by decide) rfl ?_
      refine zs_iincN (lo' := [(2, .int (nI (i + 1))), (1, .int (nI i)), (0, .ref a)]) hE 1 dX2_greatestOf_21 rfl (by decide) rfl ?_
      refine zs_goto (tgt := 4) hE dX2_greatestOf_24 (by decide) ?_
      refine zs_sub (lo' := [(2, .int (nI (i + 1))), (1, .int (nI i)), (0, .ref a)]) [0, 1, 2] rfl ?_
      exact ih (i + 1) i (⟨by omega, by omega, by omega, fun j hj => by rcases Nat.lt_or_ge j i with w | w; have := hle j w; omega; rw [show j = i by omega]; exact Nat.le_refl _, fun j hj => by have := hle j hj; omega⟩) (by omega)

def sp_w (sl : Nat → Option sp_Sh) (ed : Nat) : Nat := sp_f sl (fun rs t => t + sp_sp ed rs) 32 0
theorem sp_f_sm {sl : Nat → Option sp_Sh} {g : sp_Sh → Nat} : ∀ n, sp_f sl (fun rs t => t + g rs) n 0 = sm (fun j => match sl j with | none => 0 | some rs => g rs) n
  | 0 => rfl
  | n + 1 => by
    show _ = sm _ n + (match sl n with | none => 0 | some rs => g rs)
    cases h : sl n with
    | none => rw [sp_f0 h, sp_f_sm n]; rfl
    | some rs => rw [sp_f1 h, sp_f_sm n]
theorem sp_bit6 : ∀ e : Nat, e < 6 → ((nI 1) <<< (nI e &&& 31) : Int32) = nI (2 ^ e) := by decide +kernel
theorem sp_rp6 : ∀ e : Nat, e < 6 → ∀ x : Nat, sm (fun d => (if 2 ^ d / 2 ^ e % 2 = 1 then x else 0)) 6 = (if 63 / 2 ^ e % 2 = 1 then x else 0) := by
  intro e he x
  rcases (show e = 0 ∨ e = 1 ∨ e = 2 ∨ e = 3 ∨ e = 4 ∨ e = 5 by omega) with rfl | rfl | rfl | rfl | rfl | rfl <;> simp [sm]
theorem sm_swap (f : Nat → Nat → Nat) (m : Nat) : ∀ n, sm (fun i => sm (fun j => f i j) m) n = sm (fun j => sm (fun i => f i j) n) m
  | 0 => (sm_zero (fun j _ => rfl)).symm
  | n + 1 => by
    show sm (fun i => sm (fun j => f i j) m) n + sm (fun j => f n j) m = sm (fun j => sm (fun i => f i j) n + f n j) m
    rw [sm_add, sm_swap f m n]
/-- what all editors have is the sum of what each has -/
theorem sp_w6 {sl : Nat → Option sp_Sh} (h : ∀ j, j < 32 → ∀ rs, sl j = some rs → ∀ r ∈ rs, r.1 < 6) : sm (fun e => sp_w sl (2 ^ e)) 6 = sp_w sl 63 := by
  unfold sp_w
  rw [sp_f_sm, sm_congr (fun e _ => sp_f_sm 32), sm_swap]
  refine sm_congr (fun j hj => ?_)
  cases q : sl j with
  | none => exact sm_zero (fun _ _ => rfl)
  | some rs =>
    show sm (fun e => sp_sp (2 ^ e) rs) 6 = sp_sp 63 rs
    unfold sp_sp
    rw [sm_swap]
    refine sm_congr (fun k hk => ?_)
    have hr : (rs.getD k sp_d0).1 < 6 := by
      rw [List.getD_eq_getElem?_getD, List.getElem?_eq_getElem hk]
      exact h j hj rs q _ (List.getElem_mem hk)
    exact sp_rp6 _ hr _
theorem cs_vs.w {D : va_G} {E : Nat → ClassId} {κ : Nat → Nat} {H : Heap} {f : Nat → Option Nat} {sl : Nat → Option sp_Sh} (h : cs_vs D E κ H f sl) : ∀ j, j < 32 → ∀ rs, sl j = some rs → rs.length ≤ 4 ∧ ∀ k, k < rs.length → (rs.getD k sp_d0).1 < 6 ∧ (rs.getD k sp_d0).2.length ≤ 8 := by
  intro j hj rs e
  obtain ⟨a, -, q⟩ := (h j hj).2 rs e
  obtain ⟨n, g, h1, h2, h3, h4⟩ := q.s0
  exact ⟨h1, fun k hk => by obtain ⟨b, -, ⟨q1, q2, -⟩, -⟩ := h4 k hk; exact ⟨q1, q2⟩⟩
theorem cs_vs.wm {D : va_G} {E : Nat → ClassId} {κ : Nat → Nat} {H : Heap} {f : Nat → Option Nat} {sl : Nat → Option sp_Sh} (h : cs_vs D E κ H f sl) : ∀ j, j < 32 → ∀ rs, sl j = some rs → ∀ r ∈ rs, r.1 < 6 := by
  intro j hj rs e r hr
  obtain ⟨k, hk, rfl⟩ := List.mem_iff_getElem.mp hr
  have := ((h.w j hj rs e).2 k hk).1
  rw [List.getD_eq_getElem?_getD, List.getElem?_eq_getElem hk] at this
  exact this
theorem cs_vs.wb {D : va_G} {E : Nat → ClassId} {κ : Nat → Nat} {H : Heap} {f : Nat → Option Nat} {sl : Nat → Option sp_Sh} (h : cs_vs D E κ H f sl) (ed : Nat) : sp_w sl ed ≤ 36 * 32 := by
  unfold sp_w
  rw [sp_f_sm]
  refine sm_le (fun j hj => ?_)
  cases q : sl j with
  | none => exact Nat.zero_le _
  | some rs =>
    obtain ⟨h1, h2⟩ := h.w j hj rs q
    refine Nat.le_trans (sm_le (c := 9) (fun k hk => ?_)) (show 9 * rs.length ≤ 36 by omega)
    have := (h2 k hk).2
    unfold sp_rp
    by_cases z : ed / 2 ^ (rs.getD k sp_d0).1 % 2 = 1
    · rw [if_pos z]; omega
    · rw [if_neg z]; omega

set_option maxHeartbeats 4000000 in
set_option maxRecDepth 100000 in
theorem m_X2_shareOut (D : va_G) (E : Nat → ClassId) (B : Nat) (l : Launch) (κ : Nat → Nat) (a g b nz co n1 p1 a1 : Nat) (w1 : Int32) (sl : Nat → Option sp_Sh) (hag : a ≠ g) (hal : 0 < sp_w sl 63) (hco : co ≤ 9999) : zs_Ct D E B l yX2_shareOut cX2_shareOut 7 none ({ frames := 3, cells := 1, slots := 6, locals := 71 } : Room) [.ref a, .ref b] (fun H => cs_ver D E κ H b n1 p1 a1 w1 sl ∧ κ g ≠ 0 ∧ zs_pt D a (.inr (2, [.int (nI nz), .int (nI co), .ref g])) H ∧ zs_pt D g (.inl (E 0, 6, .inl (fun _ => 0))) H) (fun q => q = g) (fun v H H1 => v = none ∧ zs_pt D g (.inl (E 0, 6, .inl (fun e => nI (pz_sh (fun e => sp_w sl (2 ^ e)) (sp_w sl 63) co e)))) H1) := by
  refine zs_ct (by decide) (Nat.le_of_ble_eq_true rfl) (fun p e s m below meth c hE hr hin hp => ?_)
  refine zs_lo (lo' := [(0, .ref a), (1, .ref b)]) rfl ?_
  obtain ⟨hv, hκg, hpa, hpg⟩ := hp
  obtain ⟨y0, y1, y2, y3, yh, yf, y4, ⟨y5, y6⟩, y7⟩ := id hv
  have hy5 := y5
  have hpa0 := hpa
  have hall := y7.wb 63
  have hW : ∀ e, sp_w sl (2 ^ e) ≤ 36 * 32 := fun e => y7.wb _
  have hsum := pz_sum (co := co) (sp_w6 y7.wm) hal
  have hord : ∀ b k, k < 6 → b < 6 → _ → _ → pz_o (fun e => sp_w sl (2 ^ e)) (sp_w sl 63) co b = k := fun b k h1 h2 h3 h4 => pz_best h1 h2 h3 h4
  have hvs : ∀ ed, ed < 64 → sp_f sl (fun rs t => t + sp_sp ed rs) 32 0 = sp_w sl ed := fun _ _ => rfl
  have hm : ∀ e, co * sp_w sl (2 ^ e) ≤ 9999 * (36 * 32) := fun e => Nat.mul_le_mul hco (hW e)
  generalize eW : (fun e => sp_w sl (2 ^ e)) = W at hsum hord ⊢
  have hWe : ∀ e, sp_w sl (2 ^ e) = W e := fun e => by rw [← eW]
  generalize eA : sp_w sl 63 = al at *
  have hm2 : ∀ e, co * W e ≤ 9999 * (36 * 32) := fun e => by have := hm e; rw [hWe] at this; exact this
  refine zs_aload_n hE 1 dX2_shareOut_0 rfl rfl ?_
  refine zs_bipush (v := (nI 63)) hE dX2_shareOut_1 (by decide) ?_
  refine zs_callVR (av := [.int (nI 63)]) (st := []) (b := b) hE (m_X5_partsBy D E B l κ b n1 p1 a1 (63) w1 sl (by decide)) rfl rfl sV_X2_22 y5 rfl rfl (hv) ⟨by decide, by decide⟩ ⟨by decide, by decide⟩ (Nat.le_of_ble_eq_true rfl) dX2_shareOut_3 ?_
  refine zs_top (v' := .int (nI al)) (by rw [hvs 63 (by decide), eA]) ?_
  refine zs_istore_n (lo' := [(2, .int (nI al)), (0, .ref a), (1, .ref b)]) hE dX2_shareOut_6 rfl (by decide) rfl ?_
  refine zs_iload_n hE 0 dX2_shareOut_7 rfl rfl ?_
  refine zs_if_gtN (tgt := 12) hE (by omega) dX2_shareOut_8 (by decide) (fun h1 => ?_) (fun h1 => ?_)
  · refine zs_bipush (v := (nI 6)) hE dX2_shareOut_12 (by decide) ?_
    refine zs_newi hE q_arr_int (by decide) (by decide) (by decide) dX2_shareOut_14 (fun q1 H1 hq1 hp1 hz1 ho1 => ?_)
    refine zs_widen (k' := 1) (n' := 6) (by omega) (by omega) ?_
    have ne2 : b ≠ q1 := by have := zs_pt.lt y5; omega
    have y5 := zs_pt.kept y5 (ho1 _ (zs_pt.lt y5))
    have ne3 : yh ≠ q1 := by have := zs_pt.lt y6; omega
    have y6 := zs_pt.kept y6 (ho1 _ (zs_pt.lt y6))
    have ne4 : a ≠ q1 := by have := zs_pt.lt hpa; omega
    have hpa := zs_pt.kept hpa (ho1 _ (zs_pt.lt hpa))
    have ne5 : g ≠ q1 := by have := zs_pt.lt hpg; omega
    have hpg := zs_pt.kept hpg (ho1 _ (zs_pt.lt hpg))
    have hga : g ≠ q1 := by have := hpg.lt; omega
    have haa : a ≠ q1 := by have := hpa.lt; omega
    have hbg : b ≠ g := fun e => hκg (e ▸ y0)
    have hba : b ≠ q1 := by have := y5.lt; omega
    refine zs_astore_n (lo' := [(3, .ref q1), (2, .int (nI al)), (0, .ref a), (1, .ref b)]) hE dX2_shareOut_16 rfl (by decide) rfl ?_
    refine zs_aload_n hE 2 dX2_shareOut_17 rfl rfl ?_
    refine zs_get hE fl_X2_19 hpa rfl dX2_shareOut_18 ?_
    refine zs_istore (lo' := [(4, .int (nI co)), (3, .ref q1), (2, .int (nI al)), (0, .ref a), (1, .ref b)]) hE dX2_shareOut_21 (by decide) rfl ?_
    refine zs_iconst (v := (nI 0)) hE dX2_shareOut_23 (by decide) ?_
    refine zs_istore (lo' := [(5, .int (nI 0)), (4, .int (nI co)), (3, .ref q1), (2, .int (nI al)), (0, .ref a), (1, .ref b)]) hE dX2_shareOut_24 (by decide) rfl ?_
    refine zs_sub (lo' := [(5, .int (nI 0)), (0, .ref a), (1, .ref b), (2, .int (nI al)), (3, .ref q1), (4, .int (nI co))]) [0, 4, 5, 3, 2, 1] rfl ?_
    refine zs_ind4 (Hs := fun (i : Nat) (K : Heap) (f1 : Nat → Int32) (f2 : Nat → Int32) => K) (ks := fun (i : Nat) (K : Heap) (f1 : Nat → Int32) (f2 : Nat → Int32) => 1) (ns := fun (i : Nat) (K : Heap) (f1 : Nat → Int32) (f2 : Nat → Int32) => 6) (los := fun (i : Nat) (K : Heap) (f1 : Nat → Int32) (f2 : Nat → Int32) => [(5, .int (nI i)), (0, .ref a), (1, .ref b), (2, .int (nI al)), (3, .ref q1), (4, .int (nI (co - pz_b W al co i)))]) (I := fun (i : Nat) (K : Heap) (f1 : Nat → Int32) (f2 : Nat → Int32) => i ≤ 6 ∧ (∀ e, e < i → f1 e = nI (co * W e / al) ∧ f2 e = nI (co * W e % al)) ∧ K.size = s.heap.size + 1 ∧ (∀ q, q < s.heap.size → q ≠ g → K[q]? = s.heap[q]?) ∧ zs_pt D g (.inl (E 0, 6, .inl f1)) K ∧ zs_pt D q1 (.inl (E 0, 6, .inl f2)) K) (μ := fun (i : Nat) (K : Heap) (f1 : Nat → Int32) (f2 : Nat → Int32) => 6 - i) 0 H1 (fun _ => 0) (fun _ => 0) (⟨Nat.zero_le _, fun e he => absurd he (Nat.not_lt_zero _), by omega, fun q w1 w2 => ho1 q w1, hpg, hp1⟩) (fun i K f1 f2 hi ih => ?_)
    try dsimp only at hi ih ⊢
    obtain ⟨i6, hbd, kz, ko, kg, kr⟩ := hi
    have kv : cs_ver D E κ K b n1 p1 a1 w1 sl := hv.kept (fun q w1 w2 => ko q w1 (fun e => hκg (e ▸ w2)))
    have kb := hy5.kept (ko _ hy5.lt (fun e => hκg (e ▸ y0)))
    have ka := hpa0.kept (ko _ hpa0.lt hag)
    refine zs_iload hE 0 dX2_shareOut_26 rfl ?_
    refine zs_bipush (v := (nI 6)) hE dX2_shareOut_28 (by decide) ?_
    refine zs_icmp_geN (tgt := 85) hE (by omega) (by decide) dX2_shareOut_30 (by decide) (fun h7 => ?_) (fun h => ?_)
    · obtain rfl : i = 6 := by omega
      refine zs_iconst (v := (nI 0)) hE dX2_shareOut_85 (by decide) ?_
      refine zs_istore (lo' := [(5, .int (nI 0)), (0, .ref a), (1, .ref b), (2, .int (nI al)), (3, .ref q1), (4, .int (nI (co - pz_b W al co 6)))]) hE dX2_shareOut_86 (by decide) rfl ?_
      obtain ⟨j1, j2⟩ : (∀ e, e < 6 → f1 e = nI (co * W e / al)) ∧ ∀ e, e < 6 → f2 e = nI (co * W e % al) := ⟨fun e he => (hbd e he).1, fun e he => (hbd e he).2⟩
      refine zs_sub (lo' := [(5, .int (nI 0)), (0, .ref a), (3, .ref q1), (4, .int (nI (co - pz_b W al co 6)))]) [0, 1, 4, 5] rfl ?_
      refine zs_ind2 (Hs := fun (c0 : Nat) (K : Heap) => K) (ks := fun (c0 : Nat) (K : Heap) => 1) (ns := fun (c0 : Nat) (K : Heap) => 6) (los := fun (c0 : Nat) (K : Heap) => [(5, .int (nI c0)), (0, .ref a), (3, .ref q1), (4, .int (nI (co - pz_b W al co 6)))]) (I := fun (c0 : Nat) (K : Heap) => c0 ≤ co - pz_b W al co 6 ∧ K.size = s.heap.size + 1 ∧ (∀ q, q < s.heap.size → q ≠ g → K[q]? = s.heap[q]?) ∧ zs_pt D g (.inl (E 0, 6, .inl (fun e => nI (co * W e / al + pI (pz_o W al co e < c0) 1 0)))) K ∧ zs_pt D q1 (.inl (E 0, 6, .inl (fun e => nI (pz_r W al co c0 e) - 1))) K) (μ := fun (c0 : Nat) (K : Heap) => co - pz_b W al co 6 - c0) 0 K (⟨Nat.zero_le _, kz, ko, kg.congA (fun j hj => by rw [j1 j hj, pI_f (Nat.not_lt_zero _)]; rfl), kr.congA (fun j hj => by rw [j2 j hj, pz_r, pI_f (Nat.not_lt_zero _), nI_m2 (Nat.succ_pos _)]; rfl)⟩) (fun c0 K hi ih => ?_)
      try dsimp only at hi ih ⊢
      obtain ⟨c6, zz, oo, gg, rr⟩ := hi
      have ka := hpa0.kept (oo _ hpa0.lt hag)
      refine zs_iload hE 0 dX2_shareOut_88 rfl ?_
      refine zs_iload hE 3 dX2_shareOut_90 rfl ?_
      refine zs_icmp_geN (tgt := 123) hE (by omega) (by omega) dX2_shareOut_92 (by decide) (fun h5 => ?_) (fun h6 => ?_)
      · obtain rfl : c0 = co - pz_b W al co 6 := by omega
        exact zs_vret hE hr (⟨rfl, gg⟩) (by decide) (by decide) dX2_shareOut_123
      · refine zs_aload_n hE 2 dX2_shareOut_95 rfl rfl ?_
        refine zs_callS (av := [.ref q1]) (st := []) hE (m_X2_greatestOf D E B l q1 (pz_r W al co c0) (fun j hj => by have := Nat.mod_lt (co * W j) hal; rw [pz_r]; by_cases w : pz_o W al co j < c0; rw [pI_t w]; decide; rw [pI_f w]; omega)) sS_X2_28 (rr) ⟨by decide, by decide⟩ ⟨by decide, by decide⟩ (fun _ w => w.elim) (Nat.le_of_ble_eq_true rfl) dX2_shareOut_96 (fun v6 H6 hv6 hz6 hk6 => ?_)
        obtain ⟨he, bb, rfl, b6, b1, b2⟩ := hv6; subst he
        refine zs_widen (k' := 1) (n' := 6) (by decide) (by decide) ?_
        have ka := zs_pt.kept ka (hk6 _ (zs_pt.lt ka) (fun w => w.elim))
        have gg := zs_pt.kept gg (hk6 _ (zs_pt.lt gg) (fun w => w.elim))
        have rr := zs_pt.kept rr (hk6 _ (zs_pt.lt rr) (fun w => w.elim))
        have hbb := hord bb c0 (by omega) b6 b1 b2
        refine zs_istore (lo' := [(6, .int (nI bb)), (5, .int (nI c0)), (0, .ref a), (3, .ref q1), (4, .int (nI (co - pz_b W al co 6)))]) hE dX2_shareOut_99 (by decide) rfl ?_
        refine zs_aload_n hE 2 dX2_shareOut_101 rfl rfl ?_
        refine zs_get hE fl_X2_9 ka rfl dX2_shareOut_102 ?_
        refine zs_iload hE 0 dX2_shareOut_105 rfl ?_
        refine zs_dup2 hE dX2_shareOut_107 rfl rfl ?_
        refine zs_iald hE gg (by omega) (by decide) dX2_shareOut_108 ?_
        refine zs_iconst (v := (nI 1)) hE dX2_shareOut_109 (by decide) ?_
        refine zs_iadd hE dX2_shareOut_110 ?_
        refine zs_top (v' := .int (nI (co * W bb / al + pI (pz_o W al co bb < c0) 1 0 + 1))) (congrArg Value.int (nI_succ _).symm) ?_
        refine zs_iast hE gg (Or.inl rfl) (by omega) (by decide) dX2_shareOut_111 (fun H7 hp7 hz7 ho7 => ?_)
        have ka := zs_pt.kept ka (ho7 _ hag)
        have rr := zs_pt.kept rr (ho7 _ hga.symm)
        refine zs_aload_n hE 3 dX2_shareOut_112 rfl rfl ?_
        refine zs_iload hE 0 dX2_shareOut_113 rfl ?_
        refine zs_iconst (v := (-1)) hE dX2_shareOut_115 (by decide) ?_
        refine zs_iast hE rr (Or.inr (by omega)) (by omega) (by decide) dX2_shareOut_116 (fun H8 hp8 hz8 ho8 => ?_)
        have ka := zs_pt.kept ka (ho8 _ haa)
        have hp7 := zs_pt.kept hp7 (ho8 _ hga)
        refine zs_iincN (lo' := [(5, .int (nI (c0 + 1))), (6, .int (nI bb)), (0, .ref a), (3, .ref q1), (4, .int (nI (co - pz_b W al co 6)))]) hE 1 dX2_shareOut_117 rfl (by decide) rfl ?_
        refine zs_goto (tgt := 88) hE dX2_shareOut_120 (by decide) ?_
        refine zs_sub (lo' := [(5, .int (nI (c0 + 1))), (0, .ref a), (3, .ref q1), (4, .int (nI (co - pz_b W al co 6)))]) [0, 2, 3, 4] rfl ?_
        refine ih (c0 + 1) H8 (⟨by omega, by omega, fun q w1 w2 => ((ho8 q (by omega)).trans (ho7 q w2)).trans (oo q w1 w2), hp7.congA (fun j hj => ?_), hp8.congA (fun j hj => ?_)⟩) (by omega)
        · by_cases w : j = bb
          · rw [w, va_up_self, pI_f (by omega), pI_t (show pz_o W al co bb < c0 + 1 by omega)]
          · rw [va_up_ne _ _ w]
            have ne : pz_o W al co j ≠ c0 := fun w2 => w (od_inj (pz_ir W al co) (pz_tr W al co) (pz_to W al co) hj b6 (w2.trans hbb.symm))
            by_cases w3 : pz_o W al co j < c0
            · rw [pI_t w3, pI_t (show pz_o W al co j < c0 + 1 by omega)]
            · rw [pI_f w3, pI_f (show ¬ pz_o W al co j < c0 + 1 by omega)]
        · by_cases w : j = bb
          · rw [w, va_up_self, pz_r, pI_t (by omega)]; rfl
          · rw [va_up_ne _ _ w]
            have ne : pz_o W al co j ≠ c0 := fun w2 => w (od_inj (pz_ir W al co) (pz_tr W al co) (pz_to W al co) hj b6 (w2.trans hbb.symm))
            rw [pz_r, pz_r]
            by_cases w3 : pz_o W al co j < c0
            · rw [pI_t w3, pI_t (show pz_o W al co j < c0 + 1 by omega)]
            · rw [pI_f w3, pI_f (show ¬ pz_o W al co j < c0 + 1 by omega)]
    · refine zs_aload_n hE 1 dX2_shareOut_33 rfl rfl ?_
      refine zs_get hE fl_X2_19 ka rfl dX2_shareOut_34 ?_
      refine zs_aload_n hE 2 dX2_shareOut_37 rfl rfl ?_
      refine zs_iconst (v := (nI 1)) hE dX2_shareOut_38 (by decide) ?_
      refine zs_iload hE 0 dX2_shareOut_39 rfl ?_
      refine zs_ishl hE dX2_shareOut_41 ?_
      refine zs_top (v' := .int (nI (2 ^ i))) (by rw [sp_bit6 i h]) ?_
      refine zs_callVR (av := [.int (nI (2 ^ i))]) (st := [.int (nI co)]) (b := b) hE (m_X5_partsBy D E B l κ b n1 p1 a1 (2 ^ i) w1 sl (Nat.lt_of_lt_of_le (Nat.pow_lt_pow_right (by decide) h) (by decide))) rfl rfl sV_X2_22 kb rfl rfl (kv) ⟨by decide, by decide⟩ ⟨by decide, by decide⟩ (Nat.le_of_ble_eq_true rfl) dX2_shareOut_42 ?_
      refine zs_top (v' := .int (nI (W i))) (by rw [← hWe i]; rfl) ?_
      have hmi := hm2 i
      have hbmono : pz_b W al co (i + 1) ≤ pz_b W al co 6 := sm_mono (by omega)
      have hbi : pz_b W al co (i + 1) = pz_b W al co i + co * W i / al := rfl
      have hdm : co * W i % al < al := Nat.mod_lt _ hal
      have hdd := Nat.div_le_self (co * W i) al
      refine zs_imulN hE dX2_shareOut_45 ?_
      refine zs_istore (lo' := [(6, .int (nI (co * (W i)))), (5, .int (nI i)), (0, .ref a), (1, .ref b), (2, .int (nI al)), (3, .ref q1), (4, .int (nI (co - pz_b W al co i)))]) hE dX2_shareOut_46 (by decide) rfl ?_
      refine zs_aload_n hE 2 dX2_shareOut_48 rfl rfl ?_
      refine zs_get hE fl_X2_9 ka rfl dX2_shareOut_49 ?_
      refine zs_iload hE 1 dX2_shareOut_52 rfl ?_
      refine zs_iload hE 0 dX2_shareOut_54 rfl ?_
      refine zs_iload_n hE 4 dX2_shareOut_56 rfl rfl ?_
      refine zs_idiv hE dX2_shareOut_57 (fun w => nI_ne0 (n := al) hal (by omega) w) ?_
      refine zs_top (v' := .int (nI (co * W i / al))) (by rw [pk_div (by omega) hal (by omega)]) ?_
      refine zs_iast hE kg (Or.inl rfl) (by omega) (by decide) dX2_shareOut_58 (fun H9 hp9 hz9 ho9 => ?_)
      have kb := zs_pt.kept kb (ho9 _ hbg)
      have ka := zs_pt.kept ka (ho9 _ hag)
      have kr := zs_pt.kept kr (ho9 _ hga.symm)
      refine zs_aload_n hE 5 dX2_shareOut_59 rfl rfl ?_
      refine zs_iload hE 1 dX2_shareOut_60 rfl ?_
      refine zs_iload hE 0 dX2_shareOut_62 rfl ?_
      refine zs_iload_n hE 4 dX2_shareOut_64 rfl rfl ?_
      refine zs_irem hE dX2_shareOut_65 (fun w => nI_ne0 (n := al) hal (by omega) w) ?_
      refine zs_top (v' := .int (nI (co * W i % al))) (by rw [pk_rem (by omega) hal (by omega)]) ?_
      refine zs_iast hE kr (Or.inr (by omega)) (by omega) (by decide) dX2_shareOut_66 (fun H10 hp10 hz10 ho10 => ?_)
      have kb := zs_pt.kept kb (ho10 _ hba)
      have ka := zs_pt.kept ka (ho10 _ haa)
      have hp9 := zs_pt.kept hp9 (ho10 _ hga)
      refine zs_iload hE 6 dX2_shareOut_67 rfl ?_
      refine zs_aload_n hE 2 dX2_shareOut_69 rfl rfl ?_
      refine zs_get hE fl_X2_9 ka rfl dX2_shareOut_70 ?_
      refine zs_iload hE 1 dX2_shareOut_73 rfl ?_
      refine zs_iald hE hp9 (by omega) (by decide) dX2_shareOut_75 ?_
      refine zs_top (v' := .int (nI (co * W i / al))) (by rw [va_up_self]) ?_
      refine zs_isubN hE (by omega) dX2_shareOut_76 ?_
      refine zs_top (v' := .int (nI (co - pz_b W al co (i + 1)))) (by rw [show co - pz_b W al co (i + 1) = co - pz_b W al co i - co * W i / al by omega]) ?_
      refine zs_istore (lo' := [(4, .int (nI (co - pz_b W al co (i + 1)))), (6, .int (nI (co * (W i)))), (5, .int (nI i)), (0, .ref a), (1, .ref b), (2, .int (nI al)), (3, .ref q1)]) hE dX2_shareOut_77 (by decide) rfl ?_
      refine zs_iincN (lo' := [(5, .int (nI (i + 1))), (4, .int (nI (co - pz_b W al co (i + 1)))), (6, .int (nI (co * (W i)))), (0, .ref a), (1, .ref b), (2, .int (nI al)), (3, .ref q1)]) hE 2 dX2_shareOut_79 rfl (by decide) rfl ?_
      refine zs_goto (tgt := 26) hE dX2_shareOut_82 (by decide) ?_
      refine zs_sub (lo' := [(5, .int (nI (i + 1))), (0, .ref a), (1, .ref b), (2, .int (nI al)), (3, .ref q1), (4, .int (nI (co - pz_b W al co (i + 1))))]) [0, 3, 4, 5, 6, 1] rfl ?_
      exact ih (i + 1) H10 (va_up f1 i (nI (co * W i / al))) (va_up f2 i (nI (co * W i % al))) (⟨by omega, fun e he => by rcases Nat.lt_or_ge e i with w | w; rw [va_up_ne _ _ (by omega), va_up_ne _ _ (by omega)]; exact hbd e w; rw [show e = i by omega, va_up_self, va_up_self]; exact ⟨rfl, rfl⟩, by omega, fun q w1 w2 => ((ho10 q (by omega)).trans (ho9 q w2)).trans (ko q w1 w2), hp9, hp10⟩) (by omega)
  · exact absurd h1 (by omega)


/-! the law, a case for each call -/
theorem md_O.mv {D : va_G} {E : Nat → ClassId} {κ : Nat → Nat} {x : Nat} {ad sc : Nat → Nat} {ar : Nat → Nat → Int32} {H H1 : Heap} (h : md_O D E κ x ad sc ar H) (hk : ∀ q, q < H.size → 500 ≤ κ q → H1[q]? = H[q]?) : md_O D E κ x ad sc ar H1 := by
  obtain ⟨t0, hx, t5, t6, t7, t8, t9, t10, t11, t12, t13, t14, t15, t16, t17, t18, t19, t20, r5, r6, r7, r8, r9, r10, r11, r12, r13, r14, r15, r16, r17, r18, r19, r20⟩ := h
  exact ⟨t0, hx.kept (hk _ hx.lt (by omega)), t5, t6, t7, t8, t9, t10, t11, t12, t13, t14, t15, t16, t17, t18, t19, t20, r5.kept (hk _ r5.lt (by omega)), r6.kept (hk _ r6.lt (by omega)), r7.kept (hk _ r7.lt (by omega)), r8.kept (hk _ r8.lt (by omega)), r9.kept (hk _ r9.lt (by omega)), r10.kept (hk _ r10.lt (by omega)), r11.kept (hk _ r11.lt (by omega)), r12.kept (hk _ r12.lt (by omega)), r13.kept (hk _ r13.lt (by omega)), r14.kept (hk _ r14.lt (by omega)), r15.kept (hk _ r15.lt (by omega)), r16.kept (hk _ r16.lt (by omega)), r17.kept (hk _ r17.lt (by omega)), r18.kept (hk _ r18.lt (by omega)), r19.kept (hk _ r19.lt (by omega)), r20.kept (hk _ r20.lt (by omega))⟩
/-- between two calls: the class's cells hold S, the model's hold S, the two rows for answers are apart from both -/
def lw_I (D : va_G) (E : Nat → ClassId) (B x mx u w : Nat) (ad μ : Nat → Nat) (Z : Nat) (S : sp_S) (κ sc : Nat → Nat) (ar : Nat → Nat → Int32) (K : Heap) : Prop := sp_wf S ∧ cs_X D E κ S x K ∧ md_O D E μ mx ad sc ar K ∧ mi_ S sc ar ∧ (∀ q, 500 ≤ μ q → 500 ≤ κ q ∧ q < Z ∧ q ≠ u ∧ q ≠ w ∧ B ≤ q) ∧ (500 ≤ κ u ∧ 500 ≤ κ w ∧ u ≠ w ∧ B ≤ u ∧ B ≤ w) ∧ (∀ q, q < B → κ q = 0) ∧ (Z ≤ K.size ∧ B ≤ K.size) ∧ (∃ f, zs_pt D u (.inl (E 3, 1, .inr (.inl f))) K) ∧ ∃ g, zs_pt D w (.inl (E 4, 1, .inr (.inr (.inr (.inl g))))) K
theorem lw_m {D : va_G} {E : Nat → ClassId} {B x mx u w : Nat} {ad μ : Nat → Nat} {Z : Nat} {S : sp_S} {κ sc : Nat → Nat} {ar : Nat → Nat → Int32} {K H1 : Heap} (h : lw_I D E B x mx u w ad μ Z S κ sc ar K) (hk : ∀ q, q < K.size → ¬ (cs_F κ q ∨ q = u ∨ q = w) → H1[q]? = K[q]?) : md_O D E μ mx ad sc ar H1 := by
  obtain ⟨hw, hX, hO, hM, hμ, -⟩ := h
  exact hO.mv (fun q h1 h2 => by
    obtain ⟨a1, a2, a3, a4, -⟩ := hμ q h2
    exact hk q h1 (fun z => by rcases z with z | z | z; have := z.2; omega; exact a3 z; exact a4 z))
theorem lw_n {D : va_G} {E : Nat → ClassId} {B x mx u w : Nat} {ad μ : Nat → Nat} {Z : Nat} {S : sp_S} {κ sc : Nat → Nat} {ar : Nat → Nat → Int32} {K H1 H2 : Heap} (h : lw_I D E B x mx u w ad μ Z S κ sc ar K) {S' : sp_S} {κ' sc' : Nat → Nat} {ar' : Nat → Nat → Int32} (hw' : sp_wf S') (hz : K.size ≤ H1.size) (hX' : cs_X D E κ' S' x H1) (hκ : ∀ q, q < K.size → κ' q = κ q) (h2 : H2.size = H1.size) (hk2 : ∀ q, q < H1.size → ¬ md_F μ q → H2[q]? = H1[q]?) (hO : md_O D E μ mx ad sc' ar' H2) (hM : mi_ S' sc' ar') (hu : ∃ f, zs_pt D u (.inl (E 3, 1, .inr (.inl f))) H1) (hv : ∃ g, zs_pt D w (.inl (E 4, 1, .inr (.inr (.inr (.inl g))))) H1) : lw_I D E B x mx u w ad μ Z S' κ' sc' ar' H2 := by
  obtain ⟨hw, hX, hO0, hM0, hμ, ⟨k1, k2, k3, k4, k5⟩, hB, ⟨z1, z2⟩, ⟨f0, ru⟩, ⟨g0, rw9⟩⟩ := h
  obtain ⟨f, hu⟩ := hu
  obtain ⟨g, hv⟩ := hv
  refine ⟨hw', hX'.mv (by omega) (fun q q1 q2 => hk2 q q1 (fun z => ?_)) hw'.1.1, hO, hM, fun q hq => ?_, ⟨by rw [hκ _ ru.lt]; exact k1, by rw [hκ _ rw9.lt]; exact k2, k3, k4, k5⟩, fun q hq => by rw [hκ q (by omega)]; exact hB q hq, ⟨by omega, by omega⟩, ⟨f, hu.kept (hk2 _ hu.lt (fun z => (hμ u z).2.2.1 rfl))⟩, ⟨g, hv.kept (hk2 _ hv.lt (fun z => (hμ w z).2.2.2.1 rfl))⟩⟩
  · have z : 500 ≤ μ q := z
    obtain ⟨a1, a2, -⟩ := hμ q z
    rw [hκ q (by omega)] at q2
    omega
  · obtain ⟨a1, a2, a3⟩ := hμ q hq
    exact ⟨by rw [hκ q (by omega)]; exact a1, a2, a3⟩
theorem lg_self (x : Int64) : lg_cmp x x = 0 := by
  unfold lg_cmp
  rw [if_neg (fun h => absurd h Int64.lt_irrefl), if_pos rfl]
theorem fl_o {d : FP.Core.Datum} (h : d ≠ .nan) : FP.Core.order d d = some .eq := by
  cases d with
  | nan => exact absurd rfl h
  | inf s => cases s <;> rfl
  | fin s c q => show some (compare _ _) = some .eq; simp [compare, compareOfLessAndEq]
theorem fl_c {r : UInt64} (h : vf_n64 r) : Op.cmpValue (FP.dcmp r r) .l = nI 0 := by
  have e : FP.dcmp r r = some .eq := fl_o (fl_d64 (fl_v64 h))
  rw [e]; rfl
def v4_R (o : sp_R3) : Prop := o.1 ≤ 4

theorem v4_firstOf (S : sp_S) (y : Int32) : v4_R (o_firstOf S y) := by
  unfold o_firstOf
  repeat' first | refine pI_p (R := v4_R) ?_ ?_ | split
  all_goals exact Nat.le_of_ble_eq_true rfl
theorem v4_pieceOf (S : sp_S) (y : Int32) : v4_R (o_pieceOf S y) := by
  unfold o_pieceOf
  repeat' first | refine pI_p (R := v4_R) ?_ ?_ | split
  all_goals exact Nat.le_of_ble_eq_true rfl
theorem v4_doubts (S : sp_S) (y : Int32) : v4_R (o_doubts S y) := by
  unfold o_doubts
  repeat' first | refine pI_p (R := v4_R) ?_ ?_ | split
  all_goals exact Nat.le_of_ble_eq_true rfl
theorem v4_checksum (S : sp_S) (y : Int32) : v4_R (o_checksum S y) := by
  unfold o_checksum
  repeat' first | refine pI_p (R := v4_R) ?_ ?_ | split
  all_goals exact Nat.le_of_ble_eq_true rfl
theorem v4_partsOf (S : sp_S) (y z : Int32) : v4_R (o_partsOf S y z) := by
  unfold o_partsOf
  repeat' first | refine pI_p (R := v4_R) ?_ ?_ | split
  all_goals exact Nat.le_of_ble_eq_true rfl
theorem v4_base (S : sp_S) (y z : Int32) : v4_R (o_base S y z) := by
  unfold o_base
  repeat' first | refine pI_p (R := v4_R) ?_ ?_ | split
  all_goals exact Nat.le_of_ble_eq_true rfl
theorem v4_unlike (S : sp_S) (y z : Int32) : v4_R (o_unlike S y z) := by
  unfold o_unlike
  repeat' first | refine pI_p (R := v4_R) ?_ ?_ | split
  all_goals exact Nat.le_of_ble_eq_true rfl
theorem v4_isAbove (S : sp_S) (y z : Int32) : v4_R (o_isAbove S y z) := by
  unfold o_isAbove
  repeat' first | refine pI_p (R := v4_R) ?_ ?_ | split
  all_goals exact Nat.le_of_ble_eq_true rfl
theorem v4_rows (S : sp_S) (y b q : Int32) : v4_R (o_rows S y b q) := by
  unfold o_rows
  repeat' first | refine pI_p (R := v4_R) ?_ ?_ | split
  all_goals exact Nat.le_of_ble_eq_true rfl
theorem v4_points (S : sp_S) (y z : Int32) : v4_R (o_points S y z) := by
  unfold o_points
  repeat' first | refine pI_p (R := v4_R) ?_ ?_ | split
  all_goals exact Nat.le_of_ble_eq_true rfl
theorem v4_ranked (S : sp_S) (y : Int32) : v4_R (o_ranked S y) := by
  unfold o_ranked
  repeat' first | refine pI_p (R := v4_R) ?_ ?_ | split
  all_goals exact Nat.le_of_ble_eq_true rfl
theorem v4_isTied (S : sp_S) (y : Int32) : v4_R (o_isTied S y) := by
  unfold o_isTied
  repeat' first | refine pI_p (R := v4_R) ?_ ?_ | split
  all_goals exact Nat.le_of_ble_eq_true rfl
theorem v4_named (S : sp_S) (y : Int32) : v4_R (o_named S y) := by
  unfold o_named
  repeat' first | refine pI_p (R := v4_R) ?_ ?_ | split
  all_goals exact Nat.le_of_ble_eq_true rfl
theorem v4_share (S : sp_S) (y w : Int32) : v4_R (o_share S y w) := by
  unfold o_share
  repeat' first | refine pI_p (R := v4_R) ?_ ?_ | split
  all_goals exact Nat.le_of_ble_eq_true rfl
theorem v4_got (S : sp_S) (w : Int32) : v4_R (o_got S w) := by
  unfold o_got
  repeat' first | refine pI_p (R := v4_R) ?_ ?_ | split
  all_goals exact Nat.le_of_ble_eq_true rfl
theorem v4_countShare (S : sp_S)  : v4_R (o_countShare S) := by
  unfold o_countShare
  repeat' first | refine pI_p (R := v4_R) ?_ ?_ | split
  all_goals exact Nat.le_of_ble_eq_true rfl
theorem v4_meanMark (S : sp_S)  : v4_R (o_meanMark S) := by
  unfold o_meanMark
  repeat' first | refine pI_p (R := v4_R) ?_ ?_ | split
  all_goals exact Nat.le_of_ble_eq_true rfl
theorem v4_note (S : sp_S) (y : Int32) : v4_R (o_note S y) := by
  unfold o_note
  repeat' first | refine pI_p (R := v4_R) ?_ ?_ | split
  all_goals exact Nat.le_of_ble_eq_true rfl
theorem v4_rule (S : sp_S) (y z w : Int32) : v4_R (o_rule S y z w) := by
  unfold o_rule
  repeat' first | refine pI_p (R := v4_R) ?_ ?_ | split
  all_goals exact Nat.le_of_ble_eq_true rfl
theorem v4_hear (S : sp_S) (y z : Int32) : v4_R (o_hear S y z) := by
  unfold o_hear
  repeat' first | refine pI_p (R := v4_R) ?_ ?_ | split
  all_goals exact Nat.le_of_ble_eq_true rfl
theorem v4_mark (S : sp_S) (y z w t : Int32) : v4_R (o_mark S y z w t) := by
  unfold o_mark
  repeat' first | refine pI_p (R := v4_R) ?_ ?_ | split
  all_goals exact Nat.le_of_ble_eq_true rfl
theorem v4_affirm (S : sp_S) (y z w : Int32) : v4_R (o_affirm S y z w) := by
  unfold o_affirm
  repeat' first | refine pI_p (R := v4_R) ?_ ?_ | split
  all_goals exact Nat.le_of_ble_eq_true rfl
theorem v4_noteAt (S : sp_S) (y b q w uu : Int32) : v4_R (o_noteAt S y b q w uu) := by
  unfold o_noteAt
  repeat' first | refine pI_p (R := v4_R) ?_ ?_ | split
  all_goals exact Nat.le_of_ble_eq_true rfl
theorem v4_writer (S : sp_S) (y b q w : Int32) : v4_R (o_writer S y b q w) := by
  unfold o_writer
  repeat' first | refine pI_p (R := v4_R) ?_ ?_ | split
  all_goals exact Nat.le_of_ble_eq_true rfl
theorem v4_write (S : sp_S) (y w b q : Int32) : v4_R (o_write S y w b q) := by
  unfold o_write
  repeat' first | refine pI_p (R := v4_R) ?_ ?_ | split
  all_goals exact Nat.le_of_ble_eq_true rfl
theorem v4_give (S : sp_S) (y z : Int32) : v4_R (o_give S y z) := by
  unfold o_give
  repeat' first | refine pI_p (R := v4_R) ?_ ?_ | split
  all_goals exact Nat.le_of_ble_eq_true rfl
theorem v4_merge (S : sp_S) (y z ed : Int32) : v4_R (o_merge S y z ed) := by
  unfold o_merge
  repeat' first | refine pI_p (R := v4_R) ?_ ?_ | split
  all_goals exact Nat.le_of_ble_eq_true rfl
theorem v4_piece (S : sp_S) (y z : Int32) : v4_R (o_piece S y z) := by
  unfold o_piece
  repeat' first | refine pI_p (R := v4_R) ?_ ?_ | split
  all_goals exact Nat.le_of_ble_eq_true rfl
set_option maxHeartbeats 4000000 in
set_option maxRecDepth 100000 in
theorem lw_piece {D : va_G} {E : Nat → ClassId} {l : Launch} (hl : l.stackTraces = false) {p : Program} {e : Env} {s : State} {m : MethodId} {below : List Frame} {meth : Method} {c : Code} {b L : Nat} {xs : Nat → Int32} (hL : L ≤ 3072) (hX0 : va_X b L xs s s.heap) (hbl : b < s.heap.size) (hE : zs_E D E s.heap.size (fun q => s.heap.size ≤ q) s m #[Value.ref b] meth c p code 9 RL) (hN : zw_N s) {x mx u w : Nat} {ad μ : Nat → Nat} {Z : Nat} {t : Nat} (ht : 6 * t + 6 ≤ L) {S : sp_S} {κ sc : Nat → Nat} {ar : Nat → Nat → Int32} {K : Heap} (hI : lw_I D E s.heap.size x mx u w ad μ Z S κ sc ar K) (ih : ∀ (S : sp_S) (κ sc : Nat → Nat) (ar : Nat → Nat → Int32) (K : Heap), lw_I D E s.heap.size x mx u w ad μ Z S κ sc ar K → zs_W (fun q => s.heap.size ≤ q) p l e room_1 s m #[Value.ref b] below meth c 9 (lw_Z below #[Value.ref b] s) K (25 + 70 * (t + 1)) (53172 + 240 * (t + 1)) 28 [(5, .int (nI (6 * (t + 1)))), (0, .ref b), (1, .ref x), (2, .ref mx), (3, .ref u), (4, .ref w)] []) : zs_W (fun q => s.heap.size ≤ q) p l e room_1 s m #[Value.ref b] below meth c 9 (lw_Z below #[Value.ref b] s) K (25 + 70 * t) (53172 + 240 * t) 188 [(5, .int (nI (6 * t))), (0, .ref b), (1, .ref x), (2, .ref mx), (3, .ref u), (4, .ref w)] [] := by
  have hI0 := hI
  obtain ⟨hw, hX, hO, hM, hμ, ⟨k1, k2, k3, k4, k5⟩, hB, ⟨z1, z2⟩, ⟨f0, ru0⟩, ⟨g0, rw0⟩⟩ := hI
  have hFB : ∀ q, cs_F κ q → s.heap.size ≤ q := fun q hq => by rcases Nat.lt_or_ge q s.heap.size with z | z; have := hB q z; have := hq.1; omega; exact z
  have hFM : ∀ q, md_F μ q → s.heap.size ≤ q := fun q hq => (hμ q hq).2.2.2.2
  have hxX : ∃ fs, zs_pt D x (.inr (6, fs)) K := by obtain ⟨a1, a2, a3, a4, a5, lp, lv, lh, lz, tg, ⟨t0, t1, t2, t3, t4, t5, hx, -⟩, -⟩ := hX; exact ⟨_, hx⟩
  obtain ⟨fs, hx⟩ := hxX
  refine zs_aload_n hE 2 dL_law_188 rfl rfl ?_
  refine zs_aload_n hE 1 dL_law_189 rfl rfl ?_
  refine zs_iload hE 0 dL_law_190 rfl ?_
  refine zs_iconst (v := (nI 1)) hE dL_law_192 (by decide) ?_
  refine zs_iaddN hE dL_law_193 ?_
  refine zs_sld hE hX0 hbl (Nat.not_le.mpr hbl) (by omega) (by omega) dL_law_194 ?_
  refine zs_aload_n hE 1 dL_law_195 rfl rfl ?_
  refine zs_iload hE 0 dL_law_196 rfl ?_
  refine zs_iconst (v := (nI 2)) hE dL_law_198 (by decide) ?_
  refine zs_iaddN hE dL_law_199 ?_
  refine zs_sld hE hX0 hbl (Nat.not_le.mpr hbl) (by omega) (by omega) dL_law_200 ?_
  refine zs_aload_n hE 4 dL_law_201 rfl rfl ?_
  have h4 : (o_piece S (xs (6 * t + 1)) (xs (6 * t + 2))).1 ≤ 4 := v4_piece S (xs (6 * t + 1)) (xs (6 * t + 2))
  refine zw_callW (av := [.ref x, .int (xs (6 * t + 1)), .int (xs (6 * t + 2)), .ref u]) (st := []) hE hN (m_L_piece D E s.heap.size l hl κ S x u (xs (6 * t + 1)) (xs (6 * t + 2)) k1) sW_L_120 ⟨⟨hX, hw⟩, f0, ru0⟩ ⟨by decide, by decide⟩ ⟨by show _ + 24 ≤ 603072; omega, by show _ + 128 ≤ 7215210; omega⟩ (fun q h9 => by rcases h9 with h9 | h9; exact hFB q h9; rw [h9]; exact k4) (Nat.le_of_ble_eq_true rfl) dL_law_202 (fun v H1 hv z1c kk1 => ?_)
  obtain ⟨rfl, -, ⟨κ1, hX1, hk1⟩, f, r1, hf0⟩ := hv
  refine zs_widen (k' := 25 + 70 * (t + 1)) (n' := 53172 + 240 * (t + 1)) (by show 25 + 70 * t + 24 ≤ _; omega) (by show 53172 + 240 * t + 128 ≤ _; omega) ?_
  have hO1 : md_O D E μ mx ad sc ar H1 := lw_m hI0 (fun q q1 q2 => kk1 q q1 (fun z => q2 (by rcases z with z | z; exact Or.inl z; exact Or.inr (Or.inl z))))
  refine zs_istore (lo' := [(6, .int (nI ((o_piece S (xs (6 * t + 1)) (xs (6 * t + 2))).1))), (5, .int (nI (6 * t))), (0, .ref b), (1, .ref x), (2, .ref mx), (3, .ref u), (4, .ref w)]) hE dL_law_205 (by decide) rfl ?_
  refine zs_aload_n hE 4 dL_law_207 rfl rfl ?_
  refine zs_aload_n hE 2 dL_law_208 rfl rfl ?_
  refine zs_iload hE 1 dL_law_209 rfl ?_
  refine zs_iconst (v := (nI 1)) hE dL_law_211 (by decide) ?_
  refine zs_iaddN hE dL_law_212 ?_
  refine zs_sld hE hX0 hbl (Nat.not_le.mpr hbl) (by omega) (by omega) dL_law_213 ?_
  refine zs_aload_n hE 2 dL_law_214 rfl rfl ?_
  refine zs_iload hE 1 dL_law_215 rfl ?_
  refine zs_iconst (v := (nI 2)) hE dL_law_217 (by decide) ?_
  refine zs_iaddN hE dL_law_218 ?_
  refine zs_sld hE hX0 hbl (Nat.not_le.mpr hbl) (by omega) (by omega) dL_law_219 ?_
  refine zs_callV (av := [.int (xs (6 * t + 1)), .int (xs (6 * t + 2))]) (st := []) hE (m_X7_piece D E s.heap.size l μ mx ad sc ar S (xs (6 * t + 1)) (xs (6 * t + 2)) hM hw) sV_L_125 hO1.2.1 rfl rfl hO1 ⟨by decide, by decide⟩ ⟨by show _ + 0 ≤ 603072; omega, by show _ + 0 ≤ 7215210; omega⟩ hFM (Nat.le_of_ble_eq_true rfl) dL_law_220 (fun v2 H2 hv2 z2c kk2 => ?_)
  obtain ⟨hz2, ⟨wv, rfl, hwo⟩, sc2, ar2, hO2, hM2, hth⟩ := hv2
  refine zs_widen (k' := 25 + 70 * (t + 1)) (n' := 53172 + 240 * (t + 1)) (by show _ + 0 ≤ _; omega) (by show _ + 0 ≤ _; omega) ?_
  have hI2 : lw_I D E s.heap.size x mx u w ad μ Z (o_piece S (xs (6 * t + 1)) (xs (6 * t + 2))).2.2 κ1 sc2 ar2 H2 := lw_n hI0 (wfo_piece hw (xs (6 * t + 1)) (xs (6 * t + 2))) z1c hX1 hk1 hz2 kk2 hO2 hM2 ⟨f, r1⟩ ⟨g0, rw0.kept (kk1 _ rw0.lt (fun z => by rcases z with z | z; have := z.2; omega; exact k3 z.symm))⟩
  have r2 := r1.kept (kk2 _ r1.lt (fun z => (hμ u z).2.2.1 rfl))
  refine zs_istore (lo' := [(7, .int wv), (6, .int (nI ((o_piece S (xs (6 * t + 1)) (xs (6 * t + 2))).1))), (5, .int (nI (6 * t))), (0, .ref b), (1, .ref x), (2, .ref mx), (3, .ref u), (4, .ref w)]) hE dL_law_223 (by decide) rfl ?_
  refine zs_aload_n hE 5 dL_law_225 rfl rfl ?_
  refine zs_callVR (av := []) (st := []) (b := mx) hE (m_X7_thrown D E s.heap.size l μ mx ad sc2 ar2) rfl rfl sV_L_126 hO2.2.1 rfl rfl hO2 ⟨by decide, by decide⟩ ⟨by show _ ≤ 603072; omega, by show _ ≤ 7215210; omega⟩ (Nat.le_of_ble_eq_true rfl) dL_law_226 ?_
  refine zs_top (v' := .int (nI ((o_piece S (xs (6 * t + 1)) (xs (6 * t + 2))).1))) (by rw [hth]) ?_
  refine zs_iload hE 1 dL_law_229 rfl ?_
  refine zs_icmp_eqN (tgt := 236) hE (by omega) (by omega) dL_law_231 (by decide) (fun h9 => ?_) (fun h9 => ?_)
  · refine zs_iload hE 1 dL_law_236 rfl ?_
    refine zs_if_neN (tgt := 253) hE (by omega) dL_law_238 (by decide) (fun h5 => ?_) (fun h5 => ?_)
    · refine zs_goto (tgt := 2202) hE dL_law_253 (by decide) ?_
      refine zs_iinc (v := ((nI (6 * t)) + (6))) (lo' := [(5, .int ((nI (6 * t)) + (6))), (7, .int wv), (6, .int (nI ((o_piece S (xs (6 * t + 1)) (xs (6 * t + 2))).1))), (0, .ref b), (1, .ref x), (2, .ref mx), (3, .ref u), (4, .ref w)]) hE 2 dL_law_2202 rfl (by first | rfl | decide) (by decide) rfl ?_
      refine zs_goto (tgt := 28) hE dL_law_2205 (by decide) ?_
      refine zs_sub (lo' := [(5, .int ((nI (6 * t)) + (6))), (0, .ref b), (1, .ref x), (2, .ref mx), (3, .ref u), (4, .ref w)]) [0, 3, 4, 5, 6, 7] rfl ?_
      refine zs_lo (lo' := [(5, .int (nI (6 * (t + 1)))), (0, .ref b), (1, .ref x), (2, .ref mx), (3, .ref u), (4, .ref w)]) (by rw [show nI (6 * t) + (6) = nI (6 * (t + 1)) from nI_add (6 * t) 6]) ?_
      exact ih _ _ _ _ _ hI2
    · refine zs_aload_n hE 6 dL_law_241 rfl rfl ?_
      refine zs_iconst (v := (nI 0)) hE dL_law_242 (by decide) ?_
      refine zs_lald hE r2 (by decide) (by decide) dL_law_243 ?_
      refine zs_iload hE 0 dL_law_244 rfl ?_
      refine zs_i2l hE dL_law_246 ?_
      refine zs_lcmp hE dL_law_247 ?_
      refine zs_top (v' := .int (nI 0)) (by rw [show f 0 = wv.toInt64 from (hf0 h5).symm.trans (by rw [← hwo h5]; rfl), lg_self]; rfl) ?_
      refine zs_if_eqN (tgt := 253) hE (by decide) dL_law_248 (by decide) (fun h7 => ?_) (fun h7 => ?_)
      · refine zs_goto (tgt := 2202) hE dL_law_253 (by decide) ?_
        refine zs_iinc (v := ((nI (6 * t)) + (6))) (lo' := [(5, .int ((nI (6 * t)) + (6))), (7, .int wv), (6, .int (nI ((o_piece S (xs (6 * t + 1)) (xs (6 * t + 2))).1))), (0, .ref b), (1, .ref x), (2, .ref mx), (3, .ref u), (4, .ref w)]) hE 2 dL_law_2202 rfl (by first | rfl | decide) (by decide) rfl ?_
        refine zs_goto (tgt := 28) hE dL_law_2205 (by decide) ?_
        refine zs_sub (lo' := [(5, .int ((nI (6 * t)) + (6))), (0, .ref b), (1, .ref x), (2, .ref mx), (3, .ref u), (4, .ref w)]) [0, 3, 4, 5, 6, 7] rfl ?_
        refine zs_lo (lo' := [(5, .int (nI (6 * (t + 1)))), (0, .ref b), (1, .ref x), (2, .ref mx), (3, .ref u), (4, .ref w)]) (by rw [show nI (6 * t) + (6) = nI (6 * (t + 1)) from nI_add (6 * t) 6]) ?_
        exact ih _ _ _ _ _ hI2
      · exact absurd h7 (by decide)
  · exact absurd rfl h9

set_option maxHeartbeats 4000000 in
set_option maxRecDepth 100000 in
theorem lw_firstOf {D : va_G} {E : Nat → ClassId} {l : Launch} (hl : l.stackTraces = false) {p : Program} {e : Env} {s : State} {m : MethodId} {below : List Frame} {meth : Method} {c : Code} {b L : Nat} {xs : Nat → Int32} (hL : L ≤ 3072) (hX0 : va_X b L xs s s.heap) (hbl : b < s.heap.size) (hE : zs_E D E s.heap.size (fun q => s.heap.size ≤ q) s m #[Value.ref b] meth c p code 9 RL) (hN : zw_N s) {x mx u w : Nat} {ad μ : Nat → Nat} {Z : Nat} {t : Nat} (ht : 6 * t + 6 ≤ L) {S : sp_S} {κ sc : Nat → Nat} {ar : Nat → Nat → Int32} {K : Heap} (hI : lw_I D E s.heap.size x mx u w ad μ Z S κ sc ar K) (ih : ∀ (S : sp_S) (κ sc : Nat → Nat) (ar : Nat → Nat → Int32) (K : Heap), lw_I D E s.heap.size x mx u w ad μ Z S κ sc ar K → zs_W (fun q => s.heap.size ≤ q) p l e room_1 s m #[Value.ref b] below meth c 9 (lw_Z below #[Value.ref b] s) K (25 + 70 * (t + 1)) (53172 + 240 * (t + 1)) 28 [(5, .int (nI (6 * (t + 1)))), (0, .ref b), (1, .ref x), (2, .ref mx), (3, .ref u), (4, .ref w)] []) : zs_W (fun q => s.heap.size ≤ q) p l e room_1 s m #[Value.ref b] below meth c 9 (lw_Z below #[Value.ref b] s) K (25 + 70 * t) (53172 + 240 * t) 256 [(5, .int (nI (6 * t))), (0, .ref b), (1, .ref x), (2, .ref mx), (3, .ref u), (4, .ref w)] [] := by
  have hI0 := hI
  obtain ⟨hw, hX, hO, hM, hμ, ⟨k1, k2, k3, k4, k5⟩, hB, ⟨z1, z2⟩, ⟨f0, ru0⟩, ⟨g0, rw0⟩⟩ := hI
  have hFB : ∀ q, cs_F κ q → s.heap.size ≤ q := fun q hq => by rcases Nat.lt_or_ge q s.heap.size with z | z; have := hB q z; have := hq.1; omega; exact z
  have hFM : ∀ q, md_F μ q → s.heap.size ≤ q := fun q hq => (hμ q hq).2.2.2.2
  have hxX : ∃ fs, zs_pt D x (.inr (6, fs)) K := by obtain ⟨a1, a2, a3, a4, a5, lp, lv, lh, lz, tg, ⟨t0, t1, t2, t3, t4, t5, hx, -⟩, -⟩ := hX; exact ⟨_, hx⟩
  obtain ⟨fs, hx⟩ := hxX
  refine zs_aload_n hE 2 dL_law_256 rfl rfl ?_
  refine zs_aload_n hE 1 dL_law_257 rfl rfl ?_
  refine zs_iload hE 0 dL_law_258 rfl ?_
  refine zs_iconst (v := (nI 1)) hE dL_law_260 (by decide) ?_
  refine zs_iaddN hE dL_law_261 ?_
  refine zs_sld hE hX0 hbl (Nat.not_le.mpr hbl) (by omega) (by omega) dL_law_262 ?_
  refine zs_aload_n hE 4 dL_law_263 rfl rfl ?_
  have h4 : (o_firstOf S (xs (6 * t + 1))).1 ≤ 4 := v4_firstOf S (xs (6 * t + 1))
  refine zw_callW (av := [.ref x, .int (xs (6 * t + 1)), .ref u]) (st := []) hE hN (m_L_firstOf D E s.heap.size l hl κ S x u (xs (6 * t + 1)) k1) sW_L_130 ⟨⟨hX, hw⟩, f0, ru0⟩ ⟨by decide, by decide⟩ ⟨by show _ + 1 ≤ 603072; omega, by show _ + 6 ≤ 7215210; omega⟩ (fun q h9 => by rcases h9 with h9 | h9; exact hFB q h9; rw [h9]; exact k4) (Nat.le_of_ble_eq_true rfl) dL_law_264 (fun v H1 hv z1c kk1 => ?_)
  obtain ⟨rfl, -, ⟨κ1, hX1, hk1⟩, f, r1, hf0⟩ := hv
  refine zs_widen (k' := 25 + 70 * (t + 1)) (n' := 53172 + 240 * (t + 1)) (by show 25 + 70 * t + 1 ≤ _; omega) (by show 53172 + 240 * t + 6 ≤ _; omega) ?_
  have hO1 : md_O D E μ mx ad sc ar H1 := lw_m hI0 (fun q q1 q2 => kk1 q q1 (fun z => q2 (by rcases z with z | z; exact Or.inl z; exact Or.inr (Or.inl z))))
  refine zs_istore (lo' := [(6, .int (nI ((o_firstOf S (xs (6 * t + 1))).1))), (5, .int (nI (6 * t))), (0, .ref b), (1, .ref x), (2, .ref mx), (3, .ref u), (4, .ref w)]) hE dL_law_267 (by decide) rfl ?_
  refine zs_aload_n hE 4 dL_law_269 rfl rfl ?_
  refine zs_aload_n hE 2 dL_law_270 rfl rfl ?_
  refine zs_iload hE 1 dL_law_271 rfl ?_
  refine zs_iconst (v := (nI 1)) hE dL_law_273 (by decide) ?_
  refine zs_iaddN hE dL_law_274 ?_
  refine zs_sld hE hX0 hbl (Nat.not_le.mpr hbl) (by omega) (by omega) dL_law_275 ?_
  refine zs_callV (av := [.int (xs (6 * t + 1))]) (st := []) hE (m_X7_firstOf D E s.heap.size l μ mx ad sc ar S (xs (6 * t + 1)) hM hw) sV_L_133 hO1.2.1 rfl rfl hO1 ⟨by decide, by decide⟩ ⟨by show _ + 0 ≤ 603072; omega, by show _ + 0 ≤ 7215210; omega⟩ hFM (Nat.le_of_ble_eq_true rfl) dL_law_276 (fun v2 H2 hv2 z2c kk2 => ?_)
  obtain ⟨hz2, ⟨wv, rfl, hwo⟩, sc2, ar2, hO2, hM2, hth⟩ := hv2
  refine zs_widen (k' := 25 + 70 * (t + 1)) (n' := 53172 + 240 * (t + 1)) (by show _ + 0 ≤ _; omega) (by show _ + 0 ≤ _; omega) ?_
  have hI2 : lw_I D E s.heap.size x mx u w ad μ Z (o_firstOf S (xs (6 * t + 1))).2.2 κ1 sc2 ar2 H2 := lw_n hI0 (wfo_firstOf hw (xs (6 * t + 1))) z1c hX1 hk1 hz2 kk2 hO2 hM2 ⟨f, r1⟩ ⟨g0, rw0.kept (kk1 _ rw0.lt (fun z => by rcases z with z | z; have := z.2; omega; exact k3 z.symm))⟩
  have r2 := r1.kept (kk2 _ r1.lt (fun z => (hμ u z).2.2.1 rfl))
  refine zs_istore (lo' := [(7, .int wv), (6, .int (nI ((o_firstOf S (xs (6 * t + 1))).1))), (5, .int (nI (6 * t))), (0, .ref b), (1, .ref x), (2, .ref mx), (3, .ref u), (4, .ref w)]) hE dL_law_279 (by decide) rfl ?_
  refine zs_aload_n hE 5 dL_law_281 rfl rfl ?_
  refine zs_callVR (av := []) (st := []) (b := mx) hE (m_X7_thrown D E s.heap.size l μ mx ad sc2 ar2) rfl rfl sV_L_126 hO2.2.1 rfl rfl hO2 ⟨by decide, by decide⟩ ⟨by show _ ≤ 603072; omega, by show _ ≤ 7215210; omega⟩ (Nat.le_of_ble_eq_true rfl) dL_law_282 ?_
  refine zs_top (v' := .int (nI ((o_firstOf S (xs (6 * t + 1))).1))) (by rw [hth]) ?_
  refine zs_iload hE 1 dL_law_285 rfl ?_
  refine zs_icmp_eqN (tgt := 292) hE (by omega) (by omega) dL_law_287 (by decide) (fun h9 => ?_) (fun h9 => ?_)
  · refine zs_iload hE 1 dL_law_292 rfl ?_
    refine zs_if_neN (tgt := 309) hE (by omega) dL_law_294 (by decide) (fun h5 => ?_) (fun h5 => ?_)
    · refine zs_goto (tgt := 2202) hE dL_law_309 (by decide) ?_
      refine zs_iinc (v := ((nI (6 * t)) + (6))) (lo' := [(5, .int ((nI (6 * t)) + (6))), (7, .int wv), (6, .int (nI ((o_firstOf S (xs (6 * t + 1))).1))), (0, .ref b), (1, .ref x), (2, .ref mx), (3, .ref u), (4, .ref w)]) hE 2 dL_law_2202 rfl (by first | rfl | decide) (by decide) rfl ?_
      refine zs_goto (tgt := 28) hE dL_law_2205 (by decide) ?_
      refine zs_sub (lo' := [(5, .int ((nI (6 * t)) + (6))), (0, .ref b), (1, .ref x), (2, .ref mx), (3, .ref u), (4, .ref w)]) [0, 3, 4, 5, 6, 7] rfl ?_
      refine zs_lo (lo' := [(5, .int (nI (6 * (t + 1)))), (0, .ref b), (1, .ref x), (2, .ref mx), (3, .ref u), (4, .ref w)]) (by rw [show nI (6 * t) + (6) = nI (6 * (t + 1)) from nI_add (6 * t) 6]) ?_
      exact ih _ _ _ _ _ hI2
    · refine zs_aload_n hE 6 dL_law_297 rfl rfl ?_
      refine zs_iconst (v := (nI 0)) hE dL_law_298 (by decide) ?_
      refine zs_lald hE r2 (by decide) (by decide) dL_law_299 ?_
      refine zs_iload hE 0 dL_law_300 rfl ?_
      refine zs_i2l hE dL_law_302 ?_
      refine zs_lcmp hE dL_law_303 ?_
      refine zs_top (v' := .int (nI 0)) (by rw [show f 0 = wv.toInt64 from (hf0 h5).symm.trans (by rw [← hwo h5]; rfl), lg_self]; rfl) ?_
      refine zs_if_eqN (tgt := 309) hE (by decide) dL_law_304 (by decide) (fun h7 => ?_) (fun h7 => ?_)
      · refine zs_goto (tgt := 2202) hE dL_law_309 (by decide) ?_
        refine zs_iinc (v := ((nI (6 * t)) + (6))) (lo' := [(5, .int ((nI (6 * t)) + (6))), (7, .int wv), (6, .int (nI ((o_firstOf S (xs (6 * t + 1))).1))), (0, .ref b), (1, .ref x), (2, .ref mx), (3, .ref u), (4, .ref w)]) hE 2 dL_law_2202 rfl (by first | rfl | decide) (by decide) rfl ?_
        refine zs_goto (tgt := 28) hE dL_law_2205 (by decide) ?_
        refine zs_sub (lo' := [(5, .int ((nI (6 * t)) + (6))), (0, .ref b), (1, .ref x), (2, .ref mx), (3, .ref u), (4, .ref w)]) [0, 3, 4, 5, 6, 7] rfl ?_
        refine zs_lo (lo' := [(5, .int (nI (6 * (t + 1)))), (0, .ref b), (1, .ref x), (2, .ref mx), (3, .ref u), (4, .ref w)]) (by rw [show nI (6 * t) + (6) = nI (6 * (t + 1)) from nI_add (6 * t) 6]) ?_
        exact ih _ _ _ _ _ hI2
      · exact absurd h7 (by decide)
  · exact absurd rfl h9

set_option maxHeartbeats 4000000 in
set_option maxRecDepth 100000 in
theorem lw_pieceOf {D : va_G} {E : Nat → ClassId} {l : Launch} (hl : l.stackTraces = false) {p : Program} {e : Env} {s : State} {m : MethodId} {below : List Frame} {meth : Method} {c : Code} {b L : Nat} {xs : Nat → Int32} (hL : L ≤ 3072) (hX0 : va_X b L xs s s.heap) (hbl : b < s.heap.size) (hE : zs_E D E s.heap.size (fun q => s.heap.size ≤ q) s m #[Value.ref b] meth c p code 9 RL) (hN : zw_N s) {x mx u w : Nat} {ad μ : Nat → Nat} {Z : Nat} {t : Nat} (ht : 6 * t + 6 ≤ L) {S : sp_S} {κ sc : Nat → Nat} {ar : Nat → Nat → Int32} {K : Heap} (hI : lw_I D E s.heap.size x mx u w ad μ Z S κ sc ar K) (ih : ∀ (S : sp_S) (κ sc : Nat → Nat) (ar : Nat → Nat → Int32) (K : Heap), lw_I D E s.heap.size x mx u w ad μ Z S κ sc ar K → zs_W (fun q => s.heap.size ≤ q) p l e room_1 s m #[Value.ref b] below meth c 9 (lw_Z below #[Value.ref b] s) K (25 + 70 * (t + 1)) (53172 + 240 * (t + 1)) 28 [(5, .int (nI (6 * (t + 1)))), (0, .ref b), (1, .ref x), (2, .ref mx), (3, .ref u), (4, .ref w)] []) : zs_W (fun q => s.heap.size ≤ q) p l e room_1 s m #[Value.ref b] below meth c 9 (lw_Z below #[Value.ref b] s) K (25 + 70 * t) (53172 + 240 * t) 312 [(5, .int (nI (6 * t))), (0, .ref b), (1, .ref x), (2, .ref mx), (3, .ref u), (4, .ref w)] [] := by
  have hI0 := hI
  obtain ⟨hw, hX, hO, hM, hμ, ⟨k1, k2, k3, k4, k5⟩, hB, ⟨z1, z2⟩, ⟨f0, ru0⟩, ⟨g0, rw0⟩⟩ := hI
  have hFB : ∀ q, cs_F κ q → s.heap.size ≤ q := fun q hq => by rcases Nat.lt_or_ge q s.heap.size with z | z; have := hB q z; have := hq.1; omega; exact z
  have hFM : ∀ q, md_F μ q → s.heap.size ≤ q := fun q hq => (hμ q hq).2.2.2.2
  have hxX : ∃ fs, zs_pt D x (.inr (6, fs)) K := by obtain ⟨a1, a2, a3, a4, a5, lp, lv, lh, lz, tg, ⟨t0, t1, t2, t3, t4, t5, hx, -⟩, -⟩ := hX; exact ⟨_, hx⟩
  obtain ⟨fs, hx⟩ := hxX
  refine zs_aload_n hE 2 dL_law_312 rfl rfl ?_
  refine zs_aload_n hE 1 dL_law_313 rfl rfl ?_
  refine zs_iload hE 0 dL_law_314 rfl ?_
  refine zs_iconst (v := (nI 1)) hE dL_law_316 (by decide) ?_
  refine zs_iaddN hE dL_law_317 ?_
  refine zs_sld hE hX0 hbl (Nat.not_le.mpr hbl) (by omega) (by omega) dL_law_318 ?_
  refine zs_aload_n hE 4 dL_law_319 rfl rfl ?_
  have h4 : (o_pieceOf S (xs (6 * t + 1))).1 ≤ 4 := v4_pieceOf S (xs (6 * t + 1))
  refine zw_callW (av := [.ref x, .int (xs (6 * t + 1)), .ref u]) (st := []) hE hN (m_L_pieceOf D E s.heap.size l hl κ S x u (xs (6 * t + 1)) k1) sW_L_134 ⟨⟨hX, hw⟩, f0, ru0⟩ ⟨by decide, by decide⟩ ⟨by show _ + 1 ≤ 603072; omega, by show _ + 6 ≤ 7215210; omega⟩ (fun q h9 => by rcases h9 with h9 | h9; exact hFB q h9; rw [h9]; exact k4) (Nat.le_of_ble_eq_true rfl) dL_law_320 (fun v H1 hv z1c kk1 => ?_)
  obtain ⟨rfl, -, ⟨κ1, hX1, hk1⟩, f, r1, hf0⟩ := hv
  refine zs_widen (k' := 25 + 70 * (t + 1)) (n' := 53172 + 240 * (t + 1)) (by show 25 + 70 * t + 1 ≤ _; omega) (by show 53172 + 240 * t + 6 ≤ _; omega) ?_
  have hO1 : md_O D E μ mx ad sc ar H1 := lw_m hI0 (fun q q1 q2 => kk1 q q1 (fun z => q2 (by rcases z with z | z; exact Or.inl z; exact Or.inr (Or.inl z))))
  refine zs_istore (lo' := [(6, .int (nI ((o_pieceOf S (xs (6 * t + 1))).1))), (5, .int (nI (6 * t))), (0, .ref b), (1, .ref x), (2, .ref mx), (3, .ref u), (4, .ref w)]) hE dL_law_323 (by decide) rfl ?_
  refine zs_aload_n hE 4 dL_law_325 rfl rfl ?_
  refine zs_aload_n hE 2 dL_law_326 rfl rfl ?_
  refine zs_iload hE 1 dL_law_327 rfl ?_
  refine zs_iconst (v := (nI 1)) hE dL_law_329 (by decide) ?_
  refine zs_iaddN hE dL_law_330 ?_
  refine zs_sld hE hX0 hbl (Nat.not_le.mpr hbl) (by omega) (by omega) dL_law_331 ?_
  refine zs_callV (av := [.int (xs (6 * t + 1))]) (st := []) hE (m_X7_pieceOf D E s.heap.size l μ mx ad sc ar S (xs (6 * t + 1)) hM hw) sV_L_136 hO1.2.1 rfl rfl hO1 ⟨by decide, by decide⟩ ⟨by show _ + 0 ≤ 603072; omega, by show _ + 0 ≤ 7215210; omega⟩ hFM (Nat.le_of_ble_eq_true rfl) dL_law_332 (fun v2 H2 hv2 z2c kk2 => ?_)
  obtain ⟨hz2, ⟨wv, rfl, hwo⟩, sc2, ar2, hO2, hM2, hth⟩ := hv2
  refine zs_widen (k' := 25 + 70 * (t + 1)) (n' := 53172 + 240 * (t + 1)) (by show _ + 0 ≤ _; omega) (by show _ + 0 ≤ _; omega) ?_
  have hI2 : lw_I D E s.heap.size x mx u w ad μ Z (o_pieceOf S (xs (6 * t + 1))).2.2 κ1 sc2 ar2 H2 := lw_n hI0 (wfo_pieceOf hw (xs (6 * t + 1))) z1c hX1 hk1 hz2 kk2 hO2 hM2 ⟨f, r1⟩ ⟨g0, rw0.kept (kk1 _ rw0.lt (fun z => by rcases z with z | z; have := z.2; omega; exact k3 z.symm))⟩
  have r2 := r1.kept (kk2 _ r1.lt (fun z => (hμ u z).2.2.1 rfl))
  refine zs_istore (lo' := [(7, .int wv), (6, .int (nI ((o_pieceOf S (xs (6 * t + 1))).1))), (5, .int (nI (6 * t))), (0, .ref b), (1, .ref x), (2, .ref mx), (3, .ref u), (4, .ref w)]) hE dL_law_335 (by decide) rfl ?_
  refine zs_aload_n hE 5 dL_law_337 rfl rfl ?_
  refine zs_callVR (av := []) (st := []) (b := mx) hE (m_X7_thrown D E s.heap.size l μ mx ad sc2 ar2) rfl rfl sV_L_126 hO2.2.1 rfl rfl hO2 ⟨by decide, by decide⟩ ⟨by show _ ≤ 603072; omega, by show _ ≤ 7215210; omega⟩ (Nat.le_of_ble_eq_true rfl) dL_law_338 ?_
  refine zs_top (v' := .int (nI ((o_pieceOf S (xs (6 * t + 1))).1))) (by rw [hth]) ?_
  refine zs_iload hE 1 dL_law_341 rfl ?_
  refine zs_icmp_eqN (tgt := 348) hE (by omega) (by omega) dL_law_343 (by decide) (fun h9 => ?_) (fun h9 => ?_)
  · refine zs_iload hE 1 dL_law_348 rfl ?_
    refine zs_if_neN (tgt := 365) hE (by omega) dL_law_350 (by decide) (fun h5 => ?_) (fun h5 => ?_)
    · refine zs_goto (tgt := 2202) hE dL_law_365 (by decide) ?_
      refine zs_iinc (v := ((nI (6 * t)) + (6))) (lo' := [(5, .int ((nI (6 * t)) + (6))), (7, .int wv), (6, .int (nI ((o_pieceOf S (xs (6 * t + 1))).1))), (0, .ref b), (1, .ref x), (2, .ref mx), (3, .ref u), (4, .ref w)]) hE 2 dL_law_2202 rfl (by first | rfl | decide) (by decide) rfl ?_
      refine zs_goto (tgt := 28) hE dL_law_2205 (by decide) ?_
      refine zs_sub (lo' := [(5, .int ((nI (6 * t)) + (6))), (0, .ref b), (1, .ref x), (2, .ref mx), (3, .ref u), (4, .ref w)]) [0, 3, 4, 5, 6, 7] rfl ?_
      refine zs_lo (lo' := [(5, .int (nI (6 * (t + 1)))), (0, .ref b), (1, .ref x), (2, .ref mx), (3, .ref u), (4, .ref w)]) (by rw [show nI (6 * t) + (6) = nI (6 * (t + 1)) from nI_add (6 * t) 6]) ?_
      exact ih _ _ _ _ _ hI2
    · refine zs_aload_n hE 6 dL_law_353 rfl rfl ?_
      refine zs_iconst (v := (nI 0)) hE dL_law_354 (by decide) ?_
      refine zs_lald hE r2 (by decide) (by decide) dL_law_355 ?_
      refine zs_iload hE 0 dL_law_356 rfl ?_
      refine zs_i2l hE dL_law_358 ?_
      refine zs_lcmp hE dL_law_359 ?_
      refine zs_top (v' := .int (nI 0)) (by rw [show f 0 = wv.toInt64 from (hf0 h5).symm.trans (by rw [← hwo h5]; rfl), lg_self]; rfl) ?_
      refine zs_if_eqN (tgt := 365) hE (by decide) dL_law_360 (by decide) (fun h7 => ?_) (fun h7 => ?_)
      · refine zs_goto (tgt := 2202) hE dL_law_365 (by decide) ?_
        refine zs_iinc (v := ((nI (6 * t)) + (6))) (lo' := [(5, .int ((nI (6 * t)) + (6))), (7, .int wv), (6, .int (nI ((o_pieceOf S (xs (6 * t + 1))).1))), (0, .ref b), (1, .ref x), (2, .ref mx), (3, .ref u), (4, .ref w)]) hE 2 dL_law_2202 rfl (by first | rfl | decide) (by decide) rfl ?_
        refine zs_goto (tgt := 28) hE dL_law_2205 (by decide) ?_
        refine zs_sub (lo' := [(5, .int ((nI (6 * t)) + (6))), (0, .ref b), (1, .ref x), (2, .ref mx), (3, .ref u), (4, .ref w)]) [0, 3, 4, 5, 6, 7] rfl ?_
        refine zs_lo (lo' := [(5, .int (nI (6 * (t + 1)))), (0, .ref b), (1, .ref x), (2, .ref mx), (3, .ref u), (4, .ref w)]) (by rw [show nI (6 * t) + (6) = nI (6 * (t + 1)) from nI_add (6 * t) 6]) ?_
        exact ih _ _ _ _ _ hI2
      · exact absurd h7 (by decide)
  · exact absurd rfl h9

set_option maxHeartbeats 4000000 in
set_option maxRecDepth 100000 in
theorem lw_note {D : va_G} {E : Nat → ClassId} {l : Launch} (hl : l.stackTraces = false) {p : Program} {e : Env} {s : State} {m : MethodId} {below : List Frame} {meth : Method} {c : Code} {b L : Nat} {xs : Nat → Int32} (hL : L ≤ 3072) (hX0 : va_X b L xs s s.heap) (hbl : b < s.heap.size) (hE : zs_E D E s.heap.size (fun q => s.heap.size ≤ q) s m #[Value.ref b] meth c p code 9 RL) (hN : zw_N s) {x mx u w : Nat} {ad μ : Nat → Nat} {Z : Nat} {t : Nat} (ht : 6 * t + 6 ≤ L) {S : sp_S} {κ sc : Nat → Nat} {ar : Nat → Nat → Int32} {K : Heap} (hI : lw_I D E s.heap.size x mx u w ad μ Z S κ sc ar K) (ih : ∀ (S : sp_S) (κ sc : Nat → Nat) (ar : Nat → Nat → Int32) (K : Heap), lw_I D E s.heap.size x mx u w ad μ Z S κ sc ar K → zs_W (fun q => s.heap.size ≤ q) p l e room_1 s m #[Value.ref b] below meth c 9 (lw_Z below #[Value.ref b] s) K (25 + 70 * (t + 1)) (53172 + 240 * (t + 1)) 28 [(5, .int (nI (6 * (t + 1)))), (0, .ref b), (1, .ref x), (2, .ref mx), (3, .ref u), (4, .ref w)] []) : zs_W (fun q => s.heap.size ≤ q) p l e room_1 s m #[Value.ref b] below meth c 9 (lw_Z below #[Value.ref b] s) K (25 + 70 * t) (53172 + 240 * t) 368 [(5, .int (nI (6 * t))), (0, .ref b), (1, .ref x), (2, .ref mx), (3, .ref u), (4, .ref w)] [] := by
  have hI0 := hI
  obtain ⟨hw, hX, hO, hM, hμ, ⟨k1, k2, k3, k4, k5⟩, hB, ⟨z1, z2⟩, ⟨f0, ru0⟩, ⟨g0, rw0⟩⟩ := hI
  have hFB : ∀ q, cs_F κ q → s.heap.size ≤ q := fun q hq => by rcases Nat.lt_or_ge q s.heap.size with z | z; have := hB q z; have := hq.1; omega; exact z
  have hFM : ∀ q, md_F μ q → s.heap.size ≤ q := fun q hq => (hμ q hq).2.2.2.2
  have hxX : ∃ fs, zs_pt D x (.inr (6, fs)) K := by obtain ⟨a1, a2, a3, a4, a5, lp, lv, lh, lz, tg, ⟨t0, t1, t2, t3, t4, t5, hx, -⟩, -⟩ := hX; exact ⟨_, hx⟩
  obtain ⟨fs, hx⟩ := hxX
  refine zs_aload_n hE 2 dL_law_368 rfl rfl ?_
  refine zs_aload_n hE 1 dL_law_369 rfl rfl ?_
  refine zs_iload hE 0 dL_law_370 rfl ?_
  refine zs_iconst (v := (nI 1)) hE dL_law_372 (by decide) ?_
  refine zs_iaddN hE dL_law_373 ?_
  refine zs_sld hE hX0 hbl (Nat.not_le.mpr hbl) (by omega) (by omega) dL_law_374 ?_
  refine zs_aload_n hE 4 dL_law_375 rfl rfl ?_
  have h4 : (o_note S (xs (6 * t + 1))).1 ≤ 4 := v4_note S (xs (6 * t + 1))
  refine zw_callW (av := [.ref x, .int (xs (6 * t + 1)), .ref u]) (st := []) hE hN (m_L_note D E s.heap.size l hl κ S x u (xs (6 * t + 1)) k1) sW_L_137 ⟨⟨hX, hw⟩, f0, ru0⟩ ⟨by decide, by decide⟩ ⟨by show _ + 1 ≤ 603072; omega, by show _ + 6 ≤ 7215210; omega⟩ (fun q h9 => by rcases h9 with h9 | h9; exact hFB q h9; rw [h9]; exact k4) (Nat.le_of_ble_eq_true rfl) dL_law_376 (fun v H1 hv z1c kk1 => ?_)
  obtain ⟨rfl, -, ⟨κ1, hX1, hk1⟩, f, r1, hf0⟩ := hv
  refine zs_widen (k' := 25 + 70 * (t + 1)) (n' := 53172 + 240 * (t + 1)) (by show 25 + 70 * t + 1 ≤ _; omega) (by show 53172 + 240 * t + 6 ≤ _; omega) ?_
  have hO1 : md_O D E μ mx ad sc ar H1 := lw_m hI0 (fun q q1 q2 => kk1 q q1 (fun z => q2 (by rcases z with z | z; exact Or.inl z; exact Or.inr (Or.inl z))))
  refine zs_istore (lo' := [(6, .int (nI ((o_note S (xs (6 * t + 1))).1))), (5, .int (nI (6 * t))), (0, .ref b), (1, .ref x), (2, .ref mx), (3, .ref u), (4, .ref w)]) hE dL_law_379 (by decide) rfl ?_
  refine zs_aload_n hE 4 dL_law_381 rfl rfl ?_
  refine zs_aload_n hE 2 dL_law_382 rfl rfl ?_
  refine zs_iload hE 1 dL_law_383 rfl ?_
  refine zs_iconst (v := (nI 1)) hE dL_law_385 (by decide) ?_
  refine zs_iaddN hE dL_law_386 ?_
  refine zs_sld hE hX0 hbl (Nat.not_le.mpr hbl) (by omega) (by omega) dL_law_387 ?_
  refine zs_callV (av := [.int (xs (6 * t + 1))]) (st := []) hE (m_X7_note D E s.heap.size l μ mx ad sc ar S (xs (6 * t + 1)) hM hw) sV_L_139 hO1.2.1 rfl rfl hO1 ⟨by decide, by decide⟩ ⟨by show _ + 0 ≤ 603072; omega, by show _ + 0 ≤ 7215210; omega⟩ hFM (Nat.le_of_ble_eq_true rfl) dL_law_388 (fun v2 H2 hv2 z2c kk2 => ?_)
  obtain ⟨hz2, ⟨wv, rfl, hwo⟩, sc2, ar2, hO2, hM2, hth⟩ := hv2
  refine zs_widen (k' := 25 + 70 * (t + 1)) (n' := 53172 + 240 * (t + 1)) (by show _ + 0 ≤ _; omega) (by show _ + 0 ≤ _; omega) ?_
  have hI2 : lw_I D E s.heap.size x mx u w ad μ Z (o_note S (xs (6 * t + 1))).2.2 κ1 sc2 ar2 H2 := lw_n hI0 (wfo_note hw (xs (6 * t + 1))) z1c hX1 hk1 hz2 kk2 hO2 hM2 ⟨f, r1⟩ ⟨g0, rw0.kept (kk1 _ rw0.lt (fun z => by rcases z with z | z; have := z.2; omega; exact k3 z.symm))⟩
  have r2 := r1.kept (kk2 _ r1.lt (fun z => (hμ u z).2.2.1 rfl))
  refine zs_istore (lo' := [(7, .int wv), (6, .int (nI ((o_note S (xs (6 * t + 1))).1))), (5, .int (nI (6 * t))), (0, .ref b), (1, .ref x), (2, .ref mx), (3, .ref u), (4, .ref w)]) hE dL_law_391 (by decide) rfl ?_
  refine zs_aload_n hE 5 dL_law_393 rfl rfl ?_
  refine zs_callVR (av := []) (st := []) (b := mx) hE (m_X7_thrown D E s.heap.size l μ mx ad sc2 ar2) rfl rfl sV_L_126 hO2.2.1 rfl rfl hO2 ⟨by decide, by decide⟩ ⟨by show _ ≤ 603072; omega, by show _ ≤ 7215210; omega⟩ (Nat.le_of_ble_eq_true rfl) dL_law_394 ?_
  refine zs_top (v' := .int (nI ((o_note S (xs (6 * t + 1))).1))) (by rw [hth]) ?_
  refine zs_iload hE 1 dL_law_397 rfl ?_
  refine zs_icmp_eqN (tgt := 404) hE (by omega) (by omega) dL_law_399 (by decide) (fun h9 => ?_) (fun h9 => ?_)
  · refine zs_iload hE 1 dL_law_404 rfl ?_
    refine zs_if_neN (tgt := 421) hE (by omega) dL_law_406 (by decide) (fun h5 => ?_) (fun h5 => ?_)
    · refine zs_goto (tgt := 2202) hE dL_law_421 (by decide) ?_
      refine zs_iinc (v := ((nI (6 * t)) + (6))) (lo' := [(5, .int ((nI (6 * t)) + (6))), (7, .int wv), (6, .int (nI ((o_note S (xs (6 * t + 1))).1))), (0, .ref b), (1, .ref x), (2, .ref mx), (3, .ref u), (4, .ref w)]) hE 2 dL_law_2202 rfl (by first | rfl | decide) (by decide) rfl ?_
      refine zs_goto (tgt := 28) hE dL_law_2205 (by decide) ?_
      refine zs_sub (lo' := [(5, .int ((nI (6 * t)) + (6))), (0, .ref b), (1, .ref x), (2, .ref mx), (3, .ref u), (4, .ref w)]) [0, 3, 4, 5, 6, 7] rfl ?_
      refine zs_lo (lo' := [(5, .int (nI (6 * (t + 1)))), (0, .ref b), (1, .ref x), (2, .ref mx), (3, .ref u), (4, .ref w)]) (by rw [show nI (6 * t) + (6) = nI (6 * (t + 1)) from nI_add (6 * t) 6]) ?_
      exact ih _ _ _ _ _ hI2
    · refine zs_aload_n hE 6 dL_law_409 rfl rfl ?_
      refine zs_iconst (v := (nI 0)) hE dL_law_410 (by decide) ?_
      refine zs_lald hE r2 (by decide) (by decide) dL_law_411 ?_
      refine zs_iload hE 0 dL_law_412 rfl ?_
      refine zs_i2l hE dL_law_414 ?_
      refine zs_lcmp hE dL_law_415 ?_
      refine zs_top (v' := .int (nI 0)) (by rw [show f 0 = wv.toInt64 from (hf0 h5).symm.trans (by rw [← hwo h5]; rfl), lg_self]; rfl) ?_
      refine zs_if_eqN (tgt := 421) hE (by decide) dL_law_416 (by decide) (fun h7 => ?_) (fun h7 => ?_)
      · refine zs_goto (tgt := 2202) hE dL_law_421 (by decide) ?_
        refine zs_iinc (v := ((nI (6 * t)) + (6))) (lo' := [(5, .int ((nI (6 * t)) + (6))), (7, .int wv), (6, .int (nI ((o_note S (xs (6 * t + 1))).1))), (0, .ref b), (1, .ref x), (2, .ref mx), (3, .ref u), (4, .ref w)]) hE 2 dL_law_2202 rfl (by first | rfl | decide) (by decide) rfl ?_
        refine zs_goto (tgt := 28) hE dL_law_2205 (by decide) ?_
        refine zs_sub (lo' := [(5, .int ((nI (6 * t)) + (6))), (0, .ref b), (1, .ref x), (2, .ref mx), (3, .ref u), (4, .ref w)]) [0, 3, 4, 5, 6, 7] rfl ?_
        refine zs_lo (lo' := [(5, .int (nI (6 * (t + 1)))), (0, .ref b), (1, .ref x), (2, .ref mx), (3, .ref u), (4, .ref w)]) (by rw [show nI (6 * t) + (6) = nI (6 * (t + 1)) from nI_add (6 * t) 6]) ?_
        exact ih _ _ _ _ _ hI2
      · exact absurd h7 (by decide)
  · exact absurd rfl h9

set_option maxHeartbeats 4000000 in
set_option maxRecDepth 100000 in
theorem lw_wipe {D : va_G} {E : Nat → ClassId} {l : Launch} (hl : l.stackTraces = false) {p : Program} {e : Env} {s : State} {m : MethodId} {below : List Frame} {meth : Method} {c : Code} {b L : Nat} {xs : Nat → Int32} (hL : L ≤ 3072) (hX0 : va_X b L xs s s.heap) (hbl : b < s.heap.size) (hE : zs_E D E s.heap.size (fun q => s.heap.size ≤ q) s m #[Value.ref b] meth c p code 9 RL) (hN : zw_N s) {x mx u w : Nat} {ad μ : Nat → Nat} {Z : Nat} {t : Nat} (ht : 6 * t + 6 ≤ L) {S : sp_S} {κ sc : Nat → Nat} {ar : Nat → Nat → Int32} {K : Heap} (hI : lw_I D E s.heap.size x mx u w ad μ Z S κ sc ar K) (ih : ∀ (S : sp_S) (κ sc : Nat → Nat) (ar : Nat → Nat → Int32) (K : Heap), lw_I D E s.heap.size x mx u w ad μ Z S κ sc ar K → zs_W (fun q => s.heap.size ≤ q) p l e room_1 s m #[Value.ref b] below meth c 9 (lw_Z below #[Value.ref b] s) K (25 + 70 * (t + 1)) (53172 + 240 * (t + 1)) 28 [(5, .int (nI (6 * (t + 1)))), (0, .ref b), (1, .ref x), (2, .ref mx), (3, .ref u), (4, .ref w)] []) : zs_W (fun q => s.heap.size ≤ q) p l e room_1 s m #[Value.ref b] below meth c 9 (lw_Z below #[Value.ref b] s) K (25 + 70 * t) (53172 + 240 * t) 424 [(5, .int (nI (6 * t))), (0, .ref b), (1, .ref x), (2, .ref mx), (3, .ref u), (4, .ref w)] [] := by
  have hI0 := hI
  obtain ⟨hw, hX, hO, hM, hμ, ⟨k1, k2, k3, k4, k5⟩, hB, ⟨z1, z2⟩, ⟨f0, ru0⟩, ⟨g0, rw0⟩⟩ := hI
  have hFB : ∀ q, cs_F κ q → s.heap.size ≤ q := fun q hq => by rcases Nat.lt_or_ge q s.heap.size with z | z; have := hB q z; have := hq.1; omega; exact z
  have hFM : ∀ q, md_F μ q → s.heap.size ≤ q := fun q hq => (hμ q hq).2.2.2.2
  have hxX : ∃ fs, zs_pt D x (.inr (6, fs)) K := by obtain ⟨a1, a2, a3, a4, a5, lp, lv, lh, lz, tg, ⟨t0, t1, t2, t3, t4, t5, hx, -⟩, -⟩ := hX; exact ⟨_, hx⟩
  obtain ⟨fs, hx⟩ := hxX
  refine zs_aload_n hE 2 dL_law_424 rfl rfl ?_
  refine zs_callV (av := []) (st := []) hE (m_X6_wipe D E s.heap.size l κ S x) sV_L_140 hx rfl rfl ⟨hX, hw⟩ ⟨by decide, by decide⟩ ⟨by show _ + 0 ≤ 603072; omega, by show _ + 0 ≤ 7215210; omega⟩ hFB (Nat.le_of_ble_eq_true rfl) dL_law_425 (fun v H1 hv z1c kk1 => ?_)
  obtain ⟨o0, rfl, -, κ1, hX1, hk1⟩ := hv
  have hO1 : md_O D E μ mx ad sc ar H1 := lw_m hI0 (fun q q1 q2 => kk1 q q1 (fun z => q2 (Or.inl z)))
  refine zs_widen (k' := 25 + 70 * (t + 1)) (n' := 53172 + 240 * (t + 1)) (by show 25 + 70 * t + 0 ≤ _; omega) (by show 53172 + 240 * t + 0 ≤ _; omega) ?_
  refine zs_aload_n hE 3 dL_law_428 rfl rfl ?_
  refine zs_callV (av := []) (st := [.int (nI (sp_ty S).length)]) hE (m_X7_wipe D E s.heap.size l μ mx ad sc ar S hM hw) sV_L_143 hO1.2.1 rfl rfl hO1 ⟨by decide, by decide⟩ ⟨by show _ + 0 ≤ 603072; omega, by show _ + 0 ≤ 7215210; omega⟩ hFM (Nat.le_of_ble_eq_true rfl) dL_law_429 (fun v2 H2 hv2 z2c kk2 => ?_)
  obtain ⟨hz2, ⟨wv, rfl, hwo⟩, sc2, ar2, hO2, hM2, hth⟩ := hv2
  refine zs_widen (k' := 25 + 70 * (t + 1)) (n' := 53172 + 240 * (t + 1)) (by show _ + 0 ≤ _; omega) (by show _ + 0 ≤ _; omega) ?_
  have hwv : wv = nI (sp_ty S).length := by have := hwo rfl; injection this
  have hI2 : lw_I D E s.heap.size x mx u w ad μ Z (o_wipe S).2.2 κ1 sc2 ar2 H2 := lw_n hI0 (wf_wipe hw) z1c hX1 hk1 hz2 kk2 hO2 hM2 ⟨f0, ru0.kept (kk1 _ ru0.lt (fun z => by have := z.2; omega))⟩ ⟨g0, rw0.kept (kk1 _ rw0.lt (fun z => by have := z.2; omega))⟩
  refine zs_icmp_eq (tgt := 2202) hE dL_law_432 (by decide) (fun h9 => ?_) (fun h9 => ?_)
  · refine zs_iinc (v := ((nI (6 * t)) + (6))) (lo' := [(5, .int ((nI (6 * t)) + (6))), (0, .ref b), (1, .ref x), (2, .ref mx), (3, .ref u), (4, .ref w)]) hE 0 dL_law_2202 rfl (by first | rfl | decide) (by decide) rfl ?_
    refine zs_goto (tgt := 28) hE dL_law_2205 (by decide) ?_
    refine zs_sub (lo' := [(5, .int ((nI (6 * t)) + (6))), (0, .ref b), (1, .ref x), (2, .ref mx), (3, .ref u), (4, .ref w)]) [0, 1, 2, 3, 4, 5] rfl ?_
    refine zs_lo (lo' := [(5, .int (nI (6 * (t + 1)))), (0, .ref b), (1, .ref x), (2, .ref mx), (3, .ref u), (4, .ref w)]) (by rw [show nI (6 * t) + (6) = nI (6 * (t + 1)) from nI_add (6 * t) 6]) ?_
    exact ih _ _ _ _ _ hI2
  · exact absurd hwv.symm h9

set_option maxHeartbeats 4000000 in
set_option maxRecDepth 100000 in
theorem lw_write {D : va_G} {E : Nat → ClassId} {l : Launch} (hl : l.stackTraces = false) {p : Program} {e : Env} {s : State} {m : MethodId} {below : List Frame} {meth : Method} {c : Code} {b L : Nat} {xs : Nat → Int32} (hL : L ≤ 3072) (hX0 : va_X b L xs s s.heap) (hbl : b < s.heap.size) (hE : zs_E D E s.heap.size (fun q => s.heap.size ≤ q) s m #[Value.ref b] meth c p code 9 RL) (hN : zw_N s) {x mx u w : Nat} {ad μ : Nat → Nat} {Z : Nat} {t : Nat} (ht : 6 * t + 6 ≤ L) {S : sp_S} {κ sc : Nat → Nat} {ar : Nat → Nat → Int32} {K : Heap} (hI : lw_I D E s.heap.size x mx u w ad μ Z S κ sc ar K) (ih : ∀ (S : sp_S) (κ sc : Nat → Nat) (ar : Nat → Nat → Int32) (K : Heap), lw_I D E s.heap.size x mx u w ad μ Z S κ sc ar K → zs_W (fun q => s.heap.size ≤ q) p l e room_1 s m #[Value.ref b] below meth c 9 (lw_Z below #[Value.ref b] s) K (25 + 70 * (t + 1)) (53172 + 240 * (t + 1)) 28 [(5, .int (nI (6 * (t + 1)))), (0, .ref b), (1, .ref x), (2, .ref mx), (3, .ref u), (4, .ref w)] []) : zs_W (fun q => s.heap.size ≤ q) p l e room_1 s m #[Value.ref b] below meth c 9 (lw_Z below #[Value.ref b] s) K (25 + 70 * t) (53172 + 240 * t) 437 [(5, .int (nI (6 * t))), (0, .ref b), (1, .ref x), (2, .ref mx), (3, .ref u), (4, .ref w)] [] := by
  have hI0 := hI
  obtain ⟨hw, hX, hO, hM, hμ, ⟨k1, k2, k3, k4, k5⟩, hB, ⟨z1, z2⟩, ⟨f0, ru0⟩, ⟨g0, rw0⟩⟩ := hI
  have hFB : ∀ q, cs_F κ q → s.heap.size ≤ q := fun q hq => by rcases Nat.lt_or_ge q s.heap.size with z | z; have := hB q z; have := hq.1; omega; exact z
  have hFM : ∀ q, md_F μ q → s.heap.size ≤ q := fun q hq => (hμ q hq).2.2.2.2
  have hxX : ∃ fs, zs_pt D x (.inr (6, fs)) K := by obtain ⟨a1, a2, a3, a4, a5, lp, lv, lh, lz, tg, ⟨t0, t1, t2, t3, t4, t5, hx, -⟩, -⟩ := hX; exact ⟨_, hx⟩
  obtain ⟨fs, hx⟩ := hxX
  refine zs_aload_n hE 2 dL_law_437 rfl rfl ?_
  refine zs_aload_n hE 1 dL_law_438 rfl rfl ?_
  refine zs_iload hE 0 dL_law_439 rfl ?_
  refine zs_iconst (v := (nI 1)) hE dL_law_441 (by decide) ?_
  refine zs_iaddN hE dL_law_442 ?_
  refine zs_sld hE hX0 hbl (Nat.not_le.mpr hbl) (by omega) (by omega) dL_law_443 ?_
  refine zs_aload_n hE 1 dL_law_444 rfl rfl ?_
  refine zs_iload hE 0 dL_law_445 rfl ?_
  refine zs_iconst (v := (nI 2)) hE dL_law_447 (by decide) ?_
  refine zs_iaddN hE dL_law_448 ?_
  refine zs_sld hE hX0 hbl (Nat.not_le.mpr hbl) (by omega) (by omega) dL_law_449 ?_
  refine zs_aload_n hE 1 dL_law_450 rfl rfl ?_
  refine zs_iload hE 0 dL_law_451 rfl ?_
  refine zs_iconst (v := (nI 3)) hE dL_law_453 (by decide) ?_
  refine zs_iaddN hE dL_law_454 ?_
  refine zs_sld hE hX0 hbl (Nat.not_le.mpr hbl) (by omega) (by omega) dL_law_455 ?_
  refine zs_aload_n hE 1 dL_law_456 rfl rfl ?_
  refine zs_iload hE 0 dL_law_457 rfl ?_
  refine zs_iconst (v := (nI 4)) hE dL_law_459 (by decide) ?_
  refine zs_iaddN hE dL_law_460 ?_
  refine zs_sld hE hX0 hbl (Nat.not_le.mpr hbl) (by omega) (by omega) dL_law_461 ?_
  refine zs_aload_n hE 4 dL_law_462 rfl rfl ?_
  have h4 : (o_write S (xs (6 * t + 1)) (xs (6 * t + 2)) (xs (6 * t + 3)) (xs (6 * t + 4))).1 ≤ 4 := v4_write S (xs (6 * t + 1)) (xs (6 * t + 2)) (xs (6 * t + 3)) (xs (6 * t + 4))
  refine zw_callW (av := [.ref x, .int (xs (6 * t + 1)), .int (xs (6 * t + 2)), .int (xs (6 * t + 3)), .int (xs (6 * t + 4)), .ref u]) (st := []) hE hN (m_L_write D E s.heap.size l hl κ S x u (xs (6 * t + 1)) (xs (6 * t + 2)) (xs (6 * t + 3)) (xs (6 * t + 4)) k1) sW_L_144 ⟨⟨hX, hw⟩, f0, ru0⟩ ⟨by decide, by decide⟩ ⟨by show _ + 8 ≤ 603072; omega, by show _ + 64 ≤ 7215210; omega⟩ (fun q h9 => by rcases h9 with h9 | h9; exact hFB q h9; rw [h9]; exact k4) (Nat.le_of_ble_eq_true rfl) dL_law_463 (fun v H1 hv z1c kk1 => ?_)
  obtain ⟨rfl, -, ⟨κ1, hX1, hk1⟩, f, r1, hf0⟩ := hv
  refine zs_widen (k' := 25 + 70 * (t + 1)) (n' := 53172 + 240 * (t + 1)) (by show 25 + 70 * t + 8 ≤ _; omega) (by show 53172 + 240 * t + 64 ≤ _; omega) ?_
  have hO1 : md_O D E μ mx ad sc ar H1 := lw_m hI0 (fun q q1 q2 => kk1 q q1 (fun z => q2 (by rcases z with z | z; exact Or.inl z; exact Or.inr (Or.inl z))))
  refine zs_istore (lo' := [(6, .int (nI ((o_write S (xs (6 * t + 1)) (xs (6 * t + 2)) (xs (6 * t + 3)) (xs (6 * t + 4))).1))), (5, .int (nI (6 * t))), (0, .ref b), (1, .ref x), (2, .ref mx), (3, .ref u), (4, .ref w)]) hE dL_law_466 (by decide) rfl ?_
  refine zs_aload_n hE 4 dL_law_468 rfl rfl ?_
  refine zs_aload_n hE 2 dL_law_469 rfl rfl ?_
  refine zs_iload hE 1 dL_law_470 rfl ?_
  refine zs_iconst (v := (nI 1)) hE dL_law_472 (by decide) ?_
  refine zs_iaddN hE dL_law_473 ?_
  refine zs_sld hE hX0 hbl (Nat.not_le.mpr hbl) (by omega) (by omega) dL_law_474 ?_
  refine zs_aload_n hE 2 dL_law_475 rfl rfl ?_
  refine zs_iload hE 1 dL_law_476 rfl ?_
  refine zs_iconst (v := (nI 2)) hE dL_law_478 (by decide) ?_
  refine zs_iaddN hE dL_law_479 ?_
  refine zs_sld hE hX0 hbl (Nat.not_le.mpr hbl) (by omega) (by omega) dL_law_480 ?_
  refine zs_aload_n hE 2 dL_law_481 rfl rfl ?_
  refine zs_iload hE 1 dL_law_482 rfl ?_
  refine zs_iconst (v := (nI 3)) hE dL_law_484 (by decide) ?_
  refine zs_iaddN hE dL_law_485 ?_
  refine zs_sld hE hX0 hbl (Nat.not_le.mpr hbl) (by omega) (by omega) dL_law_486 ?_
  refine zs_aload_n hE 2 dL_law_487 rfl rfl ?_
  refine zs_iload hE 1 dL_law_488 rfl ?_
  refine zs_iconst (v := (nI 4)) hE dL_law_490 (by decide) ?_
  refine zs_iaddN hE dL_law_491 ?_
  refine zs_sld hE hX0 hbl (Nat.not_le.mpr hbl) (by omega) (by omega) dL_law_492 ?_
  refine zs_callV (av := [.int (xs (6 * t + 1)), .int (xs (6 * t + 2)), .int (xs (6 * t + 3)), .int (xs (6 * t + 4))]) (st := []) hE (m_X7_write D E s.heap.size l μ mx ad sc ar S (xs (6 * t + 1)) (xs (6 * t + 2)) (xs (6 * t + 3)) (xs (6 * t + 4)) hM hw) sV_L_147 hO1.2.1 rfl rfl hO1 ⟨by decide, by decide⟩ ⟨by show _ + 0 ≤ 603072; omega, by show _ + 0 ≤ 7215210; omega⟩ hFM (Nat.le_of_ble_eq_true rfl) dL_law_493 (fun v2 H2 hv2 z2c kk2 => ?_)
  obtain ⟨hz2, ⟨wv, rfl, hwo⟩, sc2, ar2, hO2, hM2, hth⟩ := hv2
  refine zs_widen (k' := 25 + 70 * (t + 1)) (n' := 53172 + 240 * (t + 1)) (by show _ + 0 ≤ _; omega) (by show _ + 0 ≤ _; omega) ?_
  have hI2 : lw_I D E s.heap.size x mx u w ad μ Z (o_write S (xs (6 * t + 1)) (xs (6 * t + 2)) (xs (6 * t + 3)) (xs (6 * t + 4))).2.2 κ1 sc2 ar2 H2 := lw_n hI0 (wfo_write hw (xs (6 * t + 1)) (xs (6 * t + 2)) (xs (6 * t + 3)) (xs (6 * t + 4))) z1c hX1 hk1 hz2 kk2 hO2 hM2 ⟨f, r1⟩ ⟨g0, rw0.kept (kk1 _ rw0.lt (fun z => by rcases z with z | z; have := z.2; omega; exact k3 z.symm))⟩
  have r2 := r1.kept (kk2 _ r1.lt (fun z => (hμ u z).2.2.1 rfl))
  refine zs_istore (lo' := [(7, .int wv), (6, .int (nI ((o_write S (xs (6 * t + 1)) (xs (6 * t + 2)) (xs (6 * t + 3)) (xs (6 * t + 4))).1))), (5, .int (nI (6 * t))), (0, .ref b), (1, .ref x), (2, .ref mx), (3, .ref u), (4, .ref w)]) hE dL_law_496 (by decide) rfl ?_
  refine zs_aload_n hE 5 dL_law_498 rfl rfl ?_
  refine zs_callVR (av := []) (st := []) (b := mx) hE (m_X7_thrown D E s.heap.size l μ mx ad sc2 ar2) rfl rfl sV_L_126 hO2.2.1 rfl rfl hO2 ⟨by decide, by decide⟩ ⟨by show _ ≤ 603072; omega, by show _ ≤ 7215210; omega⟩ (Nat.le_of_ble_eq_true rfl) dL_law_499 ?_
  refine zs_top (v' := .int (nI ((o_write S (xs (6 * t + 1)) (xs (6 * t + 2)) (xs (6 * t + 3)) (xs (6 * t + 4))).1))) (by rw [hth]) ?_
  refine zs_iload hE 1 dL_law_502 rfl ?_
  refine zs_icmp_eqN (tgt := 509) hE (by omega) (by omega) dL_law_504 (by decide) (fun h9 => ?_) (fun h9 => ?_)
  · refine zs_iload hE 1 dL_law_509 rfl ?_
    refine zs_if_neN (tgt := 526) hE (by omega) dL_law_511 (by decide) (fun h5 => ?_) (fun h5 => ?_)
    · refine zs_goto (tgt := 2202) hE dL_law_526 (by decide) ?_
      refine zs_iinc (v := ((nI (6 * t)) + (6))) (lo' := [(5, .int ((nI (6 * t)) + (6))), (7, .int wv), (6, .int (nI ((o_write S (xs (6 * t + 1)) (xs (6 * t + 2)) (xs (6 * t + 3)) (xs (6 * t + 4))).1))), (0, .ref b), (1, .ref x), (2, .ref mx), (3, .ref u), (4, .ref w)]) hE 2 dL_law_2202 rfl (by first | rfl | decide) (by decide) rfl ?_
      refine zs_goto (tgt := 28) hE dL_law_2205 (by decide) ?_
      refine zs_sub (lo' := [(5, .int ((nI (6 * t)) + (6))), (0, .ref b), (1, .ref x), (2, .ref mx), (3, .ref u), (4, .ref w)]) [0, 3, 4, 5, 6, 7] rfl ?_
      refine zs_lo (lo' := [(5, .int (nI (6 * (t + 1)))), (0, .ref b), (1, .ref x), (2, .ref mx), (3, .ref u), (4, .ref w)]) (by rw [show nI (6 * t) + (6) = nI (6 * (t + 1)) from nI_add (6 * t) 6]) ?_
      exact ih _ _ _ _ _ hI2
    · refine zs_aload_n hE 6 dL_law_514 rfl rfl ?_
      refine zs_iconst (v := (nI 0)) hE dL_law_515 (by decide) ?_
      refine zs_lald hE r2 (by decide) (by decide) dL_law_516 ?_
      refine zs_iload hE 0 dL_law_517 rfl ?_
      refine zs_i2l hE dL_law_519 ?_
      refine zs_lcmp hE dL_law_520 ?_
      refine zs_top (v' := .int (nI 0)) (by rw [show f 0 = wv.toInt64 from (hf0 h5).symm.trans (by rw [← hwo h5]; rfl), lg_self]; rfl) ?_
      refine zs_if_eqN (tgt := 526) hE (by decide) dL_law_521 (by decide) (fun h7 => ?_) (fun h7 => ?_)
      · refine zs_goto (tgt := 2202) hE dL_law_526 (by decide) ?_
        refine zs_iinc (v := ((nI (6 * t)) + (6))) (lo' := [(5, .int ((nI (6 * t)) + (6))), (7, .int wv), (6, .int (nI ((o_write S (xs (6 * t + 1)) (xs (6 * t + 2)) (xs (6 * t + 3)) (xs (6 * t + 4))).1))), (0, .ref b), (1, .ref x), (2, .ref mx), (3, .ref u), (4, .ref w)]) hE 2 dL_law_2202 rfl (by first | rfl | decide) (by decide) rfl ?_
        refine zs_goto (tgt := 28) hE dL_law_2205 (by decide) ?_
        refine zs_sub (lo' := [(5, .int ((nI (6 * t)) + (6))), (0, .ref b), (1, .ref x), (2, .ref mx), (3, .ref u), (4, .ref w)]) [0, 3, 4, 5, 6, 7] rfl ?_
        refine zs_lo (lo' := [(5, .int (nI (6 * (t + 1)))), (0, .ref b), (1, .ref x), (2, .ref mx), (3, .ref u), (4, .ref w)]) (by rw [show nI (6 * t) + (6) = nI (6 * (t + 1)) from nI_add (6 * t) 6]) ?_
        exact ih _ _ _ _ _ hI2
      · exact absurd h7 (by decide)
  · exact absurd rfl h9

set_option maxHeartbeats 4000000 in
set_option maxRecDepth 100000 in
theorem lw_rule {D : va_G} {E : Nat → ClassId} {l : Launch} (hl : l.stackTraces = false) {p : Program} {e : Env} {s : State} {m : MethodId} {below : List Frame} {meth : Method} {c : Code} {b L : Nat} {xs : Nat → Int32} (hL : L ≤ 3072) (hX0 : va_X b L xs s s.heap) (hbl : b < s.heap.size) (hE : zs_E D E s.heap.size (fun q => s.heap.size ≤ q) s m #[Value.ref b] meth c p code 9 RL) (hN : zw_N s) {x mx u w : Nat} {ad μ : Nat → Nat} {Z : Nat} {t : Nat} (ht : 6 * t + 6 ≤ L) {S : sp_S} {κ sc : Nat → Nat} {ar : Nat → Nat → Int32} {K : Heap} (hI : lw_I D E s.heap.size x mx u w ad μ Z S κ sc ar K) (ih : ∀ (S : sp_S) (κ sc : Nat → Nat) (ar : Nat → Nat → Int32) (K : Heap), lw_I D E s.heap.size x mx u w ad μ Z S κ sc ar K → zs_W (fun q => s.heap.size ≤ q) p l e room_1 s m #[Value.ref b] below meth c 9 (lw_Z below #[Value.ref b] s) K (25 + 70 * (t + 1)) (53172 + 240 * (t + 1)) 28 [(5, .int (nI (6 * (t + 1)))), (0, .ref b), (1, .ref x), (2, .ref mx), (3, .ref u), (4, .ref w)] []) : zs_W (fun q => s.heap.size ≤ q) p l e room_1 s m #[Value.ref b] below meth c 9 (lw_Z below #[Value.ref b] s) K (25 + 70 * t) (53172 + 240 * t) 529 [(5, .int (nI (6 * t))), (0, .ref b), (1, .ref x), (2, .ref mx), (3, .ref u), (4, .ref w)] [] := by
  have hI0 := hI
  obtain ⟨hw, hX, hO, hM, hμ, ⟨k1, k2, k3, k4, k5⟩, hB, ⟨z1, z2⟩, ⟨f0, ru0⟩, ⟨g0, rw0⟩⟩ := hI
  have hFB : ∀ q, cs_F κ q → s.heap.size ≤ q := fun q hq => by rcases Nat.lt_or_ge q s.heap.size with z | z; have := hB q z; have := hq.1; omega; exact z
  have hFM : ∀ q, md_F μ q → s.heap.size ≤ q := fun q hq => (hμ q hq).2.2.2.2
  have hxX : ∃ fs, zs_pt D x (.inr (6, fs)) K := by obtain ⟨a1, a2, a3, a4, a5, lp, lv, lh, lz, tg, ⟨t0, t1, t2, t3, t4, t5, hx, -⟩, -⟩ := hX; exact ⟨_, hx⟩
  obtain ⟨fs, hx⟩ := hxX
  refine zs_aload_n hE 2 dL_law_529 rfl rfl ?_
  refine zs_aload_n hE 1 dL_law_530 rfl rfl ?_
  refine zs_iload hE 0 dL_law_531 rfl ?_
  refine zs_iconst (v := (nI 1)) hE dL_law_533 (by decide) ?_
  refine zs_iaddN hE dL_law_534 ?_
  refine zs_sld hE hX0 hbl (Nat.not_le.mpr hbl) (by omega) (by omega) dL_law_535 ?_
  refine zs_aload_n hE 1 dL_law_536 rfl rfl ?_
  refine zs_iload hE 0 dL_law_537 rfl ?_
  refine zs_iconst (v := (nI 2)) hE dL_law_539 (by decide) ?_
  refine zs_iaddN hE dL_law_540 ?_
  refine zs_sld hE hX0 hbl (Nat.not_le.mpr hbl) (by omega) (by omega) dL_law_541 ?_
  refine zs_aload_n hE 1 dL_law_542 rfl rfl ?_
  refine zs_iload hE 0 dL_law_543 rfl ?_
  refine zs_iconst (v := (nI 3)) hE dL_law_545 (by decide) ?_
  refine zs_iaddN hE dL_law_546 ?_
  refine zs_sld hE hX0 hbl (Nat.not_le.mpr hbl) (by omega) (by omega) dL_law_547 ?_
  refine zs_i2c hE dL_law_548 ?_
  refine zs_aload_n hE 4 dL_law_549 rfl rfl ?_
  have h4 : (o_rule S (xs (6 * t + 1)) (xs (6 * t + 2)) (((xs (6 * t + 3)).toUInt32 % 65536).toInt32)).1 ≤ 4 := v4_rule S (xs (6 * t + 1)) (xs (6 * t + 2)) (((xs (6 * t + 3)).toUInt32 % 65536).toInt32)
  refine zw_callW (av := [.ref x, .int (xs (6 * t + 1)), .int (xs (6 * t + 2)), .int (((xs (6 * t + 3)).toUInt32 % 65536).toInt32), .ref u]) (st := []) hE hN (m_L_rule D E s.heap.size l hl κ S x u (xs (6 * t + 1)) (xs (6 * t + 2)) (((xs (6 * t + 3)).toUInt32 % 65536).toInt32) k1) sW_L_148 ⟨⟨hX, hw⟩, f0, ru0⟩ ⟨by decide, by decide⟩ ⟨by show _ + 1 ≤ 603072; omega, by show _ + 6 ≤ 7215210; omega⟩ (fun q h9 => by rcases h9 with h9 | h9; exact hFB q h9; rw [h9]; exact k4) (Nat.le_of_ble_eq_true rfl) dL_law_550 (fun v H1 hv z1c kk1 => ?_)
  obtain ⟨rfl, -, ⟨κ1, hX1, hk1⟩, f, r1, hf0⟩ := hv
  refine zs_widen (k' := 25 + 70 * (t + 1)) (n' := 53172 + 240 * (t + 1)) (by show 25 + 70 * t + 1 ≤ _; omega) (by show 53172 + 240 * t + 6 ≤ _; omega) ?_
  have hO1 : md_O D E μ mx ad sc ar H1 := lw_m hI0 (fun q q1 q2 => kk1 q q1 (fun z => q2 (by rcases z with z | z; exact Or.inl z; exact Or.inr (Or.inl z))))
  refine zs_istore (lo' := [(6, .int (nI ((o_rule S (xs (6 * t + 1)) (xs (6 * t + 2)) (((xs (6 * t + 3)).toUInt32 % 65536).toInt32)).1))), (5, .int (nI (6 * t))), (0, .ref b), (1, .ref x), (2, .ref mx), (3, .ref u), (4, .ref w)]) hE dL_law_553 (by decide) rfl ?_
  refine zs_aload_n hE 4 dL_law_555 rfl rfl ?_
  refine zs_aload_n hE 2 dL_law_556 rfl rfl ?_
  refine zs_iload hE 1 dL_law_557 rfl ?_
  refine zs_iconst (v := (nI 1)) hE dL_law_559 (by decide) ?_
  refine zs_iaddN hE dL_law_560 ?_
  refine zs_sld hE hX0 hbl (Nat.not_le.mpr hbl) (by omega) (by omega) dL_law_561 ?_
  refine zs_aload_n hE 2 dL_law_562 rfl rfl ?_
  refine zs_iload hE 1 dL_law_563 rfl ?_
  refine zs_iconst (v := (nI 2)) hE dL_law_565 (by decide) ?_
  refine zs_iaddN hE dL_law_566 ?_
  refine zs_sld hE hX0 hbl (Nat.not_le.mpr hbl) (by omega) (by omega) dL_law_567 ?_
  refine zs_aload_n hE 2 dL_law_568 rfl rfl ?_
  refine zs_iload hE 1 dL_law_569 rfl ?_
  refine zs_iconst (v := (nI 3)) hE dL_law_571 (by decide) ?_
  refine zs_iaddN hE dL_law_572 ?_
  refine zs_sld hE hX0 hbl (Nat.not_le.mpr hbl) (by omega) (by omega) dL_law_573 ?_
  refine zs_i2c hE dL_law_574 ?_
  refine zs_callV (av := [.int (xs (6 * t + 1)), .int (xs (6 * t + 2)), .int (((xs (6 * t + 3)).toUInt32 % 65536).toInt32)]) (st := []) hE (m_X7_rule D E s.heap.size l μ mx ad sc ar S (xs (6 * t + 1)) (xs (6 * t + 2)) (((xs (6 * t + 3)).toUInt32 % 65536).toInt32) hM hw) sV_L_151 hO1.2.1 rfl rfl hO1 ⟨by decide, by decide⟩ ⟨by show _ + 0 ≤ 603072; omega, by show _ + 0 ≤ 7215210; omega⟩ hFM (Nat.le_of_ble_eq_true rfl) dL_law_575 (fun v2 H2 hv2 z2c kk2 => ?_)
  obtain ⟨hz2, ⟨wv, rfl, hwo⟩, sc2, ar2, hO2, hM2, hth⟩ := hv2
  refine zs_widen (k' := 25 + 70 * (t + 1)) (n' := 53172 + 240 * (t + 1)) (by show _ + 0 ≤ _; omega) (by show _ + 0 ≤ _; omega) ?_
  have hI2 : lw_I D E s.heap.size x mx u w ad μ Z (o_rule S (xs (6 * t + 1)) (xs (6 * t + 2)) (((xs (6 * t + 3)).toUInt32 % 65536).toInt32)).2.2 κ1 sc2 ar2 H2 := lw_n hI0 (wfo_rule hw (xs (6 * t + 1)) (xs (6 * t + 2)) (((xs (6 * t + 3)).toUInt32 % 65536).toInt32)) z1c hX1 hk1 hz2 kk2 hO2 hM2 ⟨f, r1⟩ ⟨g0, rw0.kept (kk1 _ rw0.lt (fun z => by rcases z with z | z; have := z.2; omega; exact k3 z.symm))⟩
  have r2 := r1.kept (kk2 _ r1.lt (fun z => (hμ u z).2.2.1 rfl))
  refine zs_istore (lo' := [(7, .int wv), (6, .int (nI ((o_rule S (xs (6 * t + 1)) (xs (6 * t + 2)) (((xs (6 * t + 3)).toUInt32 % 65536).toInt32)).1))), (5, .int (nI (6 * t))), (0, .ref b), (1, .ref x), (2, .ref mx), (3, .ref u), (4, .ref w)]) hE dL_law_578 (by decide) rfl ?_
  refine zs_aload_n hE 5 dL_law_580 rfl rfl ?_
  refine zs_callVR (av := []) (st := []) (b := mx) hE (m_X7_thrown D E s.heap.size l μ mx ad sc2 ar2) rfl rfl sV_L_126 hO2.2.1 rfl rfl hO2 ⟨by decide, by decide⟩ ⟨by show _ ≤ 603072; omega, by show _ ≤ 7215210; omega⟩ (Nat.le_of_ble_eq_true rfl) dL_law_581 ?_
  refine zs_top (v' := .int (nI ((o_rule S (xs (6 * t + 1)) (xs (6 * t + 2)) (((xs (6 * t + 3)).toUInt32 % 65536).toInt32)).1))) (by rw [hth]) ?_
  refine zs_iload hE 1 dL_law_584 rfl ?_
  refine zs_icmp_eqN (tgt := 591) hE (by omega) (by omega) dL_law_586 (by decide) (fun h9 => ?_) (fun h9 => ?_)
  · refine zs_iload hE 1 dL_law_591 rfl ?_
    refine zs_if_neN (tgt := 608) hE (by omega) dL_law_593 (by decide) (fun h5 => ?_) (fun h5 => ?_)
    · refine zs_goto (tgt := 2202) hE dL_law_608 (by decide) ?_
      refine zs_iinc (v := ((nI (6 * t)) + (6))) (lo' := [(5, .int ((nI (6 * t)) + (6))), (7, .int wv), (6, .int (nI ((o_rule S (xs (6 * t + 1)) (xs (6 * t + 2)) (((xs (6 * t + 3)).toUInt32 % 65536).toInt32)).1))), (0, .ref b), (1, .ref x), (2, .ref mx), (3, .ref u), (4, .ref w)]) hE 2 dL_law_2202 rfl (by first | rfl | decide) (by decide) rfl ?_
      refine zs_goto (tgt := 28) hE dL_law_2205 (by decide) ?_
      refine zs_sub (lo' := [(5, .int ((nI (6 * t)) + (6))), (0, .ref b), (1, .ref x), (2, .ref mx), (3, .ref u), (4, .ref w)]) [0, 3, 4, 5, 6, 7] rfl ?_
      refine zs_lo (lo' := [(5, .int (nI (6 * (t + 1)))), (0, .ref b), (1, .ref x), (2, .ref mx), (3, .ref u), (4, .ref w)]) (by rw [show nI (6 * t) + (6) = nI (6 * (t + 1)) from nI_add (6 * t) 6]) ?_
      exact ih _ _ _ _ _ hI2
    · refine zs_aload_n hE 6 dL_law_596 rfl rfl ?_
      refine zs_iconst (v := (nI 0)) hE dL_law_597 (by decide) ?_
      refine zs_lald hE r2 (by decide) (by decide) dL_law_598 ?_
      refine zs_iload hE 0 dL_law_599 rfl ?_
      refine zs_i2l hE dL_law_601 ?_
      refine zs_lcmp hE dL_law_602 ?_
      refine zs_top (v' := .int (nI 0)) (by rw [show f 0 = wv.toInt64 from (hf0 h5).symm.trans (by rw [← hwo h5]; rfl), lg_self]; rfl) ?_
      refine zs_if_eqN (tgt := 608) hE (by decide) dL_law_603 (by decide) (fun h7 => ?_) (fun h7 => ?_)
      · refine zs_goto (tgt := 2202) hE dL_law_608 (by decide) ?_
        refine zs_iinc (v := ((nI (6 * t)) + (6))) (lo' := [(5, .int ((nI (6 * t)) + (6))), (7, .int wv), (6, .int (nI ((o_rule S (xs (6 * t + 1)) (xs (6 * t + 2)) (((xs (6 * t + 3)).toUInt32 % 65536).toInt32)).1))), (0, .ref b), (1, .ref x), (2, .ref mx), (3, .ref u), (4, .ref w)]) hE 2 dL_law_2202 rfl (by first | rfl | decide) (by decide) rfl ?_
        refine zs_goto (tgt := 28) hE dL_law_2205 (by decide) ?_
        refine zs_sub (lo' := [(5, .int ((nI (6 * t)) + (6))), (0, .ref b), (1, .ref x), (2, .ref mx), (3, .ref u), (4, .ref w)]) [0, 3, 4, 5, 6, 7] rfl ?_
        refine zs_lo (lo' := [(5, .int (nI (6 * (t + 1)))), (0, .ref b), (1, .ref x), (2, .ref mx), (3, .ref u), (4, .ref w)]) (by rw [show nI (6 * t) + (6) = nI (6 * (t + 1)) from nI_add (6 * t) 6]) ?_
        exact ih _ _ _ _ _ hI2
      · exact absurd h7 (by decide)
  · exact absurd rfl h9

set_option maxHeartbeats 4000000 in
set_option maxRecDepth 100000 in
theorem lw_merge {D : va_G} {E : Nat → ClassId} {l : Launch} (hl : l.stackTraces = false) {p : Program} {e : Env} {s : State} {m : MethodId} {below : List Frame} {meth : Method} {c : Code} {b L : Nat} {xs : Nat → Int32} (hL : L ≤ 3072) (hX0 : va_X b L xs s s.heap) (hbl : b < s.heap.size) (hE : zs_E D E s.heap.size (fun q => s.heap.size ≤ q) s m #[Value.ref b] meth c p code 9 RL) (hN : zw_N s) {x mx u w : Nat} {ad μ : Nat → Nat} {Z : Nat} {t : Nat} (ht : 6 * t + 6 ≤ L) {S : sp_S} {κ sc : Nat → Nat} {ar : Nat → Nat → Int32} {K : Heap} (hI : lw_I D E s.heap.size x mx u w ad μ Z S κ sc ar K) (ih : ∀ (S : sp_S) (κ sc : Nat → Nat) (ar : Nat → Nat → Int32) (K : Heap), lw_I D E s.heap.size x mx u w ad μ Z S κ sc ar K → zs_W (fun q => s.heap.size ≤ q) p l e room_1 s m #[Value.ref b] below meth c 9 (lw_Z below #[Value.ref b] s) K (25 + 70 * (t + 1)) (53172 + 240 * (t + 1)) 28 [(5, .int (nI (6 * (t + 1)))), (0, .ref b), (1, .ref x), (2, .ref mx), (3, .ref u), (4, .ref w)] []) : zs_W (fun q => s.heap.size ≤ q) p l e room_1 s m #[Value.ref b] below meth c 9 (lw_Z below #[Value.ref b] s) K (25 + 70 * t) (53172 + 240 * t) 611 [(5, .int (nI (6 * t))), (0, .ref b), (1, .ref x), (2, .ref mx), (3, .ref u), (4, .ref w)] [] := by
  have hI0 := hI
  obtain ⟨hw, hX, hO, hM, hμ, ⟨k1, k2, k3, k4, k5⟩, hB, ⟨z1, z2⟩, ⟨f0, ru0⟩, ⟨g0, rw0⟩⟩ := hI
  have hFB : ∀ q, cs_F κ q → s.heap.size ≤ q := fun q hq => by rcases Nat.lt_or_ge q s.heap.size with z | z; have := hB q z; have := hq.1; omega; exact z
  have hFM : ∀ q, md_F μ q → s.heap.size ≤ q := fun q hq => (hμ q hq).2.2.2.2
  have hxX : ∃ fs, zs_pt D x (.inr (6, fs)) K := by obtain ⟨a1, a2, a3, a4, a5, lp, lv, lh, lz, tg, ⟨t0, t1, t2, t3, t4, t5, hx, -⟩, -⟩ := hX; exact ⟨_, hx⟩
  obtain ⟨fs, hx⟩ := hxX
  refine zs_aload_n hE 2 dL_law_611 rfl rfl ?_
  refine zs_aload_n hE 1 dL_law_612 rfl rfl ?_
  refine zs_iload hE 0 dL_law_613 rfl ?_
  refine zs_iconst (v := (nI 1)) hE dL_law_615 (by decide) ?_
  refine zs_iaddN hE dL_law_616 ?_
  refine zs_sld hE hX0 hbl (Nat.not_le.mpr hbl) (by omega) (by omega) dL_law_617 ?_
  refine zs_aload_n hE 1 dL_law_618 rfl rfl ?_
  refine zs_iload hE 0 dL_law_619 rfl ?_
  refine zs_iconst (v := (nI 2)) hE dL_law_621 (by decide) ?_
  refine zs_iaddN hE dL_law_622 ?_
  refine zs_sld hE hX0 hbl (Nat.not_le.mpr hbl) (by omega) (by omega) dL_law_623 ?_
  refine zs_aload_n hE 1 dL_law_624 rfl rfl ?_
  refine zs_iload hE 0 dL_law_625 rfl ?_
  refine zs_iconst (v := (nI 3)) hE dL_law_627 (by decide) ?_
  refine zs_iaddN hE dL_law_628 ?_
  refine zs_sld hE hX0 hbl (Nat.not_le.mpr hbl) (by omega) (by omega) dL_law_629 ?_
  refine zs_aload_n hE 4 dL_law_630 rfl rfl ?_
  have h4 : (o_merge S (xs (6 * t + 1)) (xs (6 * t + 2)) (xs (6 * t + 3))).1 ≤ 4 := v4_merge S (xs (6 * t + 1)) (xs (6 * t + 2)) (xs (6 * t + 3))
  refine zw_callW (av := [.ref x, .int (xs (6 * t + 1)), .int (xs (6 * t + 2)), .int (xs (6 * t + 3)), .ref u]) (st := []) hE hN (m_L_merge D E s.heap.size l hl κ S x u (xs (6 * t + 1)) (xs (6 * t + 2)) (xs (6 * t + 3)) k1) sW_L_152 ⟨⟨hX, hw⟩, f0, ru0⟩ ⟨by decide, by decide⟩ ⟨by show _ + 70 ≤ 603072; omega, by show _ + 240 ≤ 7215210; omega⟩ (fun q h9 => by rcases h9 with h9 | h9; exact hFB q h9; rw [h9]; exact k4) (Nat.le_of_ble_eq_true rfl) dL_law_631 (fun v H1 hv z1c kk1 => ?_)
  obtain ⟨rfl, -, ⟨κ1, hX1, hk1⟩, f, r1, hf0⟩ := hv
  refine zs_widen (k' := 25 + 70 * (t + 1)) (n' := 53172 + 240 * (t + 1)) (by show 25 + 70 * t + 70 ≤ _; omega) (by show 53172 + 240 * t + 240 ≤ _; omega) ?_
  have hO1 : md_O D E μ mx ad sc ar H1 := lw_m hI0 (fun q q1 q2 => kk1 q q1 (fun z => q2 (by rcases z with z | z; exact Or.inl z; exact Or.inr (Or.inl z))))
  refine zs_istore (lo' := [(6, .int (nI ((o_merge S (xs (6 * t + 1)) (xs (6 * t + 2)) (xs (6 * t + 3))).1))), (5, .int (nI (6 * t))), (0, .ref b), (1, .ref x), (2, .ref mx), (3, .ref u), (4, .ref w)]) hE dL_law_634 (by decide) rfl ?_
  refine zs_aload_n hE 4 dL_law_636 rfl rfl ?_
  refine zs_aload_n hE 2 dL_law_637 rfl rfl ?_
  refine zs_iload hE 1 dL_law_638 rfl ?_
  refine zs_iconst (v := (nI 1)) hE dL_law_640 (by decide) ?_
  refine zs_iaddN hE dL_law_641 ?_
  refine zs_sld hE hX0 hbl (Nat.not_le.mpr hbl) (by omega) (by omega) dL_law_642 ?_
  refine zs_aload_n hE 2 dL_law_643 rfl rfl ?_
  refine zs_iload hE 1 dL_law_644 rfl ?_
  refine zs_iconst (v := (nI 2)) hE dL_law_646 (by decide) ?_
  refine zs_iaddN hE dL_law_647 ?_
  refine zs_sld hE hX0 hbl (Nat.not_le.mpr hbl) (by omega) (by omega) dL_law_648 ?_
  refine zs_aload_n hE 2 dL_law_649 rfl rfl ?_
  refine zs_iload hE 1 dL_law_650 rfl ?_
  refine zs_iconst (v := (nI 3)) hE dL_law_652 (by decide) ?_
  refine zs_iaddN hE dL_law_653 ?_
  refine zs_sld hE hX0 hbl (Nat.not_le.mpr hbl) (by omega) (by omega) dL_law_654 ?_
  refine zs_callV (av := [.int (xs (6 * t + 1)), .int (xs (6 * t + 2)), .int (xs (6 * t + 3))]) (st := []) hE (m_X7_merge D E s.heap.size l μ mx ad sc ar S (xs (6 * t + 1)) (xs (6 * t + 2)) (xs (6 * t + 3)) hM hw) sV_L_155 hO1.2.1 rfl rfl hO1 ⟨by decide, by decide⟩ ⟨by show _ + 0 ≤ 603072; omega, by show _ + 0 ≤ 7215210; omega⟩ hFM (Nat.le_of_ble_eq_true rfl) dL_law_655 (fun v2 H2 hv2 z2c kk2 => ?_)
  obtain ⟨hz2, ⟨wv, rfl, hwo⟩, sc2, ar2, hO2, hM2, hth⟩ := hv2
  refine zs_widen (k' := 25 + 70 * (t + 1)) (n' := 53172 + 240 * (t + 1)) (by show _ + 0 ≤ _; omega) (by show _ + 0 ≤ _; omega) ?_
  have hI2 : lw_I D E s.heap.size x mx u w ad μ Z (o_merge S (xs (6 * t + 1)) (xs (6 * t + 2)) (xs (6 * t + 3))).2.2 κ1 sc2 ar2 H2 := lw_n hI0 (wfo_merge hw (xs (6 * t + 1)) (xs (6 * t + 2)) (xs (6 * t + 3))) z1c hX1 hk1 hz2 kk2 hO2 hM2 ⟨f, r1⟩ ⟨g0, rw0.kept (kk1 _ rw0.lt (fun z => by rcases z with z | z; have := z.2; omega; exact k3 z.symm))⟩
  have r2 := r1.kept (kk2 _ r1.lt (fun z => (hμ u z).2.2.1 rfl))
  refine zs_istore (lo' := [(7, .int wv), (6, .int (nI ((o_merge S (xs (6 * t + 1)) (xs (6 * t + 2)) (xs (6 * t + 3))).1))), (5, .int (nI (6 * t))), (0, .ref b), (1, .ref x), (2, .ref mx), (3, .ref u), (4, .ref w)]) hE dL_law_658 (by decide) rfl ?_
  refine zs_aload_n hE 5 dL_law_660 rfl rfl ?_
  refine zs_callVR (av := []) (st := []) (b := mx) hE (m_X7_thrown D E s.heap.size l μ mx ad sc2 ar2) rfl rfl sV_L_126 hO2.2.1 rfl rfl hO2 ⟨by decide, by decide⟩ ⟨by show _ ≤ 603072; omega, by show _ ≤ 7215210; omega⟩ (Nat.le_of_ble_eq_true rfl) dL_law_661 ?_
  refine zs_top (v' := .int (nI ((o_merge S (xs (6 * t + 1)) (xs (6 * t + 2)) (xs (6 * t + 3))).1))) (by rw [hth]) ?_
  refine zs_iload hE 1 dL_law_664 rfl ?_
  refine zs_icmp_eqN (tgt := 671) hE (by omega) (by omega) dL_law_666 (by decide) (fun h9 => ?_) (fun h9 => ?_)
  · refine zs_iload hE 1 dL_law_671 rfl ?_
    refine zs_if_neN (tgt := 688) hE (by omega) dL_law_673 (by decide) (fun h5 => ?_) (fun h5 => ?_)
    · refine zs_goto (tgt := 2202) hE dL_law_688 (by decide) ?_
      refine zs_iinc (v := ((nI (6 * t)) + (6))) (lo' := [(5, .int ((nI (6 * t)) + (6))), (7, .int wv), (6, .int (nI ((o_merge S (xs (6 * t + 1)) (xs (6 * t + 2)) (xs (6 * t + 3))).1))), (0, .ref b), (1, .ref x), (2, .ref mx), (3, .ref u), (4, .ref w)]) hE 2 dL_law_2202 rfl (by first | rfl | decide) (by decide) rfl ?_
      refine zs_goto (tgt := 28) hE dL_law_2205 (by decide) ?_
      refine zs_sub (lo' := [(5, .int ((nI (6 * t)) + (6))), (0, .ref b), (1, .ref x), (2, .ref mx), (3, .ref u), (4, .ref w)]) [0, 3, 4, 5, 6, 7] rfl ?_
      refine zs_lo (lo' := [(5, .int (nI (6 * (t + 1)))), (0, .ref b), (1, .ref x), (2, .ref mx), (3, .ref u), (4, .ref w)]) (by rw [show nI (6 * t) + (6) = nI (6 * (t + 1)) from nI_add (6 * t) 6]) ?_
      exact ih _ _ _ _ _ hI2
    · refine zs_aload_n hE 6 dL_law_676 rfl rfl ?_
      refine zs_iconst (v := (nI 0)) hE dL_law_677 (by decide) ?_
      refine zs_lald hE r2 (by decide) (by decide) dL_law_678 ?_
      refine zs_iload hE 0 dL_law_679 rfl ?_
      refine zs_i2l hE dL_law_681 ?_
      refine zs_lcmp hE dL_law_682 ?_
      refine zs_top (v' := .int (nI 0)) (by rw [show f 0 = wv.toInt64 from (hf0 h5).symm.trans (by rw [← hwo h5]; rfl), lg_self]; rfl) ?_
      refine zs_if_eqN (tgt := 688) hE (by decide) dL_law_683 (by decide) (fun h7 => ?_) (fun h7 => ?_)
      · refine zs_goto (tgt := 2202) hE dL_law_688 (by decide) ?_
        refine zs_iinc (v := ((nI (6 * t)) + (6))) (lo' := [(5, .int ((nI (6 * t)) + (6))), (7, .int wv), (6, .int (nI ((o_merge S (xs (6 * t + 1)) (xs (6 * t + 2)) (xs (6 * t + 3))).1))), (0, .ref b), (1, .ref x), (2, .ref mx), (3, .ref u), (4, .ref w)]) hE 2 dL_law_2202 rfl (by first | rfl | decide) (by decide) rfl ?_
        refine zs_goto (tgt := 28) hE dL_law_2205 (by decide) ?_
        refine zs_sub (lo' := [(5, .int ((nI (6 * t)) + (6))), (0, .ref b), (1, .ref x), (2, .ref mx), (3, .ref u), (4, .ref w)]) [0, 3, 4, 5, 6, 7] rfl ?_
        refine zs_lo (lo' := [(5, .int (nI (6 * (t + 1)))), (0, .ref b), (1, .ref x), (2, .ref mx), (3, .ref u), (4, .ref w)]) (by rw [show nI (6 * t) + (6) = nI (6 * (t + 1)) from nI_add (6 * t) 6]) ?_
        exact ih _ _ _ _ _ hI2
      · exact absurd h7 (by decide)
  · exact absurd rfl h9

set_option maxHeartbeats 4000000 in
set_option maxRecDepth 100000 in
theorem lw_base {D : va_G} {E : Nat → ClassId} {l : Launch} (hl : l.stackTraces = false) {p : Program} {e : Env} {s : State} {m : MethodId} {below : List Frame} {meth : Method} {c : Code} {b L : Nat} {xs : Nat → Int32} (hL : L ≤ 3072) (hX0 : va_X b L xs s s.heap) (hbl : b < s.heap.size) (hE : zs_E D E s.heap.size (fun q => s.heap.size ≤ q) s m #[Value.ref b] meth c p code 9 RL) (hN : zw_N s) {x mx u w : Nat} {ad μ : Nat → Nat} {Z : Nat} {t : Nat} (ht : 6 * t + 6 ≤ L) {S : sp_S} {κ sc : Nat → Nat} {ar : Nat → Nat → Int32} {K : Heap} (hI : lw_I D E s.heap.size x mx u w ad μ Z S κ sc ar K) (ih : ∀ (S : sp_S) (κ sc : Nat → Nat) (ar : Nat → Nat → Int32) (K : Heap), lw_I D E s.heap.size x mx u w ad μ Z S κ sc ar K → zs_W (fun q => s.heap.size ≤ q) p l e room_1 s m #[Value.ref b] below meth c 9 (lw_Z below #[Value.ref b] s) K (25 + 70 * (t + 1)) (53172 + 240 * (t + 1)) 28 [(5, .int (nI (6 * (t + 1)))), (0, .ref b), (1, .ref x), (2, .ref mx), (3, .ref u), (4, .ref w)] []) : zs_W (fun q => s.heap.size ≤ q) p l e room_1 s m #[Value.ref b] below meth c 9 (lw_Z below #[Value.ref b] s) K (25 + 70 * t) (53172 + 240 * t) 691 [(5, .int (nI (6 * t))), (0, .ref b), (1, .ref x), (2, .ref mx), (3, .ref u), (4, .ref w)] [] := by
  have hI0 := hI
  obtain ⟨hw, hX, hO, hM, hμ, ⟨k1, k2, k3, k4, k5⟩, hB, ⟨z1, z2⟩, ⟨f0, ru0⟩, ⟨g0, rw0⟩⟩ := hI
  have hFB : ∀ q, cs_F κ q → s.heap.size ≤ q := fun q hq => by rcases Nat.lt_or_ge q s.heap.size with z | z; have := hB q z; have := hq.1; omega; exact z
  have hFM : ∀ q, md_F μ q → s.heap.size ≤ q := fun q hq => (hμ q hq).2.2.2.2
  have hxX : ∃ fs, zs_pt D x (.inr (6, fs)) K := by obtain ⟨a1, a2, a3, a4, a5, lp, lv, lh, lz, tg, ⟨t0, t1, t2, t3, t4, t5, hx, -⟩, -⟩ := hX; exact ⟨_, hx⟩
  obtain ⟨fs, hx⟩ := hxX
  refine zs_aload_n hE 2 dL_law_691 rfl rfl ?_
  refine zs_aload_n hE 1 dL_law_692 rfl rfl ?_
  refine zs_iload hE 0 dL_law_693 rfl ?_
  refine zs_iconst (v := (nI 1)) hE dL_law_695 (by decide) ?_
  refine zs_iaddN hE dL_law_696 ?_
  refine zs_sld hE hX0 hbl (Nat.not_le.mpr hbl) (by omega) (by omega) dL_law_697 ?_
  refine zs_aload_n hE 1 dL_law_698 rfl rfl ?_
  refine zs_iload hE 0 dL_law_699 rfl ?_
  refine zs_iconst (v := (nI 2)) hE dL_law_701 (by decide) ?_
  refine zs_iaddN hE dL_law_702 ?_
  refine zs_sld hE hX0 hbl (Nat.not_le.mpr hbl) (by omega) (by omega) dL_law_703 ?_
  refine zs_aload_n hE 4 dL_law_704 rfl rfl ?_
  have h4 : (o_base S (xs (6 * t + 1)) (xs (6 * t + 2))).1 ≤ 4 := v4_base S (xs (6 * t + 1)) (xs (6 * t + 2))
  refine zw_callW (av := [.ref x, .int (xs (6 * t + 1)), .int (xs (6 * t + 2)), .ref u]) (st := []) hE hN (m_L_base D E s.heap.size l hl κ S x u (xs (6 * t + 1)) (xs (6 * t + 2)) k1) sW_L_156 ⟨⟨hX, hw⟩, f0, ru0⟩ ⟨by decide, by decide⟩ ⟨by show _ + 1 ≤ 603072; omega, by show _ + 6 ≤ 7215210; omega⟩ (fun q h9 => by rcases h9 with h9 | h9; exact hFB q h9; rw [h9]; exact k4) (Nat.le_of_ble_eq_true rfl) dL_law_705 (fun v H1 hv z1c kk1 => ?_)
  obtain ⟨rfl, -, ⟨κ1, hX1, hk1⟩, f, r1, hf0⟩ := hv
  refine zs_widen (k' := 25 + 70 * (t + 1)) (n' := 53172 + 240 * (t + 1)) (by show 25 + 70 * t + 1 ≤ _; omega) (by show 53172 + 240 * t + 6 ≤ _; omega) ?_
  have hO1 : md_O D E μ mx ad sc ar H1 := lw_m hI0 (fun q q1 q2 => kk1 q q1 (fun z => q2 (by rcases z with z | z; exact Or.inl z; exact Or.inr (Or.inl z))))
  refine zs_istore (lo' := [(6, .int (nI ((o_base S (xs (6 * t + 1)) (xs (6 * t + 2))).1))), (5, .int (nI (6 * t))), (0, .ref b), (1, .ref x), (2, .ref mx), (3, .ref u), (4, .ref w)]) hE dL_law_708 (by decide) rfl ?_
  refine zs_aload_n hE 4 dL_law_710 rfl rfl ?_
  refine zs_aload_n hE 2 dL_law_711 rfl rfl ?_
  refine zs_iload hE 1 dL_law_712 rfl ?_
  refine zs_iconst (v := (nI 1)) hE dL_law_714 (by decide) ?_
  refine zs_iaddN hE dL_law_715 ?_
  refine zs_sld hE hX0 hbl (Nat.not_le.mpr hbl) (by omega) (by omega) dL_law_716 ?_
  refine zs_aload_n hE 2 dL_law_717 rfl rfl ?_
  refine zs_iload hE 1 dL_law_718 rfl ?_
  refine zs_iconst (v := (nI 2)) hE dL_law_720 (by decide) ?_
  refine zs_iaddN hE dL_law_721 ?_
  refine zs_sld hE hX0 hbl (Nat.not_le.mpr hbl) (by omega) (by omega) dL_law_722 ?_
  refine zs_callV (av := [.int (xs (6 * t + 1)), .int (xs (6 * t + 2))]) (st := []) hE (m_X7_base D E s.heap.size l μ mx ad sc ar S (xs (6 * t + 1)) (xs (6 * t + 2)) hM hw) sV_L_158 hO1.2.1 rfl rfl hO1 ⟨by decide, by decide⟩ ⟨by show _ + 0 ≤ 603072; omega, by show _ + 0 ≤ 7215210; omega⟩ hFM (Nat.le_of_ble_eq_true rfl) dL_law_723 (fun v2 H2 hv2 z2c kk2 => ?_)
  obtain ⟨hz2, ⟨wv, rfl, hwo⟩, sc2, ar2, hO2, hM2, hth⟩ := hv2
  refine zs_widen (k' := 25 + 70 * (t + 1)) (n' := 53172 + 240 * (t + 1)) (by show _ + 0 ≤ _; omega) (by show _ + 0 ≤ _; omega) ?_
  have hI2 : lw_I D E s.heap.size x mx u w ad μ Z (o_base S (xs (6 * t + 1)) (xs (6 * t + 2))).2.2 κ1 sc2 ar2 H2 := lw_n hI0 (wfo_base hw (xs (6 * t + 1)) (xs (6 * t + 2))) z1c hX1 hk1 hz2 kk2 hO2 hM2 ⟨f, r1⟩ ⟨g0, rw0.kept (kk1 _ rw0.lt (fun z => by rcases z with z | z; have := z.2; omega; exact k3 z.symm))⟩
  have r2 := r1.kept (kk2 _ r1.lt (fun z => (hμ u z).2.2.1 rfl))
  refine zs_istore (lo' := [(7, .int wv), (6, .int (nI ((o_base S (xs (6 * t + 1)) (xs (6 * t + 2))).1))), (5, .int (nI (6 * t))), (0, .ref b), (1, .ref x), (2, .ref mx), (3, .ref u), (4, .ref w)]) hE dL_law_726 (by decide) rfl ?_
  refine zs_aload_n hE 5 dL_law_728 rfl rfl ?_
  refine zs_callVR (av := []) (st := []) (b := mx) hE (m_X7_thrown D E s.heap.size l μ mx ad sc2 ar2) rfl rfl sV_L_126 hO2.2.1 rfl rfl hO2 ⟨by decide, by decide⟩ ⟨by show _ ≤ 603072; omega, by show _ ≤ 7215210; omega⟩ (Nat.le_of_ble_eq_true rfl) dL_law_729 ?_
  refine zs_top (v' := .int (nI ((o_base S (xs (6 * t + 1)) (xs (6 * t + 2))).1))) (by rw [hth]) ?_
  refine zs_iload hE 1 dL_law_732 rfl ?_
  refine zs_icmp_eqN (tgt := 739) hE (by omega) (by omega) dL_law_734 (by decide) (fun h9 => ?_) (fun h9 => ?_)
  · refine zs_iload hE 1 dL_law_739 rfl ?_
    refine zs_if_neN (tgt := 756) hE (by omega) dL_law_741 (by decide) (fun h5 => ?_) (fun h5 => ?_)
    · refine zs_goto (tgt := 2202) hE dL_law_756 (by decide) ?_
      refine zs_iinc (v := ((nI (6 * t)) + (6))) (lo' := [(5, .int ((nI (6 * t)) + (6))), (7, .int wv), (6, .int (nI ((o_base S (xs (6 * t + 1)) (xs (6 * t + 2))).1))), (0, .ref b), (1, .ref x), (2, .ref mx), (3, .ref u), (4, .ref w)]) hE 2 dL_law_2202 rfl (by first | rfl | decide) (by decide) rfl ?_
      refine zs_goto (tgt := 28) hE dL_law_2205 (by decide) ?_
      refine zs_sub (lo' := [(5, .int ((nI (6 * t)) + (6))), (0, .ref b), (1, .ref x), (2, .ref mx), (3, .ref u), (4, .ref w)]) [0, 3, 4, 5, 6, 7] rfl ?_
      refine zs_lo (lo' := [(5, .int (nI (6 * (t + 1)))), (0, .ref b), (1, .ref x), (2, .ref mx), (3, .ref u), (4, .ref w)]) (by rw [show nI (6 * t) + (6) = nI (6 * (t + 1)) from nI_add (6 * t) 6]) ?_
      exact ih _ _ _ _ _ hI2
    · refine zs_aload_n hE 6 dL_law_744 rfl rfl ?_
      refine zs_iconst (v := (nI 0)) hE dL_law_745 (by decide) ?_
      refine zs_lald hE r2 (by decide) (by decide) dL_law_746 ?_
      refine zs_iload hE 0 dL_law_747 rfl ?_
      refine zs_i2l hE dL_law_749 ?_
      refine zs_lcmp hE dL_law_750 ?_
      refine zs_top (v' := .int (nI 0)) (by rw [show f 0 = wv.toInt64 from (hf0 h5).symm.trans (by rw [← hwo h5]; rfl), lg_self]; rfl) ?_
      refine zs_if_eqN (tgt := 756) hE (by decide) dL_law_751 (by decide) (fun h7 => ?_) (fun h7 => ?_)
      · refine zs_goto (tgt := 2202) hE dL_law_756 (by decide) ?_
        refine zs_iinc (v := ((nI (6 * t)) + (6))) (lo' := [(5, .int ((nI (6 * t)) + (6))), (7, .int wv), (6, .int (nI ((o_base S (xs (6 * t + 1)) (xs (6 * t + 2))).1))), (0, .ref b), (1, .ref x), (2, .ref mx), (3, .ref u), (4, .ref w)]) hE 2 dL_law_2202 rfl (by first | rfl | decide) (by decide) rfl ?_
        refine zs_goto (tgt := 28) hE dL_law_2205 (by decide) ?_
        refine zs_sub (lo' := [(5, .int ((nI (6 * t)) + (6))), (0, .ref b), (1, .ref x), (2, .ref mx), (3, .ref u), (4, .ref w)]) [0, 3, 4, 5, 6, 7] rfl ?_
        refine zs_lo (lo' := [(5, .int (nI (6 * (t + 1)))), (0, .ref b), (1, .ref x), (2, .ref mx), (3, .ref u), (4, .ref w)]) (by rw [show nI (6 * t) + (6) = nI (6 * (t + 1)) from nI_add (6 * t) 6]) ?_
        exact ih _ _ _ _ _ hI2
      · exact absurd h7 (by decide)
  · exact absurd rfl h9

set_option maxHeartbeats 4000000 in
set_option maxRecDepth 100000 in
theorem lw_isAbove {D : va_G} {E : Nat → ClassId} {l : Launch} (hl : l.stackTraces = false) {p : Program} {e : Env} {s : State} {m : MethodId} {below : List Frame} {meth : Method} {c : Code} {b L : Nat} {xs : Nat → Int32} (hL : L ≤ 3072) (hX0 : va_X b L xs s s.heap) (hbl : b < s.heap.size) (hE : zs_E D E s.heap.size (fun q => s.heap.size ≤ q) s m #[Value.ref b] meth c p code 9 RL) (hN : zw_N s) {x mx u w : Nat} {ad μ : Nat → Nat} {Z : Nat} {t : Nat} (ht : 6 * t + 6 ≤ L) {S : sp_S} {κ sc : Nat → Nat} {ar : Nat → Nat → Int32} {K : Heap} (hI : lw_I D E s.heap.size x mx u w ad μ Z S κ sc ar K) (ih : ∀ (S : sp_S) (κ sc : Nat → Nat) (ar : Nat → Nat → Int32) (K : Heap), lw_I D E s.heap.size x mx u w ad μ Z S κ sc ar K → zs_W (fun q => s.heap.size ≤ q) p l e room_1 s m #[Value.ref b] below meth c 9 (lw_Z below #[Value.ref b] s) K (25 + 70 * (t + 1)) (53172 + 240 * (t + 1)) 28 [(5, .int (nI (6 * (t + 1)))), (0, .ref b), (1, .ref x), (2, .ref mx), (3, .ref u), (4, .ref w)] []) : zs_W (fun q => s.heap.size ≤ q) p l e room_1 s m #[Value.ref b] below meth c 9 (lw_Z below #[Value.ref b] s) K (25 + 70 * t) (53172 + 240 * t) 759 [(5, .int (nI (6 * t))), (0, .ref b), (1, .ref x), (2, .ref mx), (3, .ref u), (4, .ref w)] [] := by
  have hI0 := hI
  obtain ⟨hw, hX, hO, hM, hμ, ⟨k1, k2, k3, k4, k5⟩, hB, ⟨z1, z2⟩, ⟨f0, ru0⟩, ⟨g0, rw0⟩⟩ := hI
  have hFB : ∀ q, cs_F κ q → s.heap.size ≤ q := fun q hq => by rcases Nat.lt_or_ge q s.heap.size with z | z; have := hB q z; have := hq.1; omega; exact z
  have hFM : ∀ q, md_F μ q → s.heap.size ≤ q := fun q hq => (hμ q hq).2.2.2.2
  have hxX : ∃ fs, zs_pt D x (.inr (6, fs)) K := by obtain ⟨a1, a2, a3, a4, a5, lp, lv, lh, lz, tg, ⟨t0, t1, t2, t3, t4, t5, hx, -⟩, -⟩ := hX; exact ⟨_, hx⟩
  obtain ⟨fs, hx⟩ := hxX
  refine zs_aload_n hE 2 dL_law_759 rfl rfl ?_
  refine zs_aload_n hE 1 dL_law_760 rfl rfl ?_
  refine zs_iload hE 0 dL_law_761 rfl ?_
  refine zs_iconst (v := (nI 1)) hE dL_law_763 (by decide) ?_
  refine zs_iaddN hE dL_law_764 ?_
  refine zs_sld hE hX0 hbl (Nat.not_le.mpr hbl) (by omega) (by omega) dL_law_765 ?_
  refine zs_aload_n hE 1 dL_law_766 rfl rfl ?_
  refine zs_iload hE 0 dL_law_767 rfl ?_
  refine zs_iconst (v := (nI 2)) hE dL_law_769 (by decide) ?_
  refine zs_iaddN hE dL_law_770 ?_
  refine zs_sld hE hX0 hbl (Nat.not_le.mpr hbl) (by omega) (by omega) dL_law_771 ?_
  refine zs_aload_n hE 4 dL_law_772 rfl rfl ?_
  have h4 : (o_isAbove S (xs (6 * t + 1)) (xs (6 * t + 2))).1 ≤ 4 := v4_isAbove S (xs (6 * t + 1)) (xs (6 * t + 2))
  refine zw_callW (av := [.ref x, .int (xs (6 * t + 1)), .int (xs (6 * t + 2)), .ref u]) (st := []) hE hN (m_L_isAbove D E s.heap.size l hl κ S x u (xs (6 * t + 1)) (xs (6 * t + 2)) k1) sW_L_159 ⟨⟨hX, hw⟩, f0, ru0⟩ ⟨by decide, by decide⟩ ⟨by show _ + 1 ≤ 603072; omega, by show _ + 6 ≤ 7215210; omega⟩ (fun q h9 => by rcases h9 with h9 | h9; exact hFB q h9; rw [h9]; exact k4) (Nat.le_of_ble_eq_true rfl) dL_law_773 (fun v H1 hv z1c kk1 => ?_)
  obtain ⟨rfl, -, ⟨κ1, hX1, hk1⟩, f, r1, hf0⟩ := hv
  refine zs_widen (k' := 25 + 70 * (t + 1)) (n' := 53172 + 240 * (t + 1)) (by show 25 + 70 * t + 1 ≤ _; omega) (by show 53172 + 240 * t + 6 ≤ _; omega) ?_
  have hO1 : md_O D E μ mx ad sc ar H1 := lw_m hI0 (fun q q1 q2 => kk1 q q1 (fun z => q2 (by rcases z with z | z; exact Or.inl z; exact Or.inr (Or.inl z))))
  refine zs_istore (lo' := [(6, .int (nI ((o_isAbove S (xs (6 * t + 1)) (xs (6 * t + 2))).1))), (5, .int (nI (6 * t))), (0, .ref b), (1, .ref x), (2, .ref mx), (3, .ref u), (4, .ref w)]) hE dL_law_776 (by decide) rfl ?_
  refine zs_aload_n hE 4 dL_law_778 rfl rfl ?_
  refine zs_aload_n hE 2 dL_law_779 rfl rfl ?_
  refine zs_iload hE 1 dL_law_780 rfl ?_
  refine zs_iconst (v := (nI 1)) hE dL_law_782 (by decide) ?_
  refine zs_iaddN hE dL_law_783 ?_
  refine zs_sld hE hX0 hbl (Nat.not_le.mpr hbl) (by omega) (by omega) dL_law_784 ?_
  refine zs_aload_n hE 2 dL_law_785 rfl rfl ?_
  refine zs_iload hE 1 dL_law_786 rfl ?_
  refine zs_iconst (v := (nI 2)) hE dL_law_788 (by decide) ?_
  refine zs_iaddN hE dL_law_789 ?_
  refine zs_sld hE hX0 hbl (Nat.not_le.mpr hbl) (by omega) (by omega) dL_law_790 ?_
  refine zs_callV (av := [.int (xs (6 * t + 1)), .int (xs (6 * t + 2))]) (st := []) hE (m_X7_isAbove D E s.heap.size l μ mx ad sc ar S (xs (6 * t + 1)) (xs (6 * t + 2)) hM hw) sV_L_161 hO1.2.1 rfl rfl hO1 ⟨by decide, by decide⟩ ⟨by show _ + 0 ≤ 603072; omega, by show _ + 0 ≤ 7215210; omega⟩ hFM (Nat.le_of_ble_eq_true rfl) dL_law_791 (fun v2 H2 hv2 z2c kk2 => ?_)
  obtain ⟨hz2, ⟨wv, rfl, hwo⟩, sc2, ar2, hO2, hM2, hth⟩ := hv2
  refine zs_widen (k' := 25 + 70 * (t + 1)) (n' := 53172 + 240 * (t + 1)) (by show _ + 0 ≤ _; omega) (by show _ + 0 ≤ _; omega) ?_
  have hI2 : lw_I D E s.heap.size x mx u w ad μ Z (o_isAbove S (xs (6 * t + 1)) (xs (6 * t + 2))).2.2 κ1 sc2 ar2 H2 := lw_n hI0 (wfo_isAbove hw (xs (6 * t + 1)) (xs (6 * t + 2))) z1c hX1 hk1 hz2 kk2 hO2 hM2 ⟨f, r1⟩ ⟨g0, rw0.kept (kk1 _ rw0.lt (fun z => by rcases z with z | z; have := z.2; omega; exact k3 z.symm))⟩
  have r2 := r1.kept (kk2 _ r1.lt (fun z => (hμ u z).2.2.1 rfl))
  refine zs_istore (lo' := [(7, .int wv), (6, .int (nI ((o_isAbove S (xs (6 * t + 1)) (xs (6 * t + 2))).1))), (5, .int (nI (6 * t))), (0, .ref b), (1, .ref x), (2, .ref mx), (3, .ref u), (4, .ref w)]) hE dL_law_794 (by decide) rfl ?_
  refine zs_aload_n hE 5 dL_law_796 rfl rfl ?_
  refine zs_callVR (av := []) (st := []) (b := mx) hE (m_X7_thrown D E s.heap.size l μ mx ad sc2 ar2) rfl rfl sV_L_126 hO2.2.1 rfl rfl hO2 ⟨by decide, by decide⟩ ⟨by show _ ≤ 603072; omega, by show _ ≤ 7215210; omega⟩ (Nat.le_of_ble_eq_true rfl) dL_law_797 ?_
  refine zs_top (v' := .int (nI ((o_isAbove S (xs (6 * t + 1)) (xs (6 * t + 2))).1))) (by rw [hth]) ?_
  refine zs_iload hE 1 dL_law_800 rfl ?_
  refine zs_icmp_eqN (tgt := 807) hE (by omega) (by omega) dL_law_802 (by decide) (fun h9 => ?_) (fun h9 => ?_)
  · refine zs_iload hE 1 dL_law_807 rfl ?_
    refine zs_if_neN (tgt := 831) hE (by omega) dL_law_809 (by decide) (fun h5 => ?_) (fun h5 => ?_)
    · refine zs_goto (tgt := 2202) hE dL_law_831 (by decide) ?_
      refine zs_iinc (v := ((nI (6 * t)) + (6))) (lo' := [(5, .int ((nI (6 * t)) + (6))), (7, .int wv), (6, .int (nI ((o_isAbove S (xs (6 * t + 1)) (xs (6 * t + 2))).1))), (0, .ref b), (1, .ref x), (2, .ref mx), (3, .ref u), (4, .ref w)]) hE 2 dL_law_2202 rfl (by first | rfl | decide) (by decide) rfl ?_
      refine zs_goto (tgt := 28) hE dL_law_2205 (by decide) ?_
      refine zs_sub (lo' := [(5, .int ((nI (6 * t)) + (6))), (0, .ref b), (1, .ref x), (2, .ref mx), (3, .ref u), (4, .ref w)]) [0, 3, 4, 5, 6, 7] rfl ?_
      refine zs_lo (lo' := [(5, .int (nI (6 * (t + 1)))), (0, .ref b), (1, .ref x), (2, .ref mx), (3, .ref u), (4, .ref w)]) (by rw [show nI (6 * t) + (6) = nI (6 * (t + 1)) from nI_add (6 * t) 6]) ?_
      exact ih _ _ _ _ _ hI2
    · obtain ⟨P9, hP9⟩ := vb_isAbove S (xs (6 * t + 1)) (xs (6 * t + 2)) h5
      have hwP : wv = zs_b P9 := by have := (hwo h5).trans hP9; injection this
      refine zs_lo (lo' := [(7, .int (zs_b P9)), (6, .int (nI ((o_isAbove S (xs (6 * t + 1)) (xs (6 * t + 2))).1))), (5, .int (nI (6 * t))), (0, .ref b), (1, .ref x), (2, .ref mx), (3, .ref u), (4, .ref w)]) (by rw [hwP]) ?_
      refine zs_aload_n hE 6 dL_law_812 rfl rfl ?_
      refine zs_iconst (v := (nI 0)) hE dL_law_813 (by decide) ?_
      refine zs_lald hE r2 (by decide) (by decide) dL_law_814 ?_
      refine zs_iload hE 0 dL_law_815 rfl ?_
      refine zs_if_eqB (tgt := 824) hE dL_law_817 (by decide) (fun h8 => ?_) (fun h8 => ?_)
      · refine zs_lconst (v := (0 : Int64)) hE dL_law_824 (by decide) ?_
        refine zs_lcmp hE dL_law_825 ?_
        refine zs_top (v' := .int (nI 0)) (by rw [← hf0 h5, hP9, zs_b0 h8]; rfl) ?_
        refine zs_if_eqN (tgt := 831) hE (by decide) dL_law_826 (by decide) (fun h7 => ?_) (fun h7 => ?_)
        · refine zs_goto (tgt := 2202) hE dL_law_831 (by decide) ?_
          refine zs_iinc (v := ((nI (6 * t)) + (6))) (lo' := [(5, .int ((nI (6 * t)) + (6))), (7, .int (zs_b P9)), (6, .int (nI ((o_isAbove S (xs (6 * t + 1)) (xs (6 * t + 2))).1))), (0, .ref b), (1, .ref x), (2, .ref mx), (3, .ref u), (4, .ref w)]) hE 2 dL_law_2202 rfl (by first | rfl | decide) (by decide) rfl ?_
          refine zs_goto (tgt := 28) hE dL_law_2205 (by decide) ?_
          refine zs_sub (lo' := [(5, .int ((nI (6 * t)) + (6))), (0, .ref b), (1, .ref x), (2, .ref mx), (3, .ref u), (4, .ref w)]) [0, 3, 4, 5, 6, 7] rfl ?_
          refine zs_lo (lo' := [(5, .int (nI (6 * (t + 1)))), (0, .ref b), (1, .ref x), (2, .ref mx), (3, .ref u), (4, .ref w)]) (by rw [show nI (6 * t) + (6) = nI (6 * (t + 1)) from nI_add (6 * t) 6]) ?_
          exact ih _ _ _ _ _ hI2
        · exact absurd h7 (by decide)
      · refine zs_lconst (v := (1 : Int64)) hE dL_law_820 (by decide) ?_
        refine zs_goto (tgt := 825) hE dL_law_821 (by decide) ?_
        refine zs_lcmp hE dL_law_825 ?_
        refine zs_top (v' := .int (nI 0)) (by rw [← hf0 h5, hP9, zs_b1 h8]; rfl) ?_
        refine zs_if_eqN (tgt := 831) hE (by decide) dL_law_826 (by decide) (fun h7 => ?_) (fun h7 => ?_)
        · refine zs_goto (tgt := 2202) hE dL_law_831 (by decide) ?_
          refine zs_iinc (v := ((nI (6 * t)) + (6))) (lo' := [(5, .int ((nI (6 * t)) + (6))), (7, .int (zs_b P9)), (6, .int (nI ((o_isAbove S (xs (6 * t + 1)) (xs (6 * t + 2))).1))), (0, .ref b), (1, .ref x), (2, .ref mx), (3, .ref u), (4, .ref w)]) hE 2 dL_law_2202 rfl (by first | rfl | decide) (by decide) rfl ?_
          refine zs_goto (tgt := 28) hE dL_law_2205 (by decide) ?_
          refine zs_sub (lo' := [(5, .int ((nI (6 * t)) + (6))), (0, .ref b), (1, .ref x), (2, .ref mx), (3, .ref u), (4, .ref w)]) [0, 3, 4, 5, 6, 7] rfl ?_
          refine zs_lo (lo' := [(5, .int (nI (6 * (t + 1)))), (0, .ref b), (1, .ref x), (2, .ref mx), (3, .ref u), (4, .ref w)]) (by rw [show nI (6 * t) + (6) = nI (6 * (t + 1)) from nI_add (6 * t) 6]) ?_
          exact ih _ _ _ _ _ hI2
        · exact absurd h7 (by decide)
  · exact absurd rfl h9

set_option maxHeartbeats 4000000 in
set_option maxRecDepth 100000 in
theorem lw_rows {D : va_G} {E : Nat → ClassId} {l : Launch} (hl : l.stackTraces = false) {p : Program} {e : Env} {s : State} {m : MethodId} {below : List Frame} {meth : Method} {c : Code} {b L : Nat} {xs : Nat → Int32} (hL : L ≤ 3072) (hX0 : va_X b L xs s s.heap) (hbl : b < s.heap.size) (hE : zs_E D E s.heap.size (fun q => s.heap.size ≤ q) s m #[Value.ref b] meth c p code 9 RL) (hN : zw_N s) {x mx u w : Nat} {ad μ : Nat → Nat} {Z : Nat} {t : Nat} (ht : 6 * t + 6 ≤ L) {S : sp_S} {κ sc : Nat → Nat} {ar : Nat → Nat → Int32} {K : Heap} (hI : lw_I D E s.heap.size x mx u w ad μ Z S κ sc ar K) (ih : ∀ (S : sp_S) (κ sc : Nat → Nat) (ar : Nat → Nat → Int32) (K : Heap), lw_I D E s.heap.size x mx u w ad μ Z S κ sc ar K → zs_W (fun q => s.heap.size ≤ q) p l e room_1 s m #[Value.ref b] below meth c 9 (lw_Z below #[Value.ref b] s) K (25 + 70 * (t + 1)) (53172 + 240 * (t + 1)) 28 [(5, .int (nI (6 * (t + 1)))), (0, .ref b), (1, .ref x), (2, .ref mx), (3, .ref u), (4, .ref w)] []) : zs_W (fun q => s.heap.size ≤ q) p l e room_1 s m #[Value.ref b] below meth c 9 (lw_Z below #[Value.ref b] s) K (25 + 70 * t) (53172 + 240 * t) 834 [(5, .int (nI (6 * t))), (0, .ref b), (1, .ref x), (2, .ref mx), (3, .ref u), (4, .ref w)] [] := by
  have hI0 := hI
  obtain ⟨hw, hX, hO, hM, hμ, ⟨k1, k2, k3, k4, k5⟩, hB, ⟨z1, z2⟩, ⟨f0, ru0⟩, ⟨g0, rw0⟩⟩ := hI
  have hFB : ∀ q, cs_F κ q → s.heap.size ≤ q := fun q hq => by rcases Nat.lt_or_ge q s.heap.size with z | z; have := hB q z; have := hq.1; omega; exact z
  have hFM : ∀ q, md_F μ q → s.heap.size ≤ q := fun q hq => (hμ q hq).2.2.2.2
  have hxX : ∃ fs, zs_pt D x (.inr (6, fs)) K := by obtain ⟨a1, a2, a3, a4, a5, lp, lv, lh, lz, tg, ⟨t0, t1, t2, t3, t4, t5, hx, -⟩, -⟩ := hX; exact ⟨_, hx⟩
  obtain ⟨fs, hx⟩ := hxX
  refine zs_aload_n hE 2 dL_law_834 rfl rfl ?_
  refine zs_aload_n hE 1 dL_law_835 rfl rfl ?_
  refine zs_iload hE 0 dL_law_836 rfl ?_
  refine zs_iconst (v := (nI 1)) hE dL_law_838 (by decide) ?_
  refine zs_iaddN hE dL_law_839 ?_
  refine zs_sld hE hX0 hbl (Nat.not_le.mpr hbl) (by omega) (by omega) dL_law_840 ?_
  refine zs_aload_n hE 1 dL_law_841 rfl rfl ?_
  refine zs_iload hE 0 dL_law_842 rfl ?_
  refine zs_iconst (v := (nI 2)) hE dL_law_844 (by decide) ?_
  refine zs_iaddN hE dL_law_845 ?_
  refine zs_sld hE hX0 hbl (Nat.not_le.mpr hbl) (by omega) (by omega) dL_law_846 ?_
  refine zs_aload_n hE 1 dL_law_847 rfl rfl ?_
  refine zs_iload hE 0 dL_law_848 rfl ?_
  refine zs_iconst (v := (nI 3)) hE dL_law_850 (by decide) ?_
  refine zs_iaddN hE dL_law_851 ?_
  refine zs_sld hE hX0 hbl (Nat.not_le.mpr hbl) (by omega) (by omega) dL_law_852 ?_
  refine zs_aload_n hE 4 dL_law_853 rfl rfl ?_
  have h4 : (o_rows S (xs (6 * t + 1)) (xs (6 * t + 2)) (xs (6 * t + 3))).1 ≤ 4 := v4_rows S (xs (6 * t + 1)) (xs (6 * t + 2)) (xs (6 * t + 3))
  refine zw_callW (av := [.ref x, .int (xs (6 * t + 1)), .int (xs (6 * t + 2)), .int (xs (6 * t + 3)), .ref u]) (st := []) hE hN (m_L_rows D E s.heap.size l hl κ S x u (xs (6 * t + 1)) (xs (6 * t + 2)) (xs (6 * t + 3)) k1) sW_L_162 ⟨⟨hX, hw⟩, f0, ru0⟩ ⟨by decide, by decide⟩ ⟨by show _ + 1 ≤ 603072; omega, by show _ + 6 ≤ 7215210; omega⟩ (fun q h9 => by rcases h9 with h9 | h9; exact hFB q h9; rw [h9]; exact k4) (Nat.le_of_ble_eq_true rfl) dL_law_854 (fun v H1 hv z1c kk1 => ?_)
  obtain ⟨rfl, -, ⟨κ1, hX1, hk1⟩, f, r1, hf0⟩ := hv
  refine zs_widen (k' := 25 + 70 * (t + 1)) (n' := 53172 + 240 * (t + 1)) (by show 25 + 70 * t + 1 ≤ _; omega) (by show 53172 + 240 * t + 6 ≤ _; omega) ?_
  have hO1 : md_O D E μ mx ad sc ar H1 := lw_m hI0 (fun q q1 q2 => kk1 q q1 (fun z => q2 (by rcases z with z | z; exact Or.inl z; exact Or.inr (Or.inl z))))
  refine zs_istore (lo' := [(6, .int (nI ((o_rows S (xs (6 * t + 1)) (xs (6 * t + 2)) (xs (6 * t + 3))).1))), (5, .int (nI (6 * t))), (0, .ref b), (1, .ref x), (2, .ref mx), (3, .ref u), (4, .ref w)]) hE dL_law_857 (by decide) rfl ?_
  refine zs_aload_n hE 4 dL_law_859 rfl rfl ?_
  refine zs_aload_n hE 2 dL_law_860 rfl rfl ?_
  refine zs_iload hE 1 dL_law_861 rfl ?_
  refine zs_iconst (v := (nI 1)) hE dL_law_863 (by decide) ?_
  refine zs_iaddN hE dL_law_864 ?_
  refine zs_sld hE hX0 hbl (Nat.not_le.mpr hbl) (by omega) (by omega) dL_law_865 ?_
  refine zs_aload_n hE 2 dL_law_866 rfl rfl ?_
  refine zs_iload hE 1 dL_law_867 rfl ?_
  refine zs_iconst (v := (nI 2)) hE dL_law_869 (by decide) ?_
  refine zs_iaddN hE dL_law_870 ?_
  refine zs_sld hE hX0 hbl (Nat.not_le.mpr hbl) (by omega) (by omega) dL_law_871 ?_
  refine zs_aload_n hE 2 dL_law_872 rfl rfl ?_
  refine zs_iload hE 1 dL_law_873 rfl ?_
  refine zs_iconst (v := (nI 3)) hE dL_law_875 (by decide) ?_
  refine zs_iaddN hE dL_law_876 ?_
  refine zs_sld hE hX0 hbl (Nat.not_le.mpr hbl) (by omega) (by omega) dL_law_877 ?_
  refine zs_callV (av := [.int (xs (6 * t + 1)), .int (xs (6 * t + 2)), .int (xs (6 * t + 3))]) (st := []) hE (m_X7_rows D E s.heap.size l μ mx ad sc ar S (xs (6 * t + 1)) (xs (6 * t + 2)) (xs (6 * t + 3)) hM hw) sV_L_164 hO1.2.1 rfl rfl hO1 ⟨by decide, by decide⟩ ⟨by show _ + 0 ≤ 603072; omega, by show _ + 0 ≤ 7215210; omega⟩ hFM (Nat.le_of_ble_eq_true rfl) dL_law_878 (fun v2 H2 hv2 z2c kk2 => ?_)
  obtain ⟨hz2, ⟨wv, rfl, hwo⟩, sc2, ar2, hO2, hM2, hth⟩ := hv2
  refine zs_widen (k' := 25 + 70 * (t + 1)) (n' := 53172 + 240 * (t + 1)) (by show _ + 0 ≤ _; omega) (by show _ + 0 ≤ _; omega) ?_
  have hI2 : lw_I D E s.heap.size x mx u w ad μ Z (o_rows S (xs (6 * t + 1)) (xs (6 * t + 2)) (xs (6 * t + 3))).2.2 κ1 sc2 ar2 H2 := lw_n hI0 (wfo_rows hw (xs (6 * t + 1)) (xs (6 * t + 2)) (xs (6 * t + 3))) z1c hX1 hk1 hz2 kk2 hO2 hM2 ⟨f, r1⟩ ⟨g0, rw0.kept (kk1 _ rw0.lt (fun z => by rcases z with z | z; have := z.2; omega; exact k3 z.symm))⟩
  have r2 := r1.kept (kk2 _ r1.lt (fun z => (hμ u z).2.2.1 rfl))
  refine zs_istore (lo' := [(7, .int wv), (6, .int (nI ((o_rows S (xs (6 * t + 1)) (xs (6 * t + 2)) (xs (6 * t + 3))).1))), (5, .int (nI (6 * t))), (0, .ref b), (1, .ref x), (2, .ref mx), (3, .ref u), (4, .ref w)]) hE dL_law_881 (by decide) rfl ?_
  refine zs_aload_n hE 5 dL_law_883 rfl rfl ?_
  refine zs_callVR (av := []) (st := []) (b := mx) hE (m_X7_thrown D E s.heap.size l μ mx ad sc2 ar2) rfl rfl sV_L_126 hO2.2.1 rfl rfl hO2 ⟨by decide, by decide⟩ ⟨by show _ ≤ 603072; omega, by show _ ≤ 7215210; omega⟩ (Nat.le_of_ble_eq_true rfl) dL_law_884 ?_
  refine zs_top (v' := .int (nI ((o_rows S (xs (6 * t + 1)) (xs (6 * t + 2)) (xs (6 * t + 3))).1))) (by rw [hth]) ?_
  refine zs_iload hE 1 dL_law_887 rfl ?_
  refine zs_icmp_eqN (tgt := 894) hE (by omega) (by omega) dL_law_889 (by decide) (fun h9 => ?_) (fun h9 => ?_)
  · refine zs_iload hE 1 dL_law_894 rfl ?_
    refine zs_if_neN (tgt := 911) hE (by omega) dL_law_896 (by decide) (fun h5 => ?_) (fun h5 => ?_)
    · refine zs_goto (tgt := 2202) hE dL_law_911 (by decide) ?_
      refine zs_iinc (v := ((nI (6 * t)) + (6))) (lo' := [(5, .int ((nI (6 * t)) + (6))), (7, .int wv), (6, .int (nI ((o_rows S (xs (6 * t + 1)) (xs (6 * t + 2)) (xs (6 * t + 3))).1))), (0, .ref b), (1, .ref x), (2, .ref mx), (3, .ref u), (4, .ref w)]) hE 2 dL_law_2202 rfl (by first | rfl | decide) (by decide) rfl ?_
      refine zs_goto (tgt := 28) hE dL_law_2205 (by decide) ?_
      refine zs_sub (lo' := [(5, .int ((nI (6 * t)) + (6))), (0, .ref b), (1, .ref x), (2, .ref mx), (3, .ref u), (4, .ref w)]) [0, 3, 4, 5, 6, 7] rfl ?_
      refine zs_lo (lo' := [(5, .int (nI (6 * (t + 1)))), (0, .ref b), (1, .ref x), (2, .ref mx), (3, .ref u), (4, .ref w)]) (by rw [show nI (6 * t) + (6) = nI (6 * (t + 1)) from nI_add (6 * t) 6]) ?_
      exact ih _ _ _ _ _ hI2
    · refine zs_aload_n hE 6 dL_law_899 rfl rfl ?_
      refine zs_iconst (v := (nI 0)) hE dL_law_900 (by decide) ?_
      refine zs_lald hE r2 (by decide) (by decide) dL_law_901 ?_
      refine zs_iload hE 0 dL_law_902 rfl ?_
      refine zs_i2l hE dL_law_904 ?_
      refine zs_lcmp hE dL_law_905 ?_
      refine zs_top (v' := .int (nI 0)) (by rw [show f 0 = wv.toInt64 from (hf0 h5).symm.trans (by rw [← hwo h5]; rfl), lg_self]; rfl) ?_
      refine zs_if_eqN (tgt := 911) hE (by decide) dL_law_906 (by decide) (fun h7 => ?_) (fun h7 => ?_)
      · refine zs_goto (tgt := 2202) hE dL_law_911 (by decide) ?_
        refine zs_iinc (v := ((nI (6 * t)) + (6))) (lo' := [(5, .int ((nI (6 * t)) + (6))), (7, .int wv), (6, .int (nI ((o_rows S (xs (6 * t + 1)) (xs (6 * t + 2)) (xs (6 * t + 3))).1))), (0, .ref b), (1, .ref x), (2, .ref mx), (3, .ref u), (4, .ref w)]) hE 2 dL_law_2202 rfl (by first | rfl | decide) (by decide) rfl ?_
        refine zs_goto (tgt := 28) hE dL_law_2205 (by decide) ?_
        refine zs_sub (lo' := [(5, .int ((nI (6 * t)) + (6))), (0, .ref b), (1, .ref x), (2, .ref mx), (3, .ref u), (4, .ref w)]) [0, 3, 4, 5, 6, 7] rfl ?_
        refine zs_lo (lo' := [(5, .int (nI (6 * (t + 1)))), (0, .ref b), (1, .ref x), (2, .ref mx), (3, .ref u), (4, .ref w)]) (by rw [show nI (6 * t) + (6) = nI (6 * (t + 1)) from nI_add (6 * t) 6]) ?_
        exact ih _ _ _ _ _ hI2
      · exact absurd h7 (by decide)
  · exact absurd rfl h9

set_option maxHeartbeats 4000000 in
set_option maxRecDepth 100000 in
theorem lw_noteAt {D : va_G} {E : Nat → ClassId} {l : Launch} (hl : l.stackTraces = false) {p : Program} {e : Env} {s : State} {m : MethodId} {below : List Frame} {meth : Method} {c : Code} {b L : Nat} {xs : Nat → Int32} (hL : L ≤ 3072) (hX0 : va_X b L xs s s.heap) (hbl : b < s.heap.size) (hE : zs_E D E s.heap.size (fun q => s.heap.size ≤ q) s m #[Value.ref b] meth c p code 9 RL) (hN : zw_N s) {x mx u w : Nat} {ad μ : Nat → Nat} {Z : Nat} {t : Nat} (ht : 6 * t + 6 ≤ L) {S : sp_S} {κ sc : Nat → Nat} {ar : Nat → Nat → Int32} {K : Heap} (hI : lw_I D E s.heap.size x mx u w ad μ Z S κ sc ar K) (ih : ∀ (S : sp_S) (κ sc : Nat → Nat) (ar : Nat → Nat → Int32) (K : Heap), lw_I D E s.heap.size x mx u w ad μ Z S κ sc ar K → zs_W (fun q => s.heap.size ≤ q) p l e room_1 s m #[Value.ref b] below meth c 9 (lw_Z below #[Value.ref b] s) K (25 + 70 * (t + 1)) (53172 + 240 * (t + 1)) 28 [(5, .int (nI (6 * (t + 1)))), (0, .ref b), (1, .ref x), (2, .ref mx), (3, .ref u), (4, .ref w)] []) : zs_W (fun q => s.heap.size ≤ q) p l e room_1 s m #[Value.ref b] below meth c 9 (lw_Z below #[Value.ref b] s) K (25 + 70 * t) (53172 + 240 * t) 914 [(5, .int (nI (6 * t))), (0, .ref b), (1, .ref x), (2, .ref mx), (3, .ref u), (4, .ref w)] [] := by
  have hI0 := hI
  obtain ⟨hw, hX, hO, hM, hμ, ⟨k1, k2, k3, k4, k5⟩, hB, ⟨z1, z2⟩, ⟨f0, ru0⟩, ⟨g0, rw0⟩⟩ := hI
  have hFB : ∀ q, cs_F κ q → s.heap.size ≤ q := fun q hq => by rcases Nat.lt_or_ge q s.heap.size with z | z; have := hB q z; have := hq.1; omega; exact z
  have hFM : ∀ q, md_F μ q → s.heap.size ≤ q := fun q hq => (hμ q hq).2.2.2.2
  have hxX : ∃ fs, zs_pt D x (.inr (6, fs)) K := by obtain ⟨a1, a2, a3, a4, a5, lp, lv, lh, lz, tg, ⟨t0, t1, t2, t3, t4, t5, hx, -⟩, -⟩ := hX; exact ⟨_, hx⟩
  obtain ⟨fs, hx⟩ := hxX
  refine zs_aload_n hE 2 dL_law_914 rfl rfl ?_
  refine zs_aload_n hE 1 dL_law_915 rfl rfl ?_
  refine zs_iload hE 0 dL_law_916 rfl ?_
  refine zs_iconst (v := (nI 1)) hE dL_law_918 (by decide) ?_
  refine zs_iaddN hE dL_law_919 ?_
  refine zs_sld hE hX0 hbl (Nat.not_le.mpr hbl) (by omega) (by omega) dL_law_920 ?_
  refine zs_aload_n hE 1 dL_law_921 rfl rfl ?_
  refine zs_iload hE 0 dL_law_922 rfl ?_
  refine zs_iconst (v := (nI 2)) hE dL_law_924 (by decide) ?_
  refine zs_iaddN hE dL_law_925 ?_
  refine zs_sld hE hX0 hbl (Nat.not_le.mpr hbl) (by omega) (by omega) dL_law_926 ?_
  refine zs_aload_n hE 1 dL_law_927 rfl rfl ?_
  refine zs_iload hE 0 dL_law_928 rfl ?_
  refine zs_iconst (v := (nI 3)) hE dL_law_930 (by decide) ?_
  refine zs_iaddN hE dL_law_931 ?_
  refine zs_sld hE hX0 hbl (Nat.not_le.mpr hbl) (by omega) (by omega) dL_law_932 ?_
  refine zs_aload_n hE 1 dL_law_933 rfl rfl ?_
  refine zs_iload hE 0 dL_law_934 rfl ?_
  refine zs_iconst (v := (nI 4)) hE dL_law_936 (by decide) ?_
  refine zs_iaddN hE dL_law_937 ?_
  refine zs_sld hE hX0 hbl (Nat.not_le.mpr hbl) (by omega) (by omega) dL_law_938 ?_
  refine zs_aload_n hE 1 dL_law_939 rfl rfl ?_
  refine zs_iload hE 0 dL_law_940 rfl ?_
  refine zs_iconst (v := (nI 5)) hE dL_law_942 (by decide) ?_
  refine zs_iaddN hE dL_law_943 ?_
  refine zs_sld hE hX0 hbl (Nat.not_le.mpr hbl) (by omega) (by omega) dL_law_944 ?_
  refine zs_aload_n hE 4 dL_law_945 rfl rfl ?_
  have h4 : (o_noteAt S (xs (6 * t + 1)) (xs (6 * t + 2)) (xs (6 * t + 3)) (xs (6 * t + 4)) (xs (6 * t + 5))).1 ≤ 4 := v4_noteAt S (xs (6 * t + 1)) (xs (6 * t + 2)) (xs (6 * t + 3)) (xs (6 * t + 4)) (xs (6 * t + 5))
  refine zw_callW (av := [.ref x, .int (xs (6 * t + 1)), .int (xs (6 * t + 2)), .int (xs (6 * t + 3)), .int (xs (6 * t + 4)), .int (xs (6 * t + 5)), .ref u]) (st := []) hE hN (m_L_noteAt D E s.heap.size l hl κ S x u (xs (6 * t + 1)) (xs (6 * t + 2)) (xs (6 * t + 3)) (xs (6 * t + 4)) (xs (6 * t + 5)) k1) sW_L_165 ⟨⟨hX, hw⟩, f0, ru0⟩ ⟨by decide, by decide⟩ ⟨by show _ + 1 ≤ 603072; omega, by show _ + 6 ≤ 7215210; omega⟩ (fun q h9 => by rcases h9 with h9 | h9; exact hFB q h9; rw [h9]; exact k4) (Nat.le_of_ble_eq_true rfl) dL_law_946 (fun v H1 hv z1c kk1 => ?_)
  obtain ⟨rfl, -, ⟨κ1, hX1, hk1⟩, f, r1, hf0⟩ := hv
  refine zs_widen (k' := 25 + 70 * (t + 1)) (n' := 53172 + 240 * (t + 1)) (by show 25 + 70 * t + 1 ≤ _; omega) (by show 53172 + 240 * t + 6 ≤ _; omega) ?_
  have hO1 : md_O D E μ mx ad sc ar H1 := lw_m hI0 (fun q q1 q2 => kk1 q q1 (fun z => q2 (by rcases z with z | z; exact Or.inl z; exact Or.inr (Or.inl z))))
  refine zs_istore (lo' := [(6, .int (nI ((o_noteAt S (xs (6 * t + 1)) (xs (6 * t + 2)) (xs (6 * t + 3)) (xs (6 * t + 4)) (xs (6 * t + 5))).1))), (5, .int (nI (6 * t))), (0, .ref b), (1, .ref x), (2, .ref mx), (3, .ref u), (4, .ref w)]) hE dL_law_949 (by decide) rfl ?_
  refine zs_aload_n hE 4 dL_law_951 rfl rfl ?_
  refine zs_aload_n hE 2 dL_law_952 rfl rfl ?_
  refine zs_iload hE 1 dL_law_953 rfl ?_
  refine zs_iconst (v := (nI 1)) hE dL_law_955 (by decide) ?_
  refine zs_iaddN hE dL_law_956 ?_
  refine zs_sld hE hX0 hbl (Nat.not_le.mpr hbl) (by omega) (by omega) dL_law_957 ?_
  refine zs_aload_n hE 2 dL_law_958 rfl rfl ?_
  refine zs_iload hE 1 dL_law_959 rfl ?_
  refine zs_iconst (v := (nI 2)) hE dL_law_961 (by decide) ?_
  refine zs_iaddN hE dL_law_962 ?_
  refine zs_sld hE hX0 hbl (Nat.not_le.mpr hbl) (by omega) (by omega) dL_law_963 ?_
  refine zs_aload_n hE 2 dL_law_964 rfl rfl ?_
  refine zs_iload hE 1 dL_law_965 rfl ?_
  refine zs_iconst (v := (nI 3)) hE dL_law_967 (by decide) ?_
  refine zs_iaddN hE dL_law_968 ?_
  refine zs_sld hE hX0 hbl (Nat.not_le.mpr hbl) (by omega) (by omega) dL_law_969 ?_
  refine zs_aload_n hE 2 dL_law_970 rfl rfl ?_
  refine zs_iload hE 1 dL_law_971 rfl ?_
  refine zs_iconst (v := (nI 4)) hE dL_law_973 (by decide) ?_
  refine zs_iaddN hE dL_law_974 ?_
  refine zs_sld hE hX0 hbl (Nat.not_le.mpr hbl) (by omega) (by omega) dL_law_975 ?_
  refine zs_aload_n hE 2 dL_law_976 rfl rfl ?_
  refine zs_iload hE 1 dL_law_977 rfl ?_
  refine zs_iconst (v := (nI 5)) hE dL_law_979 (by decide) ?_
  refine zs_iaddN hE dL_law_980 ?_
  refine zs_sld hE hX0 hbl (Nat.not_le.mpr hbl) (by omega) (by omega) dL_law_981 ?_
  refine zs_callV (av := [.int (xs (6 * t + 1)), .int (xs (6 * t + 2)), .int (xs (6 * t + 3)), .int (xs (6 * t + 4)), .int (xs (6 * t + 5))]) (st := []) hE (m_X7_noteAt D E s.heap.size l μ mx ad sc ar S (xs (6 * t + 1)) (xs (6 * t + 2)) (xs (6 * t + 3)) (xs (6 * t + 4)) (xs (6 * t + 5)) hM hw) sV_L_168 hO1.2.1 rfl rfl hO1 ⟨by decide, by decide⟩ ⟨by show _ + 0 ≤ 603072; omega, by show _ + 0 ≤ 7215210; omega⟩ hFM (Nat.le_of_ble_eq_true rfl) dL_law_982 (fun v2 H2 hv2 z2c kk2 => ?_)
  obtain ⟨hz2, ⟨wv, rfl, hwo⟩, sc2, ar2, hO2, hM2, hth⟩ := hv2
  refine zs_widen (k' := 25 + 70 * (t + 1)) (n' := 53172 + 240 * (t + 1)) (by show _ + 0 ≤ _; omega) (by show _ + 0 ≤ _; omega) ?_
  have hI2 : lw_I D E s.heap.size x mx u w ad μ Z (o_noteAt S (xs (6 * t + 1)) (xs (6 * t + 2)) (xs (6 * t + 3)) (xs (6 * t + 4)) (xs (6 * t + 5))).2.2 κ1 sc2 ar2 H2 := lw_n hI0 (wfo_noteAt hw (xs (6 * t + 1)) (xs (6 * t + 2)) (xs (6 * t + 3)) (xs (6 * t + 4)) (xs (6 * t + 5))) z1c hX1 hk1 hz2 kk2 hO2 hM2 ⟨f, r1⟩ ⟨g0, rw0.kept (kk1 _ rw0.lt (fun z => by rcases z with z | z; have := z.2; omega; exact k3 z.symm))⟩
  have r2 := r1.kept (kk2 _ r1.lt (fun z => (hμ u z).2.2.1 rfl))
  refine zs_istore (lo' := [(7, .int wv), (6, .int (nI ((o_noteAt S (xs (6 * t + 1)) (xs (6 * t + 2)) (xs (6 * t + 3)) (xs (6 * t + 4)) (xs (6 * t + 5))).1))), (5, .int (nI (6 * t))), (0, .ref b), (1, .ref x), (2, .ref mx), (3, .ref u), (4, .ref w)]) hE dL_law_985 (by decide) rfl ?_
  refine zs_aload_n hE 5 dL_law_987 rfl rfl ?_
  refine zs_callVR (av := []) (st := []) (b := mx) hE (m_X7_thrown D E s.heap.size l μ mx ad sc2 ar2) rfl rfl sV_L_126 hO2.2.1 rfl rfl hO2 ⟨by decide, by decide⟩ ⟨by show _ ≤ 603072; omega, by show _ ≤ 7215210; omega⟩ (Nat.le_of_ble_eq_true rfl) dL_law_988 ?_
  refine zs_top (v' := .int (nI ((o_noteAt S (xs (6 * t + 1)) (xs (6 * t + 2)) (xs (6 * t + 3)) (xs (6 * t + 4)) (xs (6 * t + 5))).1))) (by rw [hth]) ?_
  refine zs_iload hE 1 dL_law_991 rfl ?_
  refine zs_icmp_eqN (tgt := 998) hE (by omega) (by omega) dL_law_993 (by decide) (fun h9 => ?_) (fun h9 => ?_)
  · refine zs_iload hE 1 dL_law_998 rfl ?_
    refine zs_if_neN (tgt := 1015) hE (by omega) dL_law_1000 (by decide) (fun h5 => ?_) (fun h5 => ?_)
    · refine zs_goto (tgt := 2202) hE dL_law_1015 (by decide) ?_
      refine zs_iinc (v := ((nI (6 * t)) + (6))) (lo' := [(5, .int ((nI (6 * t)) + (6))), (7, .int wv), (6, .int (nI ((o_noteAt S (xs (6 * t + 1)) (xs (6 * t + 2)) (xs (6 * t + 3)) (xs (6 * t + 4)) (xs (6 * t + 5))).1))), (0, .ref b), (1, .ref x), (2, .ref mx), (3, .ref u), (4, .ref w)]) hE 2 dL_law_2202 rfl (by first | rfl | decide) (by decide) rfl ?_
      refine zs_goto (tgt := 28) hE dL_law_2205 (by decide) ?_
      refine zs_sub (lo' := [(5, .int ((nI (6 * t)) + (6))), (0, .ref b), (1, .ref x), (2, .ref mx), (3, .ref u), (4, .ref w)]) [0, 3, 4, 5, 6, 7] rfl ?_
      refine zs_lo (lo' := [(5, .int (nI (6 * (t + 1)))), (0, .ref b), (1, .ref x), (2, .ref mx), (3, .ref u), (4, .ref w)]) (by rw [show nI (6 * t) + (6) = nI (6 * (t + 1)) from nI_add (6 * t) 6]) ?_
      exact ih _ _ _ _ _ hI2
    · refine zs_aload_n hE 6 dL_law_1003 rfl rfl ?_
      refine zs_iconst (v := (nI 0)) hE dL_law_1004 (by decide) ?_
      refine zs_lald hE r2 (by decide) (by decide) dL_law_1005 ?_
      refine zs_iload hE 0 dL_law_1006 rfl ?_
      refine zs_i2l hE dL_law_1008 ?_
      refine zs_lcmp hE dL_law_1009 ?_
      refine zs_top (v' := .int (nI 0)) (by rw [show f 0 = wv.toInt64 from (hf0 h5).symm.trans (by rw [← hwo h5]; rfl), lg_self]; rfl) ?_
      refine zs_if_eqN (tgt := 1015) hE (by decide) dL_law_1010 (by decide) (fun h7 => ?_) (fun h7 => ?_)
      · refine zs_goto (tgt := 2202) hE dL_law_1015 (by decide) ?_
        refine zs_iinc (v := ((nI (6 * t)) + (6))) (lo' := [(5, .int ((nI (6 * t)) + (6))), (7, .int wv), (6, .int (nI ((o_noteAt S (xs (6 * t + 1)) (xs (6 * t + 2)) (xs (6 * t + 3)) (xs (6 * t + 4)) (xs (6 * t + 5))).1))), (0, .ref b), (1, .ref x), (2, .ref mx), (3, .ref u), (4, .ref w)]) hE 2 dL_law_2202 rfl (by first | rfl | decide) (by decide) rfl ?_
        refine zs_goto (tgt := 28) hE dL_law_2205 (by decide) ?_
        refine zs_sub (lo' := [(5, .int ((nI (6 * t)) + (6))), (0, .ref b), (1, .ref x), (2, .ref mx), (3, .ref u), (4, .ref w)]) [0, 3, 4, 5, 6, 7] rfl ?_
        refine zs_lo (lo' := [(5, .int (nI (6 * (t + 1)))), (0, .ref b), (1, .ref x), (2, .ref mx), (3, .ref u), (4, .ref w)]) (by rw [show nI (6 * t) + (6) = nI (6 * (t + 1)) from nI_add (6 * t) 6]) ?_
        exact ih _ _ _ _ _ hI2
      · exact absurd h7 (by decide)
  · exact absurd rfl h9

set_option maxHeartbeats 4000000 in
set_option maxRecDepth 100000 in
theorem lw_writer {D : va_G} {E : Nat → ClassId} {l : Launch} (hl : l.stackTraces = false) {p : Program} {e : Env} {s : State} {m : MethodId} {below : List Frame} {meth : Method} {c : Code} {b L : Nat} {xs : Nat → Int32} (hL : L ≤ 3072) (hX0 : va_X b L xs s s.heap) (hbl : b < s.heap.size) (hE : zs_E D E s.heap.size (fun q => s.heap.size ≤ q) s m #[Value.ref b] meth c p code 9 RL) (hN : zw_N s) {x mx u w : Nat} {ad μ : Nat → Nat} {Z : Nat} {t : Nat} (ht : 6 * t + 6 ≤ L) {S : sp_S} {κ sc : Nat → Nat} {ar : Nat → Nat → Int32} {K : Heap} (hI : lw_I D E s.heap.size x mx u w ad μ Z S κ sc ar K) (ih : ∀ (S : sp_S) (κ sc : Nat → Nat) (ar : Nat → Nat → Int32) (K : Heap), lw_I D E s.heap.size x mx u w ad μ Z S κ sc ar K → zs_W (fun q => s.heap.size ≤ q) p l e room_1 s m #[Value.ref b] below meth c 9 (lw_Z below #[Value.ref b] s) K (25 + 70 * (t + 1)) (53172 + 240 * (t + 1)) 28 [(5, .int (nI (6 * (t + 1)))), (0, .ref b), (1, .ref x), (2, .ref mx), (3, .ref u), (4, .ref w)] []) : zs_W (fun q => s.heap.size ≤ q) p l e room_1 s m #[Value.ref b] below meth c 9 (lw_Z below #[Value.ref b] s) K (25 + 70 * t) (53172 + 240 * t) 1018 [(5, .int (nI (6 * t))), (0, .ref b), (1, .ref x), (2, .ref mx), (3, .ref u), (4, .ref w)] [] := by
  have hI0 := hI
  obtain ⟨hw, hX, hO, hM, hμ, ⟨k1, k2, k3, k4, k5⟩, hB, ⟨z1, z2⟩, ⟨f0, ru0⟩, ⟨g0, rw0⟩⟩ := hI
  have hFB : ∀ q, cs_F κ q → s.heap.size ≤ q := fun q hq => by rcases Nat.lt_or_ge q s.heap.size with z | z; have := hB q z; have := hq.1; omega; exact z
  have hFM : ∀ q, md_F μ q → s.heap.size ≤ q := fun q hq => (hμ q hq).2.2.2.2
  have hxX : ∃ fs, zs_pt D x (.inr (6, fs)) K := by obtain ⟨a1, a2, a3, a4, a5, lp, lv, lh, lz, tg, ⟨t0, t1, t2, t3, t4, t5, hx, -⟩, -⟩ := hX; exact ⟨_, hx⟩
  obtain ⟨fs, hx⟩ := hxX
  refine zs_aload_n hE 2 dL_law_1018 rfl rfl ?_
  refine zs_aload_n hE 1 dL_law_1019 rfl rfl ?_
  refine zs_iload hE 0 dL_law_1020 rfl ?_
  refine zs_iconst (v := (nI 1)) hE dL_law_1022 (by decide) ?_
  refine zs_iaddN hE dL_law_1023 ?_
  refine zs_sld hE hX0 hbl (Nat.not_le.mpr hbl) (by omega) (by omega) dL_law_1024 ?_
  refine zs_aload_n hE 1 dL_law_1025 rfl rfl ?_
  refine zs_iload hE 0 dL_law_1026 rfl ?_
  refine zs_iconst (v := (nI 2)) hE dL_law_1028 (by decide) ?_
  refine zs_iaddN hE dL_law_1029 ?_
  refine zs_sld hE hX0 hbl (Nat.not_le.mpr hbl) (by omega) (by omega) dL_law_1030 ?_
  refine zs_aload_n hE 1 dL_law_1031 rfl rfl ?_
  refine zs_iload hE 0 dL_law_1032 rfl ?_
  refine zs_iconst (v := (nI 3)) hE dL_law_1034 (by decide) ?_
  refine zs_iaddN hE dL_law_1035 ?_
  refine zs_sld hE hX0 hbl (Nat.not_le.mpr hbl) (by omega) (by omega) dL_law_1036 ?_
  refine zs_aload_n hE 1 dL_law_1037 rfl rfl ?_
  refine zs_iload hE 0 dL_law_1038 rfl ?_
  refine zs_iconst (v := (nI 4)) hE dL_law_1040 (by decide) ?_
  refine zs_iaddN hE dL_law_1041 ?_
  refine zs_sld hE hX0 hbl (Nat.not_le.mpr hbl) (by omega) (by omega) dL_law_1042 ?_
  refine zs_aload_n hE 4 dL_law_1043 rfl rfl ?_
  have h4 : (o_writer S (xs (6 * t + 1)) (xs (6 * t + 2)) (xs (6 * t + 3)) (xs (6 * t + 4))).1 ≤ 4 := v4_writer S (xs (6 * t + 1)) (xs (6 * t + 2)) (xs (6 * t + 3)) (xs (6 * t + 4))
  refine zw_callW (av := [.ref x, .int (xs (6 * t + 1)), .int (xs (6 * t + 2)), .int (xs (6 * t + 3)), .int (xs (6 * t + 4)), .ref u]) (st := []) hE hN (m_L_writer D E s.heap.size l hl κ S x u (xs (6 * t + 1)) (xs (6 * t + 2)) (xs (6 * t + 3)) (xs (6 * t + 4)) k1) sW_L_169 ⟨⟨hX, hw⟩, f0, ru0⟩ ⟨by decide, by decide⟩ ⟨by show _ + 1 ≤ 603072; omega, by show _ + 6 ≤ 7215210; omega⟩ (fun q h9 => by rcases h9 with h9 | h9; exact hFB q h9; rw [h9]; exact k4) (Nat.le_of_ble_eq_true rfl) dL_law_1044 (fun v H1 hv z1c kk1 => ?_)
  obtain ⟨rfl, -, ⟨κ1, hX1, hk1⟩, f, r1, hf0⟩ := hv
  refine zs_widen (k' := 25 + 70 * (t + 1)) (n' := 53172 + 240 * (t + 1)) (by show 25 + 70 * t + 1 ≤ _; omega) (by show 53172 + 240 * t + 6 ≤ _; omega) ?_
  have hO1 : md_O D E μ mx ad sc ar H1 := lw_m hI0 (fun q q1 q2 => kk1 q q1 (fun z => q2 (by rcases z with z | z; exact Or.inl z; exact Or.inr (Or.inl z))))
  refine zs_istore (lo' := [(6, .int (nI ((o_writer S (xs (6 * t + 1)) (xs (6 * t + 2)) (xs (6 * t + 3)) (xs (6 * t + 4))).1))), (5, .int (nI (6 * t))), (0, .ref b), (1, .ref x), (2, .ref mx), (3, .ref u), (4, .ref w)]) hE dL_law_1047 (by decide) rfl ?_
  refine zs_aload_n hE 4 dL_law_1049 rfl rfl ?_
  refine zs_aload_n hE 2 dL_law_1050 rfl rfl ?_
  refine zs_iload hE 1 dL_law_1051 rfl ?_
  refine zs_iconst (v := (nI 1)) hE dL_law_1053 (by decide) ?_
  refine zs_iaddN hE dL_law_1054 ?_
  refine zs_sld hE hX0 hbl (Nat.not_le.mpr hbl) (by omega) (by omega) dL_law_1055 ?_
  refine zs_aload_n hE 2 dL_law_1056 rfl rfl ?_
  refine zs_iload hE 1 dL_law_1057 rfl ?_
  refine zs_iconst (v := (nI 2)) hE dL_law_1059 (by decide) ?_
  refine zs_iaddN hE dL_law_1060 ?_
  refine zs_sld hE hX0 hbl (Nat.not_le.mpr hbl) (by omega) (by omega) dL_law_1061 ?_
  refine zs_aload_n hE 2 dL_law_1062 rfl rfl ?_
  refine zs_iload hE 1 dL_law_1063 rfl ?_
  refine zs_iconst (v := (nI 3)) hE dL_law_1065 (by decide) ?_
  refine zs_iaddN hE dL_law_1066 ?_
  refine zs_sld hE hX0 hbl (Nat.not_le.mpr hbl) (by omega) (by omega) dL_law_1067 ?_
  refine zs_aload_n hE 2 dL_law_1068 rfl rfl ?_
  refine zs_iload hE 1 dL_law_1069 rfl ?_
  refine zs_iconst (v := (nI 4)) hE dL_law_1071 (by decide) ?_
  refine zs_iaddN hE dL_law_1072 ?_
  refine zs_sld hE hX0 hbl (Nat.not_le.mpr hbl) (by omega) (by omega) dL_law_1073 ?_
  refine zs_callV (av := [.int (xs (6 * t + 1)), .int (xs (6 * t + 2)), .int (xs (6 * t + 3)), .int (xs (6 * t + 4))]) (st := []) hE (m_X7_writer D E s.heap.size l μ mx ad sc ar S (xs (6 * t + 1)) (xs (6 * t + 2)) (xs (6 * t + 3)) (xs (6 * t + 4)) hM hw) sV_L_171 hO1.2.1 rfl rfl hO1 ⟨by decide, by decide⟩ ⟨by show _ + 0 ≤ 603072; omega, by show _ + 0 ≤ 7215210; omega⟩ hFM (Nat.le_of_ble_eq_true rfl) dL_law_1074 (fun v2 H2 hv2 z2c kk2 => ?_)
  obtain ⟨hz2, ⟨wv, rfl, hwo⟩, sc2, ar2, hO2, hM2, hth⟩ := hv2
  refine zs_widen (k' := 25 + 70 * (t + 1)) (n' := 53172 + 240 * (t + 1)) (by show _ + 0 ≤ _; omega) (by show _ + 0 ≤ _; omega) ?_
  have hI2 : lw_I D E s.heap.size x mx u w ad μ Z (o_writer S (xs (6 * t + 1)) (xs (6 * t + 2)) (xs (6 * t + 3)) (xs (6 * t + 4))).2.2 κ1 sc2 ar2 H2 := lw_n hI0 (wfo_writer hw (xs (6 * t + 1)) (xs (6 * t + 2)) (xs (6 * t + 3)) (xs (6 * t + 4))) z1c hX1 hk1 hz2 kk2 hO2 hM2 ⟨f, r1⟩ ⟨g0, rw0.kept (kk1 _ rw0.lt (fun z => by rcases z with z | z; have := z.2; omega; exact k3 z.symm))⟩
  have r2 := r1.kept (kk2 _ r1.lt (fun z => (hμ u z).2.2.1 rfl))
  refine zs_istore (lo' := [(7, .int wv), (6, .int (nI ((o_writer S (xs (6 * t + 1)) (xs (6 * t + 2)) (xs (6 * t + 3)) (xs (6 * t + 4))).1))), (5, .int (nI (6 * t))), (0, .ref b), (1, .ref x), (2, .ref mx), (3, .ref u), (4, .ref w)]) hE dL_law_1077 (by decide) rfl ?_
  refine zs_aload_n hE 5 dL_law_1079 rfl rfl ?_
  refine zs_callVR (av := []) (st := []) (b := mx) hE (m_X7_thrown D E s.heap.size l μ mx ad sc2 ar2) rfl rfl sV_L_126 hO2.2.1 rfl rfl hO2 ⟨by decide, by decide⟩ ⟨by show _ ≤ 603072; omega, by show _ ≤ 7215210; omega⟩ (Nat.le_of_ble_eq_true rfl) dL_law_1080 ?_
  refine zs_top (v' := .int (nI ((o_writer S (xs (6 * t + 1)) (xs (6 * t + 2)) (xs (6 * t + 3)) (xs (6 * t + 4))).1))) (by rw [hth]) ?_
  refine zs_iload hE 1 dL_law_1083 rfl ?_
  refine zs_icmp_eqN (tgt := 1090) hE (by omega) (by omega) dL_law_1085 (by decide) (fun h9 => ?_) (fun h9 => ?_)
  · refine zs_iload hE 1 dL_law_1090 rfl ?_
    refine zs_if_neN (tgt := 1107) hE (by omega) dL_law_1092 (by decide) (fun h5 => ?_) (fun h5 => ?_)
    · refine zs_goto (tgt := 2202) hE dL_law_1107 (by decide) ?_
      refine zs_iinc (v := ((nI (6 * t)) + (6))) (lo' := [(5, .int ((nI (6 * t)) + (6))), (7, .int wv), (6, .int (nI ((o_writer S (xs (6 * t + 1)) (xs (6 * t + 2)) (xs (6 * t + 3)) (xs (6 * t + 4))).1))), (0, .ref b), (1, .ref x), (2, .ref mx), (3, .ref u), (4, .ref w)]) hE 2 dL_law_2202 rfl (by first | rfl | decide) (by decide) rfl ?_
      refine zs_goto (tgt := 28) hE dL_law_2205 (by decide) ?_
      refine zs_sub (lo' := [(5, .int ((nI (6 * t)) + (6))), (0, .ref b), (1, .ref x), (2, .ref mx), (3, .ref u), (4, .ref w)]) [0, 3, 4, 5, 6, 7] rfl ?_
      refine zs_lo (lo' := [(5, .int (nI (6 * (t + 1)))), (0, .ref b), (1, .ref x), (2, .ref mx), (3, .ref u), (4, .ref w)]) (by rw [show nI (6 * t) + (6) = nI (6 * (t + 1)) from nI_add (6 * t) 6]) ?_
      exact ih _ _ _ _ _ hI2
    · refine zs_aload_n hE 6 dL_law_1095 rfl rfl ?_
      refine zs_iconst (v := (nI 0)) hE dL_law_1096 (by decide) ?_
      refine zs_lald hE r2 (by decide) (by decide) dL_law_1097 ?_
      refine zs_iload hE 0 dL_law_1098 rfl ?_
      refine zs_i2l hE dL_law_1100 ?_
      refine zs_lcmp hE dL_law_1101 ?_
      refine zs_top (v' := .int (nI 0)) (by rw [show f 0 = wv.toInt64 from (hf0 h5).symm.trans (by rw [← hwo h5]; rfl), lg_self]; rfl) ?_
      refine zs_if_eqN (tgt := 1107) hE (by decide) dL_law_1102 (by decide) (fun h7 => ?_) (fun h7 => ?_)
      · refine zs_goto (tgt := 2202) hE dL_law_1107 (by decide) ?_
        refine zs_iinc (v := ((nI (6 * t)) + (6))) (lo' := [(5, .int ((nI (6 * t)) + (6))), (7, .int wv), (6, .int (nI ((o_writer S (xs (6 * t + 1)) (xs (6 * t + 2)) (xs (6 * t + 3)) (xs (6 * t + 4))).1))), (0, .ref b), (1, .ref x), (2, .ref mx), (3, .ref u), (4, .ref w)]) hE 2 dL_law_2202 rfl (by first | rfl | decide) (by decide) rfl ?_
        refine zs_goto (tgt := 28) hE dL_law_2205 (by decide) ?_
        refine zs_sub (lo' := [(5, .int ((nI (6 * t)) + (6))), (0, .ref b), (1, .ref x), (2, .ref mx), (3, .ref u), (4, .ref w)]) [0, 3, 4, 5, 6, 7] rfl ?_
        refine zs_lo (lo' := [(5, .int (nI (6 * (t + 1)))), (0, .ref b), (1, .ref x), (2, .ref mx), (3, .ref u), (4, .ref w)]) (by rw [show nI (6 * t) + (6) = nI (6 * (t + 1)) from nI_add (6 * t) 6]) ?_
        exact ih _ _ _ _ _ hI2
      · exact absurd h7 (by decide)
  · exact absurd rfl h9

set_option maxHeartbeats 4000000 in
set_option maxRecDepth 100000 in
theorem lw_doubts {D : va_G} {E : Nat → ClassId} {l : Launch} (hl : l.stackTraces = false) {p : Program} {e : Env} {s : State} {m : MethodId} {below : List Frame} {meth : Method} {c : Code} {b L : Nat} {xs : Nat → Int32} (hL : L ≤ 3072) (hX0 : va_X b L xs s s.heap) (hbl : b < s.heap.size) (hE : zs_E D E s.heap.size (fun q => s.heap.size ≤ q) s m #[Value.ref b] meth c p code 9 RL) (hN : zw_N s) {x mx u w : Nat} {ad μ : Nat → Nat} {Z : Nat} {t : Nat} (ht : 6 * t + 6 ≤ L) {S : sp_S} {κ sc : Nat → Nat} {ar : Nat → Nat → Int32} {K : Heap} (hI : lw_I D E s.heap.size x mx u w ad μ Z S κ sc ar K) (ih : ∀ (S : sp_S) (κ sc : Nat → Nat) (ar : Nat → Nat → Int32) (K : Heap), lw_I D E s.heap.size x mx u w ad μ Z S κ sc ar K → zs_W (fun q => s.heap.size ≤ q) p l e room_1 s m #[Value.ref b] below meth c 9 (lw_Z below #[Value.ref b] s) K (25 + 70 * (t + 1)) (53172 + 240 * (t + 1)) 28 [(5, .int (nI (6 * (t + 1)))), (0, .ref b), (1, .ref x), (2, .ref mx), (3, .ref u), (4, .ref w)] []) : zs_W (fun q => s.heap.size ≤ q) p l e room_1 s m #[Value.ref b] below meth c 9 (lw_Z below #[Value.ref b] s) K (25 + 70 * t) (53172 + 240 * t) 1110 [(5, .int (nI (6 * t))), (0, .ref b), (1, .ref x), (2, .ref mx), (3, .ref u), (4, .ref w)] [] := by
  have hI0 := hI
  obtain ⟨hw, hX, hO, hM, hμ, ⟨k1, k2, k3, k4, k5⟩, hB, ⟨z1, z2⟩, ⟨f0, ru0⟩, ⟨g0, rw0⟩⟩ := hI
  have hFB : ∀ q, cs_F κ q → s.heap.size ≤ q := fun q hq => by rcases Nat.lt_or_ge q s.heap.size with z | z; have := hB q z; have := hq.1; omega; exact z
  have hFM : ∀ q, md_F μ q → s.heap.size ≤ q := fun q hq => (hμ q hq).2.2.2.2
  have hxX : ∃ fs, zs_pt D x (.inr (6, fs)) K := by obtain ⟨a1, a2, a3, a4, a5, lp, lv, lh, lz, tg, ⟨t0, t1, t2, t3, t4, t5, hx, -⟩, -⟩ := hX; exact ⟨_, hx⟩
  obtain ⟨fs, hx⟩ := hxX
  refine zs_aload_n hE 2 dL_law_1110 rfl rfl ?_
  refine zs_aload_n hE 1 dL_law_1111 rfl rfl ?_
  refine zs_iload hE 0 dL_law_1112 rfl ?_
  refine zs_iconst (v := (nI 1)) hE dL_law_1114 (by decide) ?_
  refine zs_iaddN hE dL_law_1115 ?_
  refine zs_sld hE hX0 hbl (Nat.not_le.mpr hbl) (by omega) (by omega) dL_law_1116 ?_
  refine zs_aload_n hE 4 dL_law_1117 rfl rfl ?_
  have h4 : (o_doubts S (xs (6 * t + 1))).1 ≤ 4 := v4_doubts S (xs (6 * t + 1))
  refine zw_callW (av := [.ref x, .int (xs (6 * t + 1)), .ref u]) (st := []) hE hN (m_L_doubts D E s.heap.size l hl κ S x u (xs (6 * t + 1)) k1) sW_L_172 ⟨⟨hX, hw⟩, f0, ru0⟩ ⟨by decide, by decide⟩ ⟨by show _ + 1 ≤ 603072; omega, by show _ + 6 ≤ 7215210; omega⟩ (fun q h9 => by rcases h9 with h9 | h9; exact hFB q h9; rw [h9]; exact k4) (Nat.le_of_ble_eq_true rfl) dL_law_1118 (fun v H1 hv z1c kk1 => ?_)
  obtain ⟨rfl, -, ⟨κ1, hX1, hk1⟩, f, r1, hf0⟩ := hv
  refine zs_widen (k' := 25 + 70 * (t + 1)) (n' := 53172 + 240 * (t + 1)) (by show 25 + 70 * t + 1 ≤ _; omega) (by show 53172 + 240 * t + 6 ≤ _; omega) ?_
  have hO1 : md_O D E μ mx ad sc ar H1 := lw_m hI0 (fun q q1 q2 => kk1 q q1 (fun z => q2 (by rcases z with z | z; exact Or.inl z; exact Or.inr (Or.inl z))))
  refine zs_istore (lo' := [(6, .int (nI ((o_doubts S (xs (6 * t + 1))).1))), (5, .int (nI (6 * t))), (0, .ref b), (1, .ref x), (2, .ref mx), (3, .ref u), (4, .ref w)]) hE dL_law_1121 (by decide) rfl ?_
  refine zs_aload_n hE 4 dL_law_1123 rfl rfl ?_
  refine zs_aload_n hE 2 dL_law_1124 rfl rfl ?_
  refine zs_iload hE 1 dL_law_1125 rfl ?_
  refine zs_iconst (v := (nI 1)) hE dL_law_1127 (by decide) ?_
  refine zs_iaddN hE dL_law_1128 ?_
  refine zs_sld hE hX0 hbl (Nat.not_le.mpr hbl) (by omega) (by omega) dL_law_1129 ?_
  refine zs_callV (av := [.int (xs (6 * t + 1))]) (st := []) hE (m_X7_doubts D E s.heap.size l μ mx ad sc ar S (xs (6 * t + 1)) hM hw) sV_L_174 hO1.2.1 rfl rfl hO1 ⟨by decide, by decide⟩ ⟨by show _ + 0 ≤ 603072; omega, by show _ + 0 ≤ 7215210; omega⟩ hFM (Nat.le_of_ble_eq_true rfl) dL_law_1130 (fun v2 H2 hv2 z2c kk2 => ?_)
  obtain ⟨hz2, ⟨wv, rfl, hwo⟩, sc2, ar2, hO2, hM2, hth⟩ := hv2
  refine zs_widen (k' := 25 + 70 * (t + 1)) (n' := 53172 + 240 * (t + 1)) (by show _ + 0 ≤ _; omega) (by show _ + 0 ≤ _; omega) ?_
  have hI2 : lw_I D E s.heap.size x mx u w ad μ Z (o_doubts S (xs (6 * t + 1))).2.2 κ1 sc2 ar2 H2 := lw_n hI0 (wfo_doubts hw (xs (6 * t + 1))) z1c hX1 hk1 hz2 kk2 hO2 hM2 ⟨f, r1⟩ ⟨g0, rw0.kept (kk1 _ rw0.lt (fun z => by rcases z with z | z; have := z.2; omega; exact k3 z.symm))⟩
  have r2 := r1.kept (kk2 _ r1.lt (fun z => (hμ u z).2.2.1 rfl))
  refine zs_istore (lo' := [(7, .int wv), (6, .int (nI ((o_doubts S (xs (6 * t + 1))).1))), (5, .int (nI (6 * t))), (0, .ref b), (1, .ref x), (2, .ref mx), (3, .ref u), (4, .ref w)]) hE dL_law_1133 (by decide) rfl ?_
  refine zs_aload_n hE 5 dL_law_1135 rfl rfl ?_
  refine zs_callVR (av := []) (st := []) (b := mx) hE (m_X7_thrown D E s.heap.size l μ mx ad sc2 ar2) rfl rfl sV_L_126 hO2.2.1 rfl rfl hO2 ⟨by decide, by decide⟩ ⟨by show _ ≤ 603072; omega, by show _ ≤ 7215210; omega⟩ (Nat.le_of_ble_eq_true rfl) dL_law_1136 ?_
  refine zs_top (v' := .int (nI ((o_doubts S (xs (6 * t + 1))).1))) (by rw [hth]) ?_
  refine zs_iload hE 1 dL_law_1139 rfl ?_
  refine zs_icmp_eqN (tgt := 1146) hE (by omega) (by omega) dL_law_1141 (by decide) (fun h9 => ?_) (fun h9 => ?_)
  · refine zs_iload hE 1 dL_law_1146 rfl ?_
    refine zs_if_neN (tgt := 1163) hE (by omega) dL_law_1148 (by decide) (fun h5 => ?_) (fun h5 => ?_)
    · refine zs_goto (tgt := 2202) hE dL_law_1163 (by decide) ?_
      refine zs_iinc (v := ((nI (6 * t)) + (6))) (lo' := [(5, .int ((nI (6 * t)) + (6))), (7, .int wv), (6, .int (nI ((o_doubts S (xs (6 * t + 1))).1))), (0, .ref b), (1, .ref x), (2, .ref mx), (3, .ref u), (4, .ref w)]) hE 2 dL_law_2202 rfl (by first | rfl | decide) (by decide) rfl ?_
      refine zs_goto (tgt := 28) hE dL_law_2205 (by decide) ?_
      refine zs_sub (lo' := [(5, .int ((nI (6 * t)) + (6))), (0, .ref b), (1, .ref x), (2, .ref mx), (3, .ref u), (4, .ref w)]) [0, 3, 4, 5, 6, 7] rfl ?_
      refine zs_lo (lo' := [(5, .int (nI (6 * (t + 1)))), (0, .ref b), (1, .ref x), (2, .ref mx), (3, .ref u), (4, .ref w)]) (by rw [show nI (6 * t) + (6) = nI (6 * (t + 1)) from nI_add (6 * t) 6]) ?_
      exact ih _ _ _ _ _ hI2
    · refine zs_aload_n hE 6 dL_law_1151 rfl rfl ?_
      refine zs_iconst (v := (nI 0)) hE dL_law_1152 (by decide) ?_
      refine zs_lald hE r2 (by decide) (by decide) dL_law_1153 ?_
      refine zs_iload hE 0 dL_law_1154 rfl ?_
      refine zs_i2l hE dL_law_1156 ?_
      refine zs_lcmp hE dL_law_1157 ?_
      refine zs_top (v' := .int (nI 0)) (by rw [show f 0 = wv.toInt64 from (hf0 h5).symm.trans (by rw [← hwo h5]; rfl), lg_self]; rfl) ?_
      refine zs_if_eqN (tgt := 1163) hE (by decide) dL_law_1158 (by decide) (fun h7 => ?_) (fun h7 => ?_)
      · refine zs_goto (tgt := 2202) hE dL_law_1163 (by decide) ?_
        refine zs_iinc (v := ((nI (6 * t)) + (6))) (lo' := [(5, .int ((nI (6 * t)) + (6))), (7, .int wv), (6, .int (nI ((o_doubts S (xs (6 * t + 1))).1))), (0, .ref b), (1, .ref x), (2, .ref mx), (3, .ref u), (4, .ref w)]) hE 2 dL_law_2202 rfl (by first | rfl | decide) (by decide) rfl ?_
        refine zs_goto (tgt := 28) hE dL_law_2205 (by decide) ?_
        refine zs_sub (lo' := [(5, .int ((nI (6 * t)) + (6))), (0, .ref b), (1, .ref x), (2, .ref mx), (3, .ref u), (4, .ref w)]) [0, 3, 4, 5, 6, 7] rfl ?_
        refine zs_lo (lo' := [(5, .int (nI (6 * (t + 1)))), (0, .ref b), (1, .ref x), (2, .ref mx), (3, .ref u), (4, .ref w)]) (by rw [show nI (6 * t) + (6) = nI (6 * (t + 1)) from nI_add (6 * t) 6]) ?_
        exact ih _ _ _ _ _ hI2
      · exact absurd h7 (by decide)
  · exact absurd rfl h9

set_option maxHeartbeats 4000000 in
set_option maxRecDepth 100000 in
theorem lw_unlike {D : va_G} {E : Nat → ClassId} {l : Launch} (hl : l.stackTraces = false) {p : Program} {e : Env} {s : State} {m : MethodId} {below : List Frame} {meth : Method} {c : Code} {b L : Nat} {xs : Nat → Int32} (hL : L ≤ 3072) (hX0 : va_X b L xs s s.heap) (hbl : b < s.heap.size) (hE : zs_E D E s.heap.size (fun q => s.heap.size ≤ q) s m #[Value.ref b] meth c p code 9 RL) (hN : zw_N s) {x mx u w : Nat} {ad μ : Nat → Nat} {Z : Nat} {t : Nat} (ht : 6 * t + 6 ≤ L) {S : sp_S} {κ sc : Nat → Nat} {ar : Nat → Nat → Int32} {K : Heap} (hI : lw_I D E s.heap.size x mx u w ad μ Z S κ sc ar K) (ih : ∀ (S : sp_S) (κ sc : Nat → Nat) (ar : Nat → Nat → Int32) (K : Heap), lw_I D E s.heap.size x mx u w ad μ Z S κ sc ar K → zs_W (fun q => s.heap.size ≤ q) p l e room_1 s m #[Value.ref b] below meth c 9 (lw_Z below #[Value.ref b] s) K (25 + 70 * (t + 1)) (53172 + 240 * (t + 1)) 28 [(5, .int (nI (6 * (t + 1)))), (0, .ref b), (1, .ref x), (2, .ref mx), (3, .ref u), (4, .ref w)] []) : zs_W (fun q => s.heap.size ≤ q) p l e room_1 s m #[Value.ref b] below meth c 9 (lw_Z below #[Value.ref b] s) K (25 + 70 * t) (53172 + 240 * t) 1166 [(5, .int (nI (6 * t))), (0, .ref b), (1, .ref x), (2, .ref mx), (3, .ref u), (4, .ref w)] [] := by
  have hI0 := hI
  obtain ⟨hw, hX, hO, hM, hμ, ⟨k1, k2, k3, k4, k5⟩, hB, ⟨z1, z2⟩, ⟨f0, ru0⟩, ⟨g0, rw0⟩⟩ := hI
  have hFB : ∀ q, cs_F κ q → s.heap.size ≤ q := fun q hq => by rcases Nat.lt_or_ge q s.heap.size with z | z; have := hB q z; have := hq.1; omega; exact z
  have hFM : ∀ q, md_F μ q → s.heap.size ≤ q := fun q hq => (hμ q hq).2.2.2.2
  have hxX : ∃ fs, zs_pt D x (.inr (6, fs)) K := by obtain ⟨a1, a2, a3, a4, a5, lp, lv, lh, lz, tg, ⟨t0, t1, t2, t3, t4, t5, hx, -⟩, -⟩ := hX; exact ⟨_, hx⟩
  obtain ⟨fs, hx⟩ := hxX
  refine zs_aload_n hE 2 dL_law_1166 rfl rfl ?_
  refine zs_aload_n hE 1 dL_law_1167 rfl rfl ?_
  refine zs_iload hE 0 dL_law_1168 rfl ?_
  refine zs_iconst (v := (nI 1)) hE dL_law_1170 (by decide) ?_
  refine zs_iaddN hE dL_law_1171 ?_
  refine zs_sld hE hX0 hbl (Nat.not_le.mpr hbl) (by omega) (by omega) dL_law_1172 ?_
  refine zs_aload_n hE 1 dL_law_1173 rfl rfl ?_
  refine zs_iload hE 0 dL_law_1174 rfl ?_
  refine zs_iconst (v := (nI 2)) hE dL_law_1176 (by decide) ?_
  refine zs_iaddN hE dL_law_1177 ?_
  refine zs_sld hE hX0 hbl (Nat.not_le.mpr hbl) (by omega) (by omega) dL_law_1178 ?_
  refine zs_aload_n hE 4 dL_law_1179 rfl rfl ?_
  have h4 : (o_unlike S (xs (6 * t + 1)) (xs (6 * t + 2))).1 ≤ 4 := v4_unlike S (xs (6 * t + 1)) (xs (6 * t + 2))
  refine zw_callW (av := [.ref x, .int (xs (6 * t + 1)), .int (xs (6 * t + 2)), .ref u]) (st := []) hE hN (m_L_unlike D E s.heap.size l hl κ S x u (xs (6 * t + 1)) (xs (6 * t + 2)) k1) sW_L_175 ⟨⟨hX, hw⟩, f0, ru0⟩ ⟨by decide, by decide⟩ ⟨by show _ + 1 ≤ 603072; omega, by show _ + 6 ≤ 7215210; omega⟩ (fun q h9 => by rcases h9 with h9 | h9; exact hFB q h9; rw [h9]; exact k4) (Nat.le_of_ble_eq_true rfl) dL_law_1180 (fun v H1 hv z1c kk1 => ?_)
  obtain ⟨rfl, -, ⟨κ1, hX1, hk1⟩, f, r1, hf0⟩ := hv
  refine zs_widen (k' := 25 + 70 * (t + 1)) (n' := 53172 + 240 * (t + 1)) (by show 25 + 70 * t + 1 ≤ _; omega) (by show 53172 + 240 * t + 6 ≤ _; omega) ?_
  have hO1 : md_O D E μ mx ad sc ar H1 := lw_m hI0 (fun q q1 q2 => kk1 q q1 (fun z => q2 (by rcases z with z | z; exact Or.inl z; exact Or.inr (Or.inl z))))
  refine zs_istore (lo' := [(6, .int (nI ((o_unlike S (xs (6 * t + 1)) (xs (6 * t + 2))).1))), (5, .int (nI (6 * t))), (0, .ref b), (1, .ref x), (2, .ref mx), (3, .ref u), (4, .ref w)]) hE dL_law_1183 (by decide) rfl ?_
  refine zs_aload_n hE 4 dL_law_1185 rfl rfl ?_
  refine zs_aload_n hE 2 dL_law_1186 rfl rfl ?_
  refine zs_iload hE 1 dL_law_1187 rfl ?_
  refine zs_iconst (v := (nI 1)) hE dL_law_1189 (by decide) ?_
  refine zs_iaddN hE dL_law_1190 ?_
  refine zs_sld hE hX0 hbl (Nat.not_le.mpr hbl) (by omega) (by omega) dL_law_1191 ?_
  refine zs_aload_n hE 2 dL_law_1192 rfl rfl ?_
  refine zs_iload hE 1 dL_law_1193 rfl ?_
  refine zs_iconst (v := (nI 2)) hE dL_law_1195 (by decide) ?_
  refine zs_iaddN hE dL_law_1196 ?_
  refine zs_sld hE hX0 hbl (Nat.not_le.mpr hbl) (by omega) (by omega) dL_law_1197 ?_
  refine zs_callV (av := [.int (xs (6 * t + 1)), .int (xs (6 * t + 2))]) (st := []) hE (m_X7_unlike D E s.heap.size l μ mx ad sc ar S (xs (6 * t + 1)) (xs (6 * t + 2)) hM hw) sV_L_177 hO1.2.1 rfl rfl hO1 ⟨by decide, by decide⟩ ⟨by show _ + 0 ≤ 603072; omega, by show _ + 0 ≤ 7215210; omega⟩ hFM (Nat.le_of_ble_eq_true rfl) dL_law_1198 (fun v2 H2 hv2 z2c kk2 => ?_)
  obtain ⟨hz2, ⟨wv, rfl, hwo⟩, sc2, ar2, hO2, hM2, hth⟩ := hv2
  refine zs_widen (k' := 25 + 70 * (t + 1)) (n' := 53172 + 240 * (t + 1)) (by show _ + 0 ≤ _; omega) (by show _ + 0 ≤ _; omega) ?_
  have hI2 : lw_I D E s.heap.size x mx u w ad μ Z (o_unlike S (xs (6 * t + 1)) (xs (6 * t + 2))).2.2 κ1 sc2 ar2 H2 := lw_n hI0 (wfo_unlike hw (xs (6 * t + 1)) (xs (6 * t + 2))) z1c hX1 hk1 hz2 kk2 hO2 hM2 ⟨f, r1⟩ ⟨g0, rw0.kept (kk1 _ rw0.lt (fun z => by rcases z with z | z; have := z.2; omega; exact k3 z.symm))⟩
  have r2 := r1.kept (kk2 _ r1.lt (fun z => (hμ u z).2.2.1 rfl))
  refine zs_istore (lo' := [(7, .int wv), (6, .int (nI ((o_unlike S (xs (6 * t + 1)) (xs (6 * t + 2))).1))), (5, .int (nI (6 * t))), (0, .ref b), (1, .ref x), (2, .ref mx), (3, .ref u), (4, .ref w)]) hE dL_law_1201 (by decide) rfl ?_
  refine zs_aload_n hE 5 dL_law_1203 rfl rfl ?_
  refine zs_callVR (av := []) (st := []) (b := mx) hE (m_X7_thrown D E s.heap.size l μ mx ad sc2 ar2) rfl rfl sV_L_126 hO2.2.1 rfl rfl hO2 ⟨by decide, by decide⟩ ⟨by show _ ≤ 603072; omega, by show _ ≤ 7215210; omega⟩ (Nat.le_of_ble_eq_true rfl) dL_law_1204 ?_
  refine zs_top (v' := .int (nI ((o_unlike S (xs (6 * t + 1)) (xs (6 * t + 2))).1))) (by rw [hth]) ?_
  refine zs_iload hE 1 dL_law_1207 rfl ?_
  refine zs_icmp_eqN (tgt := 1214) hE (by omega) (by omega) dL_law_1209 (by decide) (fun h9 => ?_) (fun h9 => ?_)
  · refine zs_iload hE 1 dL_law_1214 rfl ?_
    refine zs_if_neN (tgt := 1231) hE (by omega) dL_law_1216 (by decide) (fun h5 => ?_) (fun h5 => ?_)
    · refine zs_goto (tgt := 2202) hE dL_law_1231 (by decide) ?_
      refine zs_iinc (v := ((nI (6 * t)) + (6))) (lo' := [(5, .int ((nI (6 * t)) + (6))), (7, .int wv), (6, .int (nI ((o_unlike S (xs (6 * t + 1)) (xs (6 * t + 2))).1))), (0, .ref b), (1, .ref x), (2, .ref mx), (3, .ref u), (4, .ref w)]) hE 2 dL_law_2202 rfl (by first | rfl | decide) (by decide) rfl ?_
      refine zs_goto (tgt := 28) hE dL_law_2205 (by decide) ?_
      refine zs_sub (lo' := [(5, .int ((nI (6 * t)) + (6))), (0, .ref b), (1, .ref x), (2, .ref mx), (3, .ref u), (4, .ref w)]) [0, 3, 4, 5, 6, 7] rfl ?_
      refine zs_lo (lo' := [(5, .int (nI (6 * (t + 1)))), (0, .ref b), (1, .ref x), (2, .ref mx), (3, .ref u), (4, .ref w)]) (by rw [show nI (6 * t) + (6) = nI (6 * (t + 1)) from nI_add (6 * t) 6]) ?_
      exact ih _ _ _ _ _ hI2
    · refine zs_aload_n hE 6 dL_law_1219 rfl rfl ?_
      refine zs_iconst (v := (nI 0)) hE dL_law_1220 (by decide) ?_
      refine zs_lald hE r2 (by decide) (by decide) dL_law_1221 ?_
      refine zs_iload hE 0 dL_law_1222 rfl ?_
      refine zs_i2l hE dL_law_1224 ?_
      refine zs_lcmp hE dL_law_1225 ?_
      refine zs_top (v' := .int (nI 0)) (by rw [show f 0 = wv.toInt64 from (hf0 h5).symm.trans (by rw [← hwo h5]; rfl), lg_self]; rfl) ?_
      refine zs_if_eqN (tgt := 1231) hE (by decide) dL_law_1226 (by decide) (fun h7 => ?_) (fun h7 => ?_)
      · refine zs_goto (tgt := 2202) hE dL_law_1231 (by decide) ?_
        refine zs_iinc (v := ((nI (6 * t)) + (6))) (lo' := [(5, .int ((nI (6 * t)) + (6))), (7, .int wv), (6, .int (nI ((o_unlike S (xs (6 * t + 1)) (xs (6 * t + 2))).1))), (0, .ref b), (1, .ref x), (2, .ref mx), (3, .ref u), (4, .ref w)]) hE 2 dL_law_2202 rfl (by first | rfl | decide) (by decide) rfl ?_
        refine zs_goto (tgt := 28) hE dL_law_2205 (by decide) ?_
        refine zs_sub (lo' := [(5, .int ((nI (6 * t)) + (6))), (0, .ref b), (1, .ref x), (2, .ref mx), (3, .ref u), (4, .ref w)]) [0, 3, 4, 5, 6, 7] rfl ?_
        refine zs_lo (lo' := [(5, .int (nI (6 * (t + 1)))), (0, .ref b), (1, .ref x), (2, .ref mx), (3, .ref u), (4, .ref w)]) (by rw [show nI (6 * t) + (6) = nI (6 * (t + 1)) from nI_add (6 * t) 6]) ?_
        exact ih _ _ _ _ _ hI2
      · exact absurd h7 (by decide)
  · exact absurd rfl h9

set_option maxHeartbeats 4000000 in
set_option maxRecDepth 100000 in
theorem lw_hear {D : va_G} {E : Nat → ClassId} {l : Launch} (hl : l.stackTraces = false) {p : Program} {e : Env} {s : State} {m : MethodId} {below : List Frame} {meth : Method} {c : Code} {b L : Nat} {xs : Nat → Int32} (hL : L ≤ 3072) (hX0 : va_X b L xs s s.heap) (hbl : b < s.heap.size) (hE : zs_E D E s.heap.size (fun q => s.heap.size ≤ q) s m #[Value.ref b] meth c p code 9 RL) (hN : zw_N s) {x mx u w : Nat} {ad μ : Nat → Nat} {Z : Nat} {t : Nat} (ht : 6 * t + 6 ≤ L) {S : sp_S} {κ sc : Nat → Nat} {ar : Nat → Nat → Int32} {K : Heap} (hI : lw_I D E s.heap.size x mx u w ad μ Z S κ sc ar K) (ih : ∀ (S : sp_S) (κ sc : Nat → Nat) (ar : Nat → Nat → Int32) (K : Heap), lw_I D E s.heap.size x mx u w ad μ Z S κ sc ar K → zs_W (fun q => s.heap.size ≤ q) p l e room_1 s m #[Value.ref b] below meth c 9 (lw_Z below #[Value.ref b] s) K (25 + 70 * (t + 1)) (53172 + 240 * (t + 1)) 28 [(5, .int (nI (6 * (t + 1)))), (0, .ref b), (1, .ref x), (2, .ref mx), (3, .ref u), (4, .ref w)] []) : zs_W (fun q => s.heap.size ≤ q) p l e room_1 s m #[Value.ref b] below meth c 9 (lw_Z below #[Value.ref b] s) K (25 + 70 * t) (53172 + 240 * t) 1234 [(5, .int (nI (6 * t))), (0, .ref b), (1, .ref x), (2, .ref mx), (3, .ref u), (4, .ref w)] [] := by
  have hI0 := hI
  obtain ⟨hw, hX, hO, hM, hμ, ⟨k1, k2, k3, k4, k5⟩, hB, ⟨z1, z2⟩, ⟨f0, ru0⟩, ⟨g0, rw0⟩⟩ := hI
  have hFB : ∀ q, cs_F κ q → s.heap.size ≤ q := fun q hq => by rcases Nat.lt_or_ge q s.heap.size with z | z; have := hB q z; have := hq.1; omega; exact z
  have hFM : ∀ q, md_F μ q → s.heap.size ≤ q := fun q hq => (hμ q hq).2.2.2.2
  have hxX : ∃ fs, zs_pt D x (.inr (6, fs)) K := by obtain ⟨a1, a2, a3, a4, a5, lp, lv, lh, lz, tg, ⟨t0, t1, t2, t3, t4, t5, hx, -⟩, -⟩ := hX; exact ⟨_, hx⟩
  obtain ⟨fs, hx⟩ := hxX
  refine zs_aload_n hE 2 dL_law_1234 rfl rfl ?_
  refine zs_aload_n hE 1 dL_law_1235 rfl rfl ?_
  refine zs_iload hE 0 dL_law_1236 rfl ?_
  refine zs_iconst (v := (nI 1)) hE dL_law_1238 (by decide) ?_
  refine zs_iaddN hE dL_law_1239 ?_
  refine zs_sld hE hX0 hbl (Nat.not_le.mpr hbl) (by omega) (by omega) dL_law_1240 ?_
  refine zs_aload_n hE 1 dL_law_1241 rfl rfl ?_
  refine zs_iload hE 0 dL_law_1242 rfl ?_
  refine zs_iconst (v := (nI 2)) hE dL_law_1244 (by decide) ?_
  refine zs_iaddN hE dL_law_1245 ?_
  refine zs_sld hE hX0 hbl (Nat.not_le.mpr hbl) (by omega) (by omega) dL_law_1246 ?_
  refine zs_aload_n hE 4 dL_law_1247 rfl rfl ?_
  have h4 : (o_hear S (xs (6 * t + 1)) (xs (6 * t + 2))).1 ≤ 4 := v4_hear S (xs (6 * t + 1)) (xs (6 * t + 2))
  refine zw_callW (av := [.ref x, .int (xs (6 * t + 1)), .int (xs (6 * t + 2)), .ref u]) (st := []) hE hN (m_L_hear D E s.heap.size l hl κ S x u (xs (6 * t + 1)) (xs (6 * t + 2)) k1) sW_L_178 ⟨⟨hX, hw⟩, f0, ru0⟩ ⟨by decide, by decide⟩ ⟨by show _ + 1 ≤ 603072; omega, by show _ + 6 ≤ 7215210; omega⟩ (fun q h9 => by rcases h9 with h9 | h9; exact hFB q h9; rw [h9]; exact k4) (Nat.le_of_ble_eq_true rfl) dL_law_1248 (fun v H1 hv z1c kk1 => ?_)
  obtain ⟨rfl, -, ⟨κ1, hX1, hk1⟩, f, r1, hf0⟩ := hv
  refine zs_widen (k' := 25 + 70 * (t + 1)) (n' := 53172 + 240 * (t + 1)) (by show 25 + 70 * t + 1 ≤ _; omega) (by show 53172 + 240 * t + 6 ≤ _; omega) ?_
  have hO1 : md_O D E μ mx ad sc ar H1 := lw_m hI0 (fun q q1 q2 => kk1 q q1 (fun z => q2 (by rcases z with z | z; exact Or.inl z; exact Or.inr (Or.inl z))))
  refine zs_istore (lo' := [(6, .int (nI ((o_hear S (xs (6 * t + 1)) (xs (6 * t + 2))).1))), (5, .int (nI (6 * t))), (0, .ref b), (1, .ref x), (2, .ref mx), (3, .ref u), (4, .ref w)]) hE dL_law_1251 (by decide) rfl ?_
  refine zs_aload_n hE 4 dL_law_1253 rfl rfl ?_
  refine zs_aload_n hE 2 dL_law_1254 rfl rfl ?_
  refine zs_iload hE 1 dL_law_1255 rfl ?_
  refine zs_iconst (v := (nI 1)) hE dL_law_1257 (by decide) ?_
  refine zs_iaddN hE dL_law_1258 ?_
  refine zs_sld hE hX0 hbl (Nat.not_le.mpr hbl) (by omega) (by omega) dL_law_1259 ?_
  refine zs_aload_n hE 2 dL_law_1260 rfl rfl ?_
  refine zs_iload hE 1 dL_law_1261 rfl ?_
  refine zs_iconst (v := (nI 2)) hE dL_law_1263 (by decide) ?_
  refine zs_iaddN hE dL_law_1264 ?_
  refine zs_sld hE hX0 hbl (Nat.not_le.mpr hbl) (by omega) (by omega) dL_law_1265 ?_
  refine zs_callV (av := [.int (xs (6 * t + 1)), .int (xs (6 * t + 2))]) (st := []) hE (m_X7_hear D E s.heap.size l μ mx ad sc ar S (xs (6 * t + 1)) (xs (6 * t + 2)) hM hw) sV_L_180 hO1.2.1 rfl rfl hO1 ⟨by decide, by decide⟩ ⟨by show _ + 0 ≤ 603072; omega, by show _ + 0 ≤ 7215210; omega⟩ hFM (Nat.le_of_ble_eq_true rfl) dL_law_1266 (fun v2 H2 hv2 z2c kk2 => ?_)
  obtain ⟨hz2, ⟨wv, rfl, hwo⟩, sc2, ar2, hO2, hM2, hth⟩ := hv2
  refine zs_widen (k' := 25 + 70 * (t + 1)) (n' := 53172 + 240 * (t + 1)) (by show _ + 0 ≤ _; omega) (by show _ + 0 ≤ _; omega) ?_
  have hI2 : lw_I D E s.heap.size x mx u w ad μ Z (o_hear S (xs (6 * t + 1)) (xs (6 * t + 2))).2.2 κ1 sc2 ar2 H2 := lw_n hI0 (wfo_hear hw (xs (6 * t + 1)) (xs (6 * t + 2))) z1c hX1 hk1 hz2 kk2 hO2 hM2 ⟨f, r1⟩ ⟨g0, rw0.kept (kk1 _ rw0.lt (fun z => by rcases z with z | z; have := z.2; omega; exact k3 z.symm))⟩
  have r2 := r1.kept (kk2 _ r1.lt (fun z => (hμ u z).2.2.1 rfl))
  refine zs_istore (lo' := [(7, .int wv), (6, .int (nI ((o_hear S (xs (6 * t + 1)) (xs (6 * t + 2))).1))), (5, .int (nI (6 * t))), (0, .ref b), (1, .ref x), (2, .ref mx), (3, .ref u), (4, .ref w)]) hE dL_law_1269 (by decide) rfl ?_
  refine zs_aload_n hE 5 dL_law_1271 rfl rfl ?_
  refine zs_callVR (av := []) (st := []) (b := mx) hE (m_X7_thrown D E s.heap.size l μ mx ad sc2 ar2) rfl rfl sV_L_126 hO2.2.1 rfl rfl hO2 ⟨by decide, by decide⟩ ⟨by show _ ≤ 603072; omega, by show _ ≤ 7215210; omega⟩ (Nat.le_of_ble_eq_true rfl) dL_law_1272 ?_
  refine zs_top (v' := .int (nI ((o_hear S (xs (6 * t + 1)) (xs (6 * t + 2))).1))) (by rw [hth]) ?_
  refine zs_iload hE 1 dL_law_1275 rfl ?_
  refine zs_icmp_eqN (tgt := 1282) hE (by omega) (by omega) dL_law_1277 (by decide) (fun h9 => ?_) (fun h9 => ?_)
  · refine zs_iload hE 1 dL_law_1282 rfl ?_
    refine zs_if_neN (tgt := 1299) hE (by omega) dL_law_1284 (by decide) (fun h5 => ?_) (fun h5 => ?_)
    · refine zs_goto (tgt := 2202) hE dL_law_1299 (by decide) ?_
      refine zs_iinc (v := ((nI (6 * t)) + (6))) (lo' := [(5, .int ((nI (6 * t)) + (6))), (7, .int wv), (6, .int (nI ((o_hear S (xs (6 * t + 1)) (xs (6 * t + 2))).1))), (0, .ref b), (1, .ref x), (2, .ref mx), (3, .ref u), (4, .ref w)]) hE 2 dL_law_2202 rfl (by first | rfl | decide) (by decide) rfl ?_
      refine zs_goto (tgt := 28) hE dL_law_2205 (by decide) ?_
      refine zs_sub (lo' := [(5, .int ((nI (6 * t)) + (6))), (0, .ref b), (1, .ref x), (2, .ref mx), (3, .ref u), (4, .ref w)]) [0, 3, 4, 5, 6, 7] rfl ?_
      refine zs_lo (lo' := [(5, .int (nI (6 * (t + 1)))), (0, .ref b), (1, .ref x), (2, .ref mx), (3, .ref u), (4, .ref w)]) (by rw [show nI (6 * t) + (6) = nI (6 * (t + 1)) from nI_add (6 * t) 6]) ?_
      exact ih _ _ _ _ _ hI2
    · refine zs_aload_n hE 6 dL_law_1287 rfl rfl ?_
      refine zs_iconst (v := (nI 0)) hE dL_law_1288 (by decide) ?_
      refine zs_lald hE r2 (by decide) (by decide) dL_law_1289 ?_
      refine zs_iload hE 0 dL_law_1290 rfl ?_
      refine zs_i2l hE dL_law_1292 ?_
      refine zs_lcmp hE dL_law_1293 ?_
      refine zs_top (v' := .int (nI 0)) (by rw [show f 0 = wv.toInt64 from (hf0 h5).symm.trans (by rw [← hwo h5]; rfl), lg_self]; rfl) ?_
      refine zs_if_eqN (tgt := 1299) hE (by decide) dL_law_1294 (by decide) (fun h7 => ?_) (fun h7 => ?_)
      · refine zs_goto (tgt := 2202) hE dL_law_1299 (by decide) ?_
        refine zs_iinc (v := ((nI (6 * t)) + (6))) (lo' := [(5, .int ((nI (6 * t)) + (6))), (7, .int wv), (6, .int (nI ((o_hear S (xs (6 * t + 1)) (xs (6 * t + 2))).1))), (0, .ref b), (1, .ref x), (2, .ref mx), (3, .ref u), (4, .ref w)]) hE 2 dL_law_2202 rfl (by first | rfl | decide) (by decide) rfl ?_
        refine zs_goto (tgt := 28) hE dL_law_2205 (by decide) ?_
        refine zs_sub (lo' := [(5, .int ((nI (6 * t)) + (6))), (0, .ref b), (1, .ref x), (2, .ref mx), (3, .ref u), (4, .ref w)]) [0, 3, 4, 5, 6, 7] rfl ?_
        refine zs_lo (lo' := [(5, .int (nI (6 * (t + 1)))), (0, .ref b), (1, .ref x), (2, .ref mx), (3, .ref u), (4, .ref w)]) (by rw [show nI (6 * t) + (6) = nI (6 * (t + 1)) from nI_add (6 * t) 6]) ?_
        exact ih _ _ _ _ _ hI2
      · exact absurd h7 (by decide)
  · exact absurd rfl h9

set_option maxHeartbeats 4000000 in
set_option maxRecDepth 100000 in
theorem lw_mark {D : va_G} {E : Nat → ClassId} {l : Launch} (hl : l.stackTraces = false) {p : Program} {e : Env} {s : State} {m : MethodId} {below : List Frame} {meth : Method} {c : Code} {b L : Nat} {xs : Nat → Int32} (hL : L ≤ 3072) (hX0 : va_X b L xs s s.heap) (hbl : b < s.heap.size) (hE : zs_E D E s.heap.size (fun q => s.heap.size ≤ q) s m #[Value.ref b] meth c p code 9 RL) (hN : zw_N s) {x mx u w : Nat} {ad μ : Nat → Nat} {Z : Nat} {t : Nat} (ht : 6 * t + 6 ≤ L) {S : sp_S} {κ sc : Nat → Nat} {ar : Nat → Nat → Int32} {K : Heap} (hI : lw_I D E s.heap.size x mx u w ad μ Z S κ sc ar K) (ih : ∀ (S : sp_S) (κ sc : Nat → Nat) (ar : Nat → Nat → Int32) (K : Heap), lw_I D E s.heap.size x mx u w ad μ Z S κ sc ar K → zs_W (fun q => s.heap.size ≤ q) p l e room_1 s m #[Value.ref b] below meth c 9 (lw_Z below #[Value.ref b] s) K (25 + 70 * (t + 1)) (53172 + 240 * (t + 1)) 28 [(5, .int (nI (6 * (t + 1)))), (0, .ref b), (1, .ref x), (2, .ref mx), (3, .ref u), (4, .ref w)] []) : zs_W (fun q => s.heap.size ≤ q) p l e room_1 s m #[Value.ref b] below meth c 9 (lw_Z below #[Value.ref b] s) K (25 + 70 * t) (53172 + 240 * t) 1302 [(5, .int (nI (6 * t))), (0, .ref b), (1, .ref x), (2, .ref mx), (3, .ref u), (4, .ref w)] [] := by
  have hI0 := hI
  obtain ⟨hw, hX, hO, hM, hμ, ⟨k1, k2, k3, k4, k5⟩, hB, ⟨z1, z2⟩, ⟨f0, ru0⟩, ⟨g0, rw0⟩⟩ := hI
  have hFB : ∀ q, cs_F κ q → s.heap.size ≤ q := fun q hq => by rcases Nat.lt_or_ge q s.heap.size with z | z; have := hB q z; have := hq.1; omega; exact z
  have hFM : ∀ q, md_F μ q → s.heap.size ≤ q := fun q hq => (hμ q hq).2.2.2.2
  have hxX : ∃ fs, zs_pt D x (.inr (6, fs)) K := by obtain ⟨a1, a2, a3, a4, a5, lp, lv, lh, lz, tg, ⟨t0, t1, t2, t3, t4, t5, hx, -⟩, -⟩ := hX; exact ⟨_, hx⟩
  obtain ⟨fs, hx⟩ := hxX
  refine zs_aload_n hE 2 dL_law_1302 rfl rfl ?_
  refine zs_aload_n hE 1 dL_law_1303 rfl rfl ?_
  refine zs_iload hE 0 dL_law_1304 rfl ?_
  refine zs_iconst (v := (nI 1)) hE dL_law_1306 (by decide) ?_
  refine zs_iaddN hE dL_law_1307 ?_
  refine zs_sld hE hX0 hbl (Nat.not_le.mpr hbl) (by omega) (by omega) dL_law_1308 ?_
  refine zs_aload_n hE 1 dL_law_1309 rfl rfl ?_
  refine zs_iload hE 0 dL_law_1310 rfl ?_
  refine zs_iconst (v := (nI 2)) hE dL_law_1312 (by decide) ?_
  refine zs_iaddN hE dL_law_1313 ?_
  refine zs_sld hE hX0 hbl (Nat.not_le.mpr hbl) (by omega) (by omega) dL_law_1314 ?_
  refine zs_aload_n hE 1 dL_law_1315 rfl rfl ?_
  refine zs_iload hE 0 dL_law_1316 rfl ?_
  refine zs_iconst (v := (nI 3)) hE dL_law_1318 (by decide) ?_
  refine zs_iaddN hE dL_law_1319 ?_
  refine zs_sld hE hX0 hbl (Nat.not_le.mpr hbl) (by omega) (by omega) dL_law_1320 ?_
  refine zs_aload_n hE 1 dL_law_1321 rfl rfl ?_
  refine zs_iload hE 0 dL_law_1322 rfl ?_
  refine zs_iconst (v := (nI 4)) hE dL_law_1324 (by decide) ?_
  refine zs_iaddN hE dL_law_1325 ?_
  refine zs_sld hE hX0 hbl (Nat.not_le.mpr hbl) (by omega) (by omega) dL_law_1326 ?_
  refine zs_aload_n hE 4 dL_law_1327 rfl rfl ?_
  have h4 : (o_mark S (xs (6 * t + 1)) (xs (6 * t + 2)) (xs (6 * t + 3)) (xs (6 * t + 4))).1 ≤ 4 := v4_mark S (xs (6 * t + 1)) (xs (6 * t + 2)) (xs (6 * t + 3)) (xs (6 * t + 4))
  refine zw_callW (av := [.ref x, .int (xs (6 * t + 1)), .int (xs (6 * t + 2)), .int (xs (6 * t + 3)), .int (xs (6 * t + 4)), .ref u]) (st := []) hE hN (m_L_mark D E s.heap.size l hl κ S x u (xs (6 * t + 1)) (xs (6 * t + 2)) (xs (6 * t + 3)) (xs (6 * t + 4)) k1) sW_L_181 ⟨⟨hX, hw⟩, f0, ru0⟩ ⟨by decide, by decide⟩ ⟨by show _ + 1 ≤ 603072; omega, by show _ + 6 ≤ 7215210; omega⟩ (fun q h9 => by rcases h9 with h9 | h9; exact hFB q h9; rw [h9]; exact k4) (Nat.le_of_ble_eq_true rfl) dL_law_1328 (fun v H1 hv z1c kk1 => ?_)
  obtain ⟨rfl, -, ⟨κ1, hX1, hk1⟩, f, r1, hf0⟩ := hv
  refine zs_widen (k' := 25 + 70 * (t + 1)) (n' := 53172 + 240 * (t + 1)) (by show 25 + 70 * t + 1 ≤ _; omega) (by show 53172 + 240 * t + 6 ≤ _; omega) ?_
  have hO1 : md_O D E μ mx ad sc ar H1 := lw_m hI0 (fun q q1 q2 => kk1 q q1 (fun z => q2 (by rcases z with z | z; exact Or.inl z; exact Or.inr (Or.inl z))))
  refine zs_istore (lo' := [(6, .int (nI ((o_mark S (xs (6 * t + 1)) (xs (6 * t + 2)) (xs (6 * t + 3)) (xs (6 * t + 4))).1))), (5, .int (nI (6 * t))), (0, .ref b), (1, .ref x), (2, .ref mx), (3, .ref u), (4, .ref w)]) hE dL_law_1331 (by decide) rfl ?_
  refine zs_aload_n hE 4 dL_law_1333 rfl rfl ?_
  refine zs_aload_n hE 2 dL_law_1334 rfl rfl ?_
  refine zs_iload hE 1 dL_law_1335 rfl ?_
  refine zs_iconst (v := (nI 1)) hE dL_law_1337 (by decide) ?_
  refine zs_iaddN hE dL_law_1338 ?_
  refine zs_sld hE hX0 hbl (Nat.not_le.mpr hbl) (by omega) (by omega) dL_law_1339 ?_
  refine zs_aload_n hE 2 dL_law_1340 rfl rfl ?_
  refine zs_iload hE 1 dL_law_1341 rfl ?_
  refine zs_iconst (v := (nI 2)) hE dL_law_1343 (by decide) ?_
  refine zs_iaddN hE dL_law_1344 ?_
  refine zs_sld hE hX0 hbl (Nat.not_le.mpr hbl) (by omega) (by omega) dL_law_1345 ?_
  refine zs_aload_n hE 2 dL_law_1346 rfl rfl ?_
  refine zs_iload hE 1 dL_law_1347 rfl ?_
  refine zs_iconst (v := (nI 3)) hE dL_law_1349 (by decide) ?_
  refine zs_iaddN hE dL_law_1350 ?_
  refine zs_sld hE hX0 hbl (Nat.not_le.mpr hbl) (by omega) (by omega) dL_law_1351 ?_
  refine zs_aload_n hE 2 dL_law_1352 rfl rfl ?_
  refine zs_iload hE 1 dL_law_1353 rfl ?_
  refine zs_iconst (v := (nI 4)) hE dL_law_1355 (by decide) ?_
  refine zs_iaddN hE dL_law_1356 ?_
  refine zs_sld hE hX0 hbl (Nat.not_le.mpr hbl) (by omega) (by omega) dL_law_1357 ?_
  refine zs_callV (av := [.int (xs (6 * t + 1)), .int (xs (6 * t + 2)), .int (xs (6 * t + 3)), .int (xs (6 * t + 4))]) (st := []) hE (m_X7_mark D E s.heap.size l μ mx ad sc ar S (xs (6 * t + 1)) (xs (6 * t + 2)) (xs (6 * t + 3)) (xs (6 * t + 4)) hM hw) sV_L_183 hO1.2.1 rfl rfl hO1 ⟨by decide, by decide⟩ ⟨by show _ + 0 ≤ 603072; omega, by show _ + 0 ≤ 7215210; omega⟩ hFM (Nat.le_of_ble_eq_true rfl) dL_law_1358 (fun v2 H2 hv2 z2c kk2 => ?_)
  obtain ⟨hz2, ⟨wv, rfl, hwo⟩, sc2, ar2, hO2, hM2, hth⟩ := hv2
  refine zs_widen (k' := 25 + 70 * (t + 1)) (n' := 53172 + 240 * (t + 1)) (by show _ + 0 ≤ _; omega) (by show _ + 0 ≤ _; omega) ?_
  have hI2 : lw_I D E s.heap.size x mx u w ad μ Z (o_mark S (xs (6 * t + 1)) (xs (6 * t + 2)) (xs (6 * t + 3)) (xs (6 * t + 4))).2.2 κ1 sc2 ar2 H2 := lw_n hI0 (wfo_mark hw (xs (6 * t + 1)) (xs (6 * t + 2)) (xs (6 * t + 3)) (xs (6 * t + 4))) z1c hX1 hk1 hz2 kk2 hO2 hM2 ⟨f, r1⟩ ⟨g0, rw0.kept (kk1 _ rw0.lt (fun z => by rcases z with z | z; have := z.2; omega; exact k3 z.symm))⟩
  have r2 := r1.kept (kk2 _ r1.lt (fun z => (hμ u z).2.2.1 rfl))
  refine zs_istore (lo' := [(7, .int wv), (6, .int (nI ((o_mark S (xs (6 * t + 1)) (xs (6 * t + 2)) (xs (6 * t + 3)) (xs (6 * t + 4))).1))), (5, .int (nI (6 * t))), (0, .ref b), (1, .ref x), (2, .ref mx), (3, .ref u), (4, .ref w)]) hE dL_law_1361 (by decide) rfl ?_
  refine zs_aload_n hE 5 dL_law_1363 rfl rfl ?_
  refine zs_callVR (av := []) (st := []) (b := mx) hE (m_X7_thrown D E s.heap.size l μ mx ad sc2 ar2) rfl rfl sV_L_126 hO2.2.1 rfl rfl hO2 ⟨by decide, by decide⟩ ⟨by show _ ≤ 603072; omega, by show _ ≤ 7215210; omega⟩ (Nat.le_of_ble_eq_true rfl) dL_law_1364 ?_
  refine zs_top (v' := .int (nI ((o_mark S (xs (6 * t + 1)) (xs (6 * t + 2)) (xs (6 * t + 3)) (xs (6 * t + 4))).1))) (by rw [hth]) ?_
  refine zs_iload hE 1 dL_law_1367 rfl ?_
  refine zs_icmp_eqN (tgt := 1374) hE (by omega) (by omega) dL_law_1369 (by decide) (fun h9 => ?_) (fun h9 => ?_)
  · refine zs_iload hE 1 dL_law_1374 rfl ?_
    refine zs_if_neN (tgt := 1391) hE (by omega) dL_law_1376 (by decide) (fun h5 => ?_) (fun h5 => ?_)
    · refine zs_goto (tgt := 2202) hE dL_law_1391 (by decide) ?_
      refine zs_iinc (v := ((nI (6 * t)) + (6))) (lo' := [(5, .int ((nI (6 * t)) + (6))), (7, .int wv), (6, .int (nI ((o_mark S (xs (6 * t + 1)) (xs (6 * t + 2)) (xs (6 * t + 3)) (xs (6 * t + 4))).1))), (0, .ref b), (1, .ref x), (2, .ref mx), (3, .ref u), (4, .ref w)]) hE 2 dL_law_2202 rfl (by first | rfl | decide) (by decide) rfl ?_
      refine zs_goto (tgt := 28) hE dL_law_2205 (by decide) ?_
      refine zs_sub (lo' := [(5, .int ((nI (6 * t)) + (6))), (0, .ref b), (1, .ref x), (2, .ref mx), (3, .ref u), (4, .ref w)]) [0, 3, 4, 5, 6, 7] rfl ?_
      refine zs_lo (lo' := [(5, .int (nI (6 * (t + 1)))), (0, .ref b), (1, .ref x), (2, .ref mx), (3, .ref u), (4, .ref w)]) (by rw [show nI (6 * t) + (6) = nI (6 * (t + 1)) from nI_add (6 * t) 6]) ?_
      exact ih _ _ _ _ _ hI2
    · refine zs_aload_n hE 6 dL_law_1379 rfl rfl ?_
      refine zs_iconst (v := (nI 0)) hE dL_law_1380 (by decide) ?_
      refine zs_lald hE r2 (by decide) (by decide) dL_law_1381 ?_
      refine zs_iload hE 0 dL_law_1382 rfl ?_
      refine zs_i2l hE dL_law_1384 ?_
      refine zs_lcmp hE dL_law_1385 ?_
      refine zs_top (v' := .int (nI 0)) (by rw [show f 0 = wv.toInt64 from (hf0 h5).symm.trans (by rw [← hwo h5]; rfl), lg_self]; rfl) ?_
      refine zs_if_eqN (tgt := 1391) hE (by decide) dL_law_1386 (by decide) (fun h7 => ?_) (fun h7 => ?_)
      · refine zs_goto (tgt := 2202) hE dL_law_1391 (by decide) ?_
        refine zs_iinc (v := ((nI (6 * t)) + (6))) (lo' := [(5, .int ((nI (6 * t)) + (6))), (7, .int wv), (6, .int (nI ((o_mark S (xs (6 * t + 1)) (xs (6 * t + 2)) (xs (6 * t + 3)) (xs (6 * t + 4))).1))), (0, .ref b), (1, .ref x), (2, .ref mx), (3, .ref u), (4, .ref w)]) hE 2 dL_law_2202 rfl (by first | rfl | decide) (by decide) rfl ?_
        refine zs_goto (tgt := 28) hE dL_law_2205 (by decide) ?_
        refine zs_sub (lo' := [(5, .int ((nI (6 * t)) + (6))), (0, .ref b), (1, .ref x), (2, .ref mx), (3, .ref u), (4, .ref w)]) [0, 3, 4, 5, 6, 7] rfl ?_
        refine zs_lo (lo' := [(5, .int (nI (6 * (t + 1)))), (0, .ref b), (1, .ref x), (2, .ref mx), (3, .ref u), (4, .ref w)]) (by rw [show nI (6 * t) + (6) = nI (6 * (t + 1)) from nI_add (6 * t) 6]) ?_
        exact ih _ _ _ _ _ hI2
      · exact absurd h7 (by decide)
  · exact absurd rfl h9

set_option maxHeartbeats 4000000 in
set_option maxRecDepth 100000 in
theorem lw_affirm {D : va_G} {E : Nat → ClassId} {l : Launch} (hl : l.stackTraces = false) {p : Program} {e : Env} {s : State} {m : MethodId} {below : List Frame} {meth : Method} {c : Code} {b L : Nat} {xs : Nat → Int32} (hL : L ≤ 3072) (hX0 : va_X b L xs s s.heap) (hbl : b < s.heap.size) (hE : zs_E D E s.heap.size (fun q => s.heap.size ≤ q) s m #[Value.ref b] meth c p code 9 RL) (hN : zw_N s) {x mx u w : Nat} {ad μ : Nat → Nat} {Z : Nat} {t : Nat} (ht : 6 * t + 6 ≤ L) {S : sp_S} {κ sc : Nat → Nat} {ar : Nat → Nat → Int32} {K : Heap} (hI : lw_I D E s.heap.size x mx u w ad μ Z S κ sc ar K) (ih : ∀ (S : sp_S) (κ sc : Nat → Nat) (ar : Nat → Nat → Int32) (K : Heap), lw_I D E s.heap.size x mx u w ad μ Z S κ sc ar K → zs_W (fun q => s.heap.size ≤ q) p l e room_1 s m #[Value.ref b] below meth c 9 (lw_Z below #[Value.ref b] s) K (25 + 70 * (t + 1)) (53172 + 240 * (t + 1)) 28 [(5, .int (nI (6 * (t + 1)))), (0, .ref b), (1, .ref x), (2, .ref mx), (3, .ref u), (4, .ref w)] []) : zs_W (fun q => s.heap.size ≤ q) p l e room_1 s m #[Value.ref b] below meth c 9 (lw_Z below #[Value.ref b] s) K (25 + 70 * t) (53172 + 240 * t) 1394 [(5, .int (nI (6 * t))), (0, .ref b), (1, .ref x), (2, .ref mx), (3, .ref u), (4, .ref w)] [] := by
  have hI0 := hI
  obtain ⟨hw, hX, hO, hM, hμ, ⟨k1, k2, k3, k4, k5⟩, hB, ⟨z1, z2⟩, ⟨f0, ru0⟩, ⟨g0, rw0⟩⟩ := hI
  have hFB : ∀ q, cs_F κ q → s.heap.size ≤ q := fun q hq => by rcases Nat.lt_or_ge q s.heap.size with z | z; have := hB q z; have := hq.1; omega; exact z
  have hFM : ∀ q, md_F μ q → s.heap.size ≤ q := fun q hq => (hμ q hq).2.2.2.2
  have hxX : ∃ fs, zs_pt D x (.inr (6, fs)) K := by obtain ⟨a1, a2, a3, a4, a5, lp, lv, lh, lz, tg, ⟨t0, t1, t2, t3, t4, t5, hx, -⟩, -⟩ := hX; exact ⟨_, hx⟩
  obtain ⟨fs, hx⟩ := hxX
  refine zs_aload_n hE 2 dL_law_1394 rfl rfl ?_
  refine zs_aload_n hE 1 dL_law_1395 rfl rfl ?_
  refine zs_iload hE 0 dL_law_1396 rfl ?_
  refine zs_iconst (v := (nI 1)) hE dL_law_1398 (by decide) ?_
  refine zs_iaddN hE dL_law_1399 ?_
  refine zs_sld hE hX0 hbl (Nat.not_le.mpr hbl) (by omega) (by omega) dL_law_1400 ?_
  refine zs_aload_n hE 1 dL_law_1401 rfl rfl ?_
  refine zs_iload hE 0 dL_law_1402 rfl ?_
  refine zs_iconst (v := (nI 2)) hE dL_law_1404 (by decide) ?_
  refine zs_iaddN hE dL_law_1405 ?_
  refine zs_sld hE hX0 hbl (Nat.not_le.mpr hbl) (by omega) (by omega) dL_law_1406 ?_
  refine zs_aload_n hE 1 dL_law_1407 rfl rfl ?_
  refine zs_iload hE 0 dL_law_1408 rfl ?_
  refine zs_iconst (v := (nI 3)) hE dL_law_1410 (by decide) ?_
  refine zs_iaddN hE dL_law_1411 ?_
  refine zs_sld hE hX0 hbl (Nat.not_le.mpr hbl) (by omega) (by omega) dL_law_1412 ?_
  refine zs_aload_n hE 4 dL_law_1413 rfl rfl ?_
  have h4 : (o_affirm S (xs (6 * t + 1)) (xs (6 * t + 2)) (xs (6 * t + 3))).1 ≤ 4 := v4_affirm S (xs (6 * t + 1)) (xs (6 * t + 2)) (xs (6 * t + 3))
  refine zw_callW (av := [.ref x, .int (xs (6 * t + 1)), .int (xs (6 * t + 2)), .int (xs (6 * t + 3)), .ref u]) (st := []) hE hN (m_L_affirm D E s.heap.size l hl κ S x u (xs (6 * t + 1)) (xs (6 * t + 2)) (xs (6 * t + 3)) k1) sW_L_184 ⟨⟨hX, hw⟩, f0, ru0⟩ ⟨by decide, by decide⟩ ⟨by show _ + 1 ≤ 603072; omega, by show _ + 6 ≤ 7215210; omega⟩ (fun q h9 => by rcases h9 with h9 | h9; exact hFB q h9; rw [h9]; exact k4) (Nat.le_of_ble_eq_true rfl) dL_law_1414 (fun v H1 hv z1c kk1 => ?_)
  obtain ⟨rfl, -, ⟨κ1, hX1, hk1⟩, f, r1, hf0⟩ := hv
  refine zs_widen (k' := 25 + 70 * (t + 1)) (n' := 53172 + 240 * (t + 1)) (by show 25 + 70 * t + 1 ≤ _; omega) (by show 53172 + 240 * t + 6 ≤ _; omega) ?_
  have hO1 : md_O D E μ mx ad sc ar H1 := lw_m hI0 (fun q q1 q2 => kk1 q q1 (fun z => q2 (by rcases z with z | z; exact Or.inl z; exact Or.inr (Or.inl z))))
  refine zs_istore (lo' := [(6, .int (nI ((o_affirm S (xs (6 * t + 1)) (xs (6 * t + 2)) (xs (6 * t + 3))).1))), (5, .int (nI (6 * t))), (0, .ref b), (1, .ref x), (2, .ref mx), (3, .ref u), (4, .ref w)]) hE dL_law_1417 (by decide) rfl ?_
  refine zs_aload_n hE 4 dL_law_1419 rfl rfl ?_
  refine zs_aload_n hE 2 dL_law_1420 rfl rfl ?_
  refine zs_iload hE 1 dL_law_1421 rfl ?_
  refine zs_iconst (v := (nI 1)) hE dL_law_1423 (by decide) ?_
  refine zs_iaddN hE dL_law_1424 ?_
  refine zs_sld hE hX0 hbl (Nat.not_le.mpr hbl) (by omega) (by omega) dL_law_1425 ?_
  refine zs_aload_n hE 2 dL_law_1426 rfl rfl ?_
  refine zs_iload hE 1 dL_law_1427 rfl ?_
  refine zs_iconst (v := (nI 2)) hE dL_law_1429 (by decide) ?_
  refine zs_iaddN hE dL_law_1430 ?_
  refine zs_sld hE hX0 hbl (Nat.not_le.mpr hbl) (by omega) (by omega) dL_law_1431 ?_
  refine zs_aload_n hE 2 dL_law_1432 rfl rfl ?_
  refine zs_iload hE 1 dL_law_1433 rfl ?_
  refine zs_iconst (v := (nI 3)) hE dL_law_1435 (by decide) ?_
  refine zs_iaddN hE dL_law_1436 ?_
  refine zs_sld hE hX0 hbl (Nat.not_le.mpr hbl) (by omega) (by omega) dL_law_1437 ?_
  refine zs_callV (av := [.int (xs (6 * t + 1)), .int (xs (6 * t + 2)), .int (xs (6 * t + 3))]) (st := []) hE (m_X7_affirm D E s.heap.size l μ mx ad sc ar S (xs (6 * t + 1)) (xs (6 * t + 2)) (xs (6 * t + 3)) hM hw) sV_L_186 hO1.2.1 rfl rfl hO1 ⟨by decide, by decide⟩ ⟨by show _ + 0 ≤ 603072; omega, by show _ + 0 ≤ 7215210; omega⟩ hFM (Nat.le_of_ble_eq_true rfl) dL_law_1438 (fun v2 H2 hv2 z2c kk2 => ?_)
  obtain ⟨hz2, ⟨wv, rfl, hwo⟩, sc2, ar2, hO2, hM2, hth⟩ := hv2
  refine zs_widen (k' := 25 + 70 * (t + 1)) (n' := 53172 + 240 * (t + 1)) (by show _ + 0 ≤ _; omega) (by show _ + 0 ≤ _; omega) ?_
  have hI2 : lw_I D E s.heap.size x mx u w ad μ Z (o_affirm S (xs (6 * t + 1)) (xs (6 * t + 2)) (xs (6 * t + 3))).2.2 κ1 sc2 ar2 H2 := lw_n hI0 (wfo_affirm hw (xs (6 * t + 1)) (xs (6 * t + 2)) (xs (6 * t + 3))) z1c hX1 hk1 hz2 kk2 hO2 hM2 ⟨f, r1⟩ ⟨g0, rw0.kept (kk1 _ rw0.lt (fun z => by rcases z with z | z; have := z.2; omega; exact k3 z.symm))⟩
  have r2 := r1.kept (kk2 _ r1.lt (fun z => (hμ u z).2.2.1 rfl))
  refine zs_istore (lo' := [(7, .int wv), (6, .int (nI ((o_affirm S (xs (6 * t + 1)) (xs (6 * t + 2)) (xs (6 * t + 3))).1))), (5, .int (nI (6 * t))), (0, .ref b), (1, .ref x), (2, .ref mx), (3, .ref u), (4, .ref w)]) hE dL_law_1441 (by decide) rfl ?_
  refine zs_aload_n hE 5 dL_law_1443 rfl rfl ?_
  refine zs_callVR (av := []) (st := []) (b := mx) hE (m_X7_thrown D E s.heap.size l μ mx ad sc2 ar2) rfl rfl sV_L_126 hO2.2.1 rfl rfl hO2 ⟨by decide, by decide⟩ ⟨by show _ ≤ 603072; omega, by show _ ≤ 7215210; omega⟩ (Nat.le_of_ble_eq_true rfl) dL_law_1444 ?_
  refine zs_top (v' := .int (nI ((o_affirm S (xs (6 * t + 1)) (xs (6 * t + 2)) (xs (6 * t + 3))).1))) (by rw [hth]) ?_
  refine zs_iload hE 1 dL_law_1447 rfl ?_
  refine zs_icmp_eqN (tgt := 1454) hE (by omega) (by omega) dL_law_1449 (by decide) (fun h9 => ?_) (fun h9 => ?_)
  · refine zs_iload hE 1 dL_law_1454 rfl ?_
    refine zs_if_neN (tgt := 1471) hE (by omega) dL_law_1456 (by decide) (fun h5 => ?_) (fun h5 => ?_)
    · refine zs_goto (tgt := 2202) hE dL_law_1471 (by decide) ?_
      refine zs_iinc (v := ((nI (6 * t)) + (6))) (lo' := [(5, .int ((nI (6 * t)) + (6))), (7, .int wv), (6, .int (nI ((o_affirm S (xs (6 * t + 1)) (xs (6 * t + 2)) (xs (6 * t + 3))).1))), (0, .ref b), (1, .ref x), (2, .ref mx), (3, .ref u), (4, .ref w)]) hE 2 dL_law_2202 rfl (by first | rfl | decide) (by decide) rfl ?_
      refine zs_goto (tgt := 28) hE dL_law_2205 (by decide) ?_
      refine zs_sub (lo' := [(5, .int ((nI (6 * t)) + (6))), (0, .ref b), (1, .ref x), (2, .ref mx), (3, .ref u), (4, .ref w)]) [0, 3, 4, 5, 6, 7] rfl ?_
      refine zs_lo (lo' := [(5, .int (nI (6 * (t + 1)))), (0, .ref b), (1, .ref x), (2, .ref mx), (3, .ref u), (4, .ref w)]) (by rw [show nI (6 * t) + (6) = nI (6 * (t + 1)) from nI_add (6 * t) 6]) ?_
      exact ih _ _ _ _ _ hI2
    · refine zs_aload_n hE 6 dL_law_1459 rfl rfl ?_
      refine zs_iconst (v := (nI 0)) hE dL_law_1460 (by decide) ?_
      refine zs_lald hE r2 (by decide) (by decide) dL_law_1461 ?_
      refine zs_iload hE 0 dL_law_1462 rfl ?_
      refine zs_i2l hE dL_law_1464 ?_
      refine zs_lcmp hE dL_law_1465 ?_
      refine zs_top (v' := .int (nI 0)) (by rw [show f 0 = wv.toInt64 from (hf0 h5).symm.trans (by rw [← hwo h5]; rfl), lg_self]; rfl) ?_
      refine zs_if_eqN (tgt := 1471) hE (by decide) dL_law_1466 (by decide) (fun h7 => ?_) (fun h7 => ?_)
      · refine zs_goto (tgt := 2202) hE dL_law_1471 (by decide) ?_
        refine zs_iinc (v := ((nI (6 * t)) + (6))) (lo' := [(5, .int ((nI (6 * t)) + (6))), (7, .int wv), (6, .int (nI ((o_affirm S (xs (6 * t + 1)) (xs (6 * t + 2)) (xs (6 * t + 3))).1))), (0, .ref b), (1, .ref x), (2, .ref mx), (3, .ref u), (4, .ref w)]) hE 2 dL_law_2202 rfl (by first | rfl | decide) (by decide) rfl ?_
        refine zs_goto (tgt := 28) hE dL_law_2205 (by decide) ?_
        refine zs_sub (lo' := [(5, .int ((nI (6 * t)) + (6))), (0, .ref b), (1, .ref x), (2, .ref mx), (3, .ref u), (4, .ref w)]) [0, 3, 4, 5, 6, 7] rfl ?_
        refine zs_lo (lo' := [(5, .int (nI (6 * (t + 1)))), (0, .ref b), (1, .ref x), (2, .ref mx), (3, .ref u), (4, .ref w)]) (by rw [show nI (6 * t) + (6) = nI (6 * (t + 1)) from nI_add (6 * t) 6]) ?_
        exact ih _ _ _ _ _ hI2
      · exact absurd h7 (by decide)
  · exact absurd rfl h9

set_option maxHeartbeats 4000000 in
set_option maxRecDepth 100000 in
theorem lw_asked {D : va_G} {E : Nat → ClassId} {l : Launch} (hl : l.stackTraces = false) {p : Program} {e : Env} {s : State} {m : MethodId} {below : List Frame} {meth : Method} {c : Code} {b L : Nat} {xs : Nat → Int32} (hL : L ≤ 3072) (hX0 : va_X b L xs s s.heap) (hbl : b < s.heap.size) (hE : zs_E D E s.heap.size (fun q => s.heap.size ≤ q) s m #[Value.ref b] meth c p code 9 RL) (hN : zw_N s) {x mx u w : Nat} {ad μ : Nat → Nat} {Z : Nat} {t : Nat} (ht : 6 * t + 6 ≤ L) {S : sp_S} {κ sc : Nat → Nat} {ar : Nat → Nat → Int32} {K : Heap} (hI : lw_I D E s.heap.size x mx u w ad μ Z S κ sc ar K) (ih : ∀ (S : sp_S) (κ sc : Nat → Nat) (ar : Nat → Nat → Int32) (K : Heap), lw_I D E s.heap.size x mx u w ad μ Z S κ sc ar K → zs_W (fun q => s.heap.size ≤ q) p l e room_1 s m #[Value.ref b] below meth c 9 (lw_Z below #[Value.ref b] s) K (25 + 70 * (t + 1)) (53172 + 240 * (t + 1)) 28 [(5, .int (nI (6 * (t + 1)))), (0, .ref b), (1, .ref x), (2, .ref mx), (3, .ref u), (4, .ref w)] []) : zs_W (fun q => s.heap.size ≤ q) p l e room_1 s m #[Value.ref b] below meth c 9 (lw_Z below #[Value.ref b] s) K (25 + 70 * t) (53172 + 240 * t) 1474 [(5, .int (nI (6 * t))), (0, .ref b), (1, .ref x), (2, .ref mx), (3, .ref u), (4, .ref w)] [] := by
  have hI0 := hI
  obtain ⟨hw, hX, hO, hM, hμ, ⟨k1, k2, k3, k4, k5⟩, hB, ⟨z1, z2⟩, ⟨f0, ru0⟩, ⟨g0, rw0⟩⟩ := hI
  have hFB : ∀ q, cs_F κ q → s.heap.size ≤ q := fun q hq => by rcases Nat.lt_or_ge q s.heap.size with z | z; have := hB q z; have := hq.1; omega; exact z
  have hFM : ∀ q, md_F μ q → s.heap.size ≤ q := fun q hq => (hμ q hq).2.2.2.2
  have hxX : ∃ fs, zs_pt D x (.inr (6, fs)) K := by obtain ⟨a1, a2, a3, a4, a5, lp, lv, lh, lz, tg, ⟨t0, t1, t2, t3, t4, t5, hx, -⟩, -⟩ := hX; exact ⟨_, hx⟩
  obtain ⟨fs, hx⟩ := hxX
  refine zs_aload_n hE 2 dL_law_1474 rfl rfl ?_
  refine zs_callV (av := []) (st := []) hE (m_X6_asked D E s.heap.size l κ S x) sV_L_187 hx rfl rfl ⟨hX, hw⟩ ⟨by decide, by decide⟩ ⟨by show _ + 0 ≤ 603072; omega, by show _ + 0 ≤ 7215210; omega⟩ hFB (Nat.le_of_ble_eq_true rfl) dL_law_1475 (fun v H1 hv z1c kk1 => ?_)
  obtain ⟨o0, rfl, -, κ1, hX1, hk1⟩ := hv
  have hO1 : md_O D E μ mx ad sc ar H1 := lw_m hI0 (fun q q1 q2 => kk1 q q1 (fun z => q2 (Or.inl z)))
  refine zs_widen (k' := 25 + 70 * (t + 1)) (n' := 53172 + 240 * (t + 1)) (by show 25 + 70 * t + 0 ≤ _; omega) (by show 53172 + 240 * t + 0 ≤ _; omega) ?_
  refine zs_aload_n hE 3 dL_law_1478 rfl rfl ?_
  refine zs_callV (av := []) (st := [.int (nI (sp_mt S) - nI (sp_mc S))]) hE (m_X7_asked D E s.heap.size l μ mx ad sc ar S hM hw) sV_L_190 hO1.2.1 rfl rfl hO1 ⟨by decide, by decide⟩ ⟨by show _ + 0 ≤ 603072; omega, by show _ + 0 ≤ 7215210; omega⟩ hFM (Nat.le_of_ble_eq_true rfl) dL_law_1479 (fun v2 H2 hv2 z2c kk2 => ?_)
  obtain ⟨hz2, ⟨wv, rfl, hwo⟩, sc2, ar2, hO2, hM2, hth⟩ := hv2
  refine zs_widen (k' := 25 + 70 * (t + 1)) (n' := 53172 + 240 * (t + 1)) (by show _ + 0 ≤ _; omega) (by show _ + 0 ≤ _; omega) ?_
  have hwv : wv = nI (sp_mt S) - nI (sp_mc S) := by have := hwo rfl; injection this
  have hI2 : lw_I D E s.heap.size x mx u w ad μ Z (o_asked S).2.2 κ1 sc2 ar2 H2 := lw_n hI0 (hw) z1c hX1 hk1 hz2 kk2 hO2 hM2 ⟨f0, ru0.kept (kk1 _ ru0.lt (fun z => by have := z.2; omega))⟩ ⟨g0, rw0.kept (kk1 _ rw0.lt (fun z => by have := z.2; omega))⟩
  refine zs_icmp_eq (tgt := 2202) hE dL_law_1482 (by decide) (fun h9 => ?_) (fun h9 => ?_)
  · refine zs_iinc (v := ((nI (6 * t)) + (6))) (lo' := [(5, .int ((nI (6 * t)) + (6))), (0, .ref b), (1, .ref x), (2, .ref mx), (3, .ref u), (4, .ref w)]) hE 0 dL_law_2202 rfl (by first | rfl | decide) (by decide) rfl ?_
    refine zs_goto (tgt := 28) hE dL_law_2205 (by decide) ?_
    refine zs_sub (lo' := [(5, .int ((nI (6 * t)) + (6))), (0, .ref b), (1, .ref x), (2, .ref mx), (3, .ref u), (4, .ref w)]) [0, 1, 2, 3, 4, 5] rfl ?_
    refine zs_lo (lo' := [(5, .int (nI (6 * (t + 1)))), (0, .ref b), (1, .ref x), (2, .ref mx), (3, .ref u), (4, .ref w)]) (by rw [show nI (6 * t) + (6) = nI (6 * (t + 1)) from nI_add (6 * t) 6]) ?_
    exact ih _ _ _ _ _ hI2
  · exact absurd hwv.symm h9

set_option maxHeartbeats 4000000 in
set_option maxRecDepth 100000 in
theorem lw_points {D : va_G} {E : Nat → ClassId} {l : Launch} (hl : l.stackTraces = false) {p : Program} {e : Env} {s : State} {m : MethodId} {below : List Frame} {meth : Method} {c : Code} {b L : Nat} {xs : Nat → Int32} (hL : L ≤ 3072) (hX0 : va_X b L xs s s.heap) (hbl : b < s.heap.size) (hE : zs_E D E s.heap.size (fun q => s.heap.size ≤ q) s m #[Value.ref b] meth c p code 9 RL) (hN : zw_N s) {x mx u w : Nat} {ad μ : Nat → Nat} {Z : Nat} {t : Nat} (ht : 6 * t + 6 ≤ L) {S : sp_S} {κ sc : Nat → Nat} {ar : Nat → Nat → Int32} {K : Heap} (hI : lw_I D E s.heap.size x mx u w ad μ Z S κ sc ar K) (ih : ∀ (S : sp_S) (κ sc : Nat → Nat) (ar : Nat → Nat → Int32) (K : Heap), lw_I D E s.heap.size x mx u w ad μ Z S κ sc ar K → zs_W (fun q => s.heap.size ≤ q) p l e room_1 s m #[Value.ref b] below meth c 9 (lw_Z below #[Value.ref b] s) K (25 + 70 * (t + 1)) (53172 + 240 * (t + 1)) 28 [(5, .int (nI (6 * (t + 1)))), (0, .ref b), (1, .ref x), (2, .ref mx), (3, .ref u), (4, .ref w)] []) : zs_W (fun q => s.heap.size ≤ q) p l e room_1 s m #[Value.ref b] below meth c 9 (lw_Z below #[Value.ref b] s) K (25 + 70 * t) (53172 + 240 * t) 1487 [(5, .int (nI (6 * t))), (0, .ref b), (1, .ref x), (2, .ref mx), (3, .ref u), (4, .ref w)] [] := by
  have hI0 := hI
  obtain ⟨hw, hX, hO, hM, hμ, ⟨k1, k2, k3, k4, k5⟩, hB, ⟨z1, z2⟩, ⟨f0, ru0⟩, ⟨g0, rw0⟩⟩ := hI
  have hFB : ∀ q, cs_F κ q → s.heap.size ≤ q := fun q hq => by rcases Nat.lt_or_ge q s.heap.size with z | z; have := hB q z; have := hq.1; omega; exact z
  have hFM : ∀ q, md_F μ q → s.heap.size ≤ q := fun q hq => (hμ q hq).2.2.2.2
  have hxX : ∃ fs, zs_pt D x (.inr (6, fs)) K := by obtain ⟨a1, a2, a3, a4, a5, lp, lv, lh, lz, tg, ⟨t0, t1, t2, t3, t4, t5, hx, -⟩, -⟩ := hX; exact ⟨_, hx⟩
  obtain ⟨fs, hx⟩ := hxX
  refine zs_aload_n hE 2 dL_law_1487 rfl rfl ?_
  refine zs_aload_n hE 1 dL_law_1488 rfl rfl ?_
  refine zs_iload hE 0 dL_law_1489 rfl ?_
  refine zs_iconst (v := (nI 1)) hE dL_law_1491 (by decide) ?_
  refine zs_iaddN hE dL_law_1492 ?_
  refine zs_sld hE hX0 hbl (Nat.not_le.mpr hbl) (by omega) (by omega) dL_law_1493 ?_
  refine zs_aload_n hE 1 dL_law_1494 rfl rfl ?_
  refine zs_iload hE 0 dL_law_1495 rfl ?_
  refine zs_iconst (v := (nI 2)) hE dL_law_1497 (by decide) ?_
  refine zs_iaddN hE dL_law_1498 ?_
  refine zs_sld hE hX0 hbl (Nat.not_le.mpr hbl) (by omega) (by omega) dL_law_1499 ?_
  refine zs_aload_n hE 4 dL_law_1500 rfl rfl ?_
  have h4 : (o_points S (xs (6 * t + 1)) (xs (6 * t + 2))).1 ≤ 4 := v4_points S (xs (6 * t + 1)) (xs (6 * t + 2))
  refine zw_callW (av := [.ref x, .int (xs (6 * t + 1)), .int (xs (6 * t + 2)), .ref u]) (st := []) hE hN (m_L_points D E s.heap.size l hl κ S x u (xs (6 * t + 1)) (xs (6 * t + 2)) k1) sW_L_191 ⟨⟨hX, hw⟩, f0, ru0⟩ ⟨by decide, by decide⟩ ⟨by show _ + 1 ≤ 603072; omega, by show _ + 6 ≤ 7215210; omega⟩ (fun q h9 => by rcases h9 with h9 | h9; exact hFB q h9; rw [h9]; exact k4) (Nat.le_of_ble_eq_true rfl) dL_law_1501 (fun v H1 hv z1c kk1 => ?_)
  obtain ⟨rfl, -, ⟨κ1, hX1, hk1⟩, f, r1, hf0⟩ := hv
  refine zs_widen (k' := 25 + 70 * (t + 1)) (n' := 53172 + 240 * (t + 1)) (by show 25 + 70 * t + 1 ≤ _; omega) (by show 53172 + 240 * t + 6 ≤ _; omega) ?_
  have hO1 : md_O D E μ mx ad sc ar H1 := lw_m hI0 (fun q q1 q2 => kk1 q q1 (fun z => q2 (by rcases z with z | z; exact Or.inl z; exact Or.inr (Or.inl z))))
  refine zs_istore (lo' := [(6, .int (nI ((o_points S (xs (6 * t + 1)) (xs (6 * t + 2))).1))), (5, .int (nI (6 * t))), (0, .ref b), (1, .ref x), (2, .ref mx), (3, .ref u), (4, .ref w)]) hE dL_law_1504 (by decide) rfl ?_
  refine zs_aload_n hE 4 dL_law_1506 rfl rfl ?_
  refine zs_aload_n hE 2 dL_law_1507 rfl rfl ?_
  refine zs_iload hE 1 dL_law_1508 rfl ?_
  refine zs_iconst (v := (nI 1)) hE dL_law_1510 (by decide) ?_
  refine zs_iaddN hE dL_law_1511 ?_
  refine zs_sld hE hX0 hbl (Nat.not_le.mpr hbl) (by omega) (by omega) dL_law_1512 ?_
  refine zs_aload_n hE 2 dL_law_1513 rfl rfl ?_
  refine zs_iload hE 1 dL_law_1514 rfl ?_
  refine zs_iconst (v := (nI 2)) hE dL_law_1516 (by decide) ?_
  refine zs_iaddN hE dL_law_1517 ?_
  refine zs_sld hE hX0 hbl (Nat.not_le.mpr hbl) (by omega) (by omega) dL_law_1518 ?_
  refine zs_callV (av := [.int (xs (6 * t + 1)), .int (xs (6 * t + 2))]) (st := []) hE (m_X7_points D E s.heap.size l μ mx ad sc ar S (xs (6 * t + 1)) (xs (6 * t + 2)) hM hw) sV_L_193 hO1.2.1 rfl rfl hO1 ⟨by decide, by decide⟩ ⟨by show _ + 0 ≤ 603072; omega, by show _ + 0 ≤ 7215210; omega⟩ hFM (Nat.le_of_ble_eq_true rfl) dL_law_1519 (fun v2 H2 hv2 z2c kk2 => ?_)
  obtain ⟨hz2, ⟨wv, rfl, hwo⟩, sc2, ar2, hO2, hM2, hth⟩ := hv2
  refine zs_widen (k' := 25 + 70 * (t + 1)) (n' := 53172 + 240 * (t + 1)) (by show _ + 0 ≤ _; omega) (by show _ + 0 ≤ _; omega) ?_
  have hI2 : lw_I D E s.heap.size x mx u w ad μ Z (o_points S (xs (6 * t + 1)) (xs (6 * t + 2))).2.2 κ1 sc2 ar2 H2 := lw_n hI0 (wfo_points hw (xs (6 * t + 1)) (xs (6 * t + 2))) z1c hX1 hk1 hz2 kk2 hO2 hM2 ⟨f, r1⟩ ⟨g0, rw0.kept (kk1 _ rw0.lt (fun z => by rcases z with z | z; have := z.2; omega; exact k3 z.symm))⟩
  have r2 := r1.kept (kk2 _ r1.lt (fun z => (hμ u z).2.2.1 rfl))
  refine zs_istore (lo' := [(7, .int wv), (6, .int (nI ((o_points S (xs (6 * t + 1)) (xs (6 * t + 2))).1))), (5, .int (nI (6 * t))), (0, .ref b), (1, .ref x), (2, .ref mx), (3, .ref u), (4, .ref w)]) hE dL_law_1522 (by decide) rfl ?_
  refine zs_aload_n hE 5 dL_law_1524 rfl rfl ?_
  refine zs_callVR (av := []) (st := []) (b := mx) hE (m_X7_thrown D E s.heap.size l μ mx ad sc2 ar2) rfl rfl sV_L_126 hO2.2.1 rfl rfl hO2 ⟨by decide, by decide⟩ ⟨by show _ ≤ 603072; omega, by show _ ≤ 7215210; omega⟩ (Nat.le_of_ble_eq_true rfl) dL_law_1525 ?_
  refine zs_top (v' := .int (nI ((o_points S (xs (6 * t + 1)) (xs (6 * t + 2))).1))) (by rw [hth]) ?_
  refine zs_iload hE 1 dL_law_1528 rfl ?_
  refine zs_icmp_eqN (tgt := 1535) hE (by omega) (by omega) dL_law_1530 (by decide) (fun h9 => ?_) (fun h9 => ?_)
  · refine zs_iload hE 1 dL_law_1535 rfl ?_
    refine zs_if_neN (tgt := 1552) hE (by omega) dL_law_1537 (by decide) (fun h5 => ?_) (fun h5 => ?_)
    · refine zs_goto (tgt := 2202) hE dL_law_1552 (by decide) ?_
      refine zs_iinc (v := ((nI (6 * t)) + (6))) (lo' := [(5, .int ((nI (6 * t)) + (6))), (7, .int wv), (6, .int (nI ((o_points S (xs (6 * t + 1)) (xs (6 * t + 2))).1))), (0, .ref b), (1, .ref x), (2, .ref mx), (3, .ref u), (4, .ref w)]) hE 2 dL_law_2202 rfl (by first | rfl | decide) (by decide) rfl ?_
      refine zs_goto (tgt := 28) hE dL_law_2205 (by decide) ?_
      refine zs_sub (lo' := [(5, .int ((nI (6 * t)) + (6))), (0, .ref b), (1, .ref x), (2, .ref mx), (3, .ref u), (4, .ref w)]) [0, 3, 4, 5, 6, 7] rfl ?_
      refine zs_lo (lo' := [(5, .int (nI (6 * (t + 1)))), (0, .ref b), (1, .ref x), (2, .ref mx), (3, .ref u), (4, .ref w)]) (by rw [show nI (6 * t) + (6) = nI (6 * (t + 1)) from nI_add (6 * t) 6]) ?_
      exact ih _ _ _ _ _ hI2
    · refine zs_aload_n hE 6 dL_law_1540 rfl rfl ?_
      refine zs_iconst (v := (nI 0)) hE dL_law_1541 (by decide) ?_
      refine zs_lald hE r2 (by decide) (by decide) dL_law_1542 ?_
      refine zs_iload hE 0 dL_law_1543 rfl ?_
      refine zs_i2l hE dL_law_1545 ?_
      refine zs_lcmp hE dL_law_1546 ?_
      refine zs_top (v' := .int (nI 0)) (by rw [show f 0 = wv.toInt64 from (hf0 h5).symm.trans (by rw [← hwo h5]; rfl), lg_self]; rfl) ?_
      refine zs_if_eqN (tgt := 1552) hE (by decide) dL_law_1547 (by decide) (fun h7 => ?_) (fun h7 => ?_)
      · refine zs_goto (tgt := 2202) hE dL_law_1552 (by decide) ?_
        refine zs_iinc (v := ((nI (6 * t)) + (6))) (lo' := [(5, .int ((nI (6 * t)) + (6))), (7, .int wv), (6, .int (nI ((o_points S (xs (6 * t + 1)) (xs (6 * t + 2))).1))), (0, .ref b), (1, .ref x), (2, .ref mx), (3, .ref u), (4, .ref w)]) hE 2 dL_law_2202 rfl (by first | rfl | decide) (by decide) rfl ?_
        refine zs_goto (tgt := 28) hE dL_law_2205 (by decide) ?_
        refine zs_sub (lo' := [(5, .int ((nI (6 * t)) + (6))), (0, .ref b), (1, .ref x), (2, .ref mx), (3, .ref u), (4, .ref w)]) [0, 3, 4, 5, 6, 7] rfl ?_
        refine zs_lo (lo' := [(5, .int (nI (6 * (t + 1)))), (0, .ref b), (1, .ref x), (2, .ref mx), (3, .ref u), (4, .ref w)]) (by rw [show nI (6 * t) + (6) = nI (6 * (t + 1)) from nI_add (6 * t) 6]) ?_
        exact ih _ _ _ _ _ hI2
      · exact absurd h7 (by decide)
  · exact absurd rfl h9

set_option maxHeartbeats 4000000 in
set_option maxRecDepth 100000 in
theorem lw_ranked {D : va_G} {E : Nat → ClassId} {l : Launch} (hl : l.stackTraces = false) {p : Program} {e : Env} {s : State} {m : MethodId} {below : List Frame} {meth : Method} {c : Code} {b L : Nat} {xs : Nat → Int32} (hL : L ≤ 3072) (hX0 : va_X b L xs s s.heap) (hbl : b < s.heap.size) (hE : zs_E D E s.heap.size (fun q => s.heap.size ≤ q) s m #[Value.ref b] meth c p code 9 RL) (hN : zw_N s) {x mx u w : Nat} {ad μ : Nat → Nat} {Z : Nat} {t : Nat} (ht : 6 * t + 6 ≤ L) {S : sp_S} {κ sc : Nat → Nat} {ar : Nat → Nat → Int32} {K : Heap} (hI : lw_I D E s.heap.size x mx u w ad μ Z S κ sc ar K) (ih : ∀ (S : sp_S) (κ sc : Nat → Nat) (ar : Nat → Nat → Int32) (K : Heap), lw_I D E s.heap.size x mx u w ad μ Z S κ sc ar K → zs_W (fun q => s.heap.size ≤ q) p l e room_1 s m #[Value.ref b] below meth c 9 (lw_Z below #[Value.ref b] s) K (25 + 70 * (t + 1)) (53172 + 240 * (t + 1)) 28 [(5, .int (nI (6 * (t + 1)))), (0, .ref b), (1, .ref x), (2, .ref mx), (3, .ref u), (4, .ref w)] []) : zs_W (fun q => s.heap.size ≤ q) p l e room_1 s m #[Value.ref b] below meth c 9 (lw_Z below #[Value.ref b] s) K (25 + 70 * t) (53172 + 240 * t) 1555 [(5, .int (nI (6 * t))), (0, .ref b), (1, .ref x), (2, .ref mx), (3, .ref u), (4, .ref w)] [] := by
  have hI0 := hI
  obtain ⟨hw, hX, hO, hM, hμ, ⟨k1, k2, k3, k4, k5⟩, hB, ⟨z1, z2⟩, ⟨f0, ru0⟩, ⟨g0, rw0⟩⟩ := hI
  have hFB : ∀ q, cs_F κ q → s.heap.size ≤ q := fun q hq => by rcases Nat.lt_or_ge q s.heap.size with z | z; have := hB q z; have := hq.1; omega; exact z
  have hFM : ∀ q, md_F μ q → s.heap.size ≤ q := fun q hq => (hμ q hq).2.2.2.2
  have hxX : ∃ fs, zs_pt D x (.inr (6, fs)) K := by obtain ⟨a1, a2, a3, a4, a5, lp, lv, lh, lz, tg, ⟨t0, t1, t2, t3, t4, t5, hx, -⟩, -⟩ := hX; exact ⟨_, hx⟩
  obtain ⟨fs, hx⟩ := hxX
  refine zs_aload_n hE 2 dL_law_1555 rfl rfl ?_
  refine zs_aload_n hE 1 dL_law_1556 rfl rfl ?_
  refine zs_iload hE 0 dL_law_1557 rfl ?_
  refine zs_iconst (v := (nI 1)) hE dL_law_1559 (by decide) ?_
  refine zs_iaddN hE dL_law_1560 ?_
  refine zs_sld hE hX0 hbl (Nat.not_le.mpr hbl) (by omega) (by omega) dL_law_1561 ?_
  refine zs_aload_n hE 4 dL_law_1562 rfl rfl ?_
  have h4 : (o_ranked S (xs (6 * t + 1))).1 ≤ 4 := v4_ranked S (xs (6 * t + 1))
  refine zw_callW (av := [.ref x, .int (xs (6 * t + 1)), .ref u]) (st := []) hE hN (m_L_ranked D E s.heap.size l hl κ S x u (xs (6 * t + 1)) k1) sW_L_194 ⟨⟨hX, hw⟩, f0, ru0⟩ ⟨by decide, by decide⟩ ⟨by show _ + 1 ≤ 603072; omega, by show _ + 6 ≤ 7215210; omega⟩ (fun q h9 => by rcases h9 with h9 | h9; exact hFB q h9; rw [h9]; exact k4) (Nat.le_of_ble_eq_true rfl) dL_law_1563 (fun v H1 hv z1c kk1 => ?_)
  obtain ⟨rfl, -, ⟨κ1, hX1, hk1⟩, f, r1, hf0⟩ := hv
  refine zs_widen (k' := 25 + 70 * (t + 1)) (n' := 53172 + 240 * (t + 1)) (by show 25 + 70 * t + 1 ≤ _; omega) (by show 53172 + 240 * t + 6 ≤ _; omega) ?_
  have hO1 : md_O D E μ mx ad sc ar H1 := lw_m hI0 (fun q q1 q2 => kk1 q q1 (fun z => q2 (by rcases z with z | z; exact Or.inl z; exact Or.inr (Or.inl z))))
  refine zs_istore (lo' := [(6, .int (nI ((o_ranked S (xs (6 * t + 1))).1))), (5, .int (nI (6 * t))), (0, .ref b), (1, .ref x), (2, .ref mx), (3, .ref u), (4, .ref w)]) hE dL_law_1566 (by decide) rfl ?_
  refine zs_aload_n hE 4 dL_law_1568 rfl rfl ?_
  refine zs_aload_n hE 2 dL_law_1569 rfl rfl ?_
  refine zs_iload hE 1 dL_law_1570 rfl ?_
  refine zs_iconst (v := (nI 1)) hE dL_law_1572 (by decide) ?_
  refine zs_iaddN hE dL_law_1573 ?_
  refine zs_sld hE hX0 hbl (Nat.not_le.mpr hbl) (by omega) (by omega) dL_law_1574 ?_
  refine zs_callV (av := [.int (xs (6 * t + 1))]) (st := []) hE (m_X7_ranked D E s.heap.size l μ mx ad sc ar S (xs (6 * t + 1)) hM hw) sV_L_196 hO1.2.1 rfl rfl hO1 ⟨by decide, by decide⟩ ⟨by show _ + 0 ≤ 603072; omega, by show _ + 0 ≤ 7215210; omega⟩ hFM (Nat.le_of_ble_eq_true rfl) dL_law_1575 (fun v2 H2 hv2 z2c kk2 => ?_)
  obtain ⟨hz2, ⟨wv, rfl, hwo⟩, sc2, ar2, hO2, hM2, hth⟩ := hv2
  refine zs_widen (k' := 25 + 70 * (t + 1)) (n' := 53172 + 240 * (t + 1)) (by show _ + 0 ≤ _; omega) (by show _ + 0 ≤ _; omega) ?_
  have hI2 : lw_I D E s.heap.size x mx u w ad μ Z (o_ranked S (xs (6 * t + 1))).2.2 κ1 sc2 ar2 H2 := lw_n hI0 (wfo_ranked hw (xs (6 * t + 1))) z1c hX1 hk1 hz2 kk2 hO2 hM2 ⟨f, r1⟩ ⟨g0, rw0.kept (kk1 _ rw0.lt (fun z => by rcases z with z | z; have := z.2; omega; exact k3 z.symm))⟩
  have r2 := r1.kept (kk2 _ r1.lt (fun z => (hμ u z).2.2.1 rfl))
  refine zs_istore (lo' := [(7, .int wv), (6, .int (nI ((o_ranked S (xs (6 * t + 1))).1))), (5, .int (nI (6 * t))), (0, .ref b), (1, .ref x), (2, .ref mx), (3, .ref u), (4, .ref w)]) hE dL_law_1578 (by decide) rfl ?_
  refine zs_aload_n hE 5 dL_law_1580 rfl rfl ?_
  refine zs_callVR (av := []) (st := []) (b := mx) hE (m_X7_thrown D E s.heap.size l μ mx ad sc2 ar2) rfl rfl sV_L_126 hO2.2.1 rfl rfl hO2 ⟨by decide, by decide⟩ ⟨by show _ ≤ 603072; omega, by show _ ≤ 7215210; omega⟩ (Nat.le_of_ble_eq_true rfl) dL_law_1581 ?_
  refine zs_top (v' := .int (nI ((o_ranked S (xs (6 * t + 1))).1))) (by rw [hth]) ?_
  refine zs_iload hE 1 dL_law_1584 rfl ?_
  refine zs_icmp_eqN (tgt := 1591) hE (by omega) (by omega) dL_law_1586 (by decide) (fun h9 => ?_) (fun h9 => ?_)
  · refine zs_iload hE 1 dL_law_1591 rfl ?_
    refine zs_if_neN (tgt := 1608) hE (by omega) dL_law_1593 (by decide) (fun h5 => ?_) (fun h5 => ?_)
    · refine zs_goto (tgt := 2202) hE dL_law_1608 (by decide) ?_
      refine zs_iinc (v := ((nI (6 * t)) + (6))) (lo' := [(5, .int ((nI (6 * t)) + (6))), (7, .int wv), (6, .int (nI ((o_ranked S (xs (6 * t + 1))).1))), (0, .ref b), (1, .ref x), (2, .ref mx), (3, .ref u), (4, .ref w)]) hE 2 dL_law_2202 rfl (by first | rfl | decide) (by decide) rfl ?_
      refine zs_goto (tgt := 28) hE dL_law_2205 (by decide) ?_
      refine zs_sub (lo' := [(5, .int ((nI (6 * t)) + (6))), (0, .ref b), (1, .ref x), (2, .ref mx), (3, .ref u), (4, .ref w)]) [0, 3, 4, 5, 6, 7] rfl ?_
      refine zs_lo (lo' := [(5, .int (nI (6 * (t + 1)))), (0, .ref b), (1, .ref x), (2, .ref mx), (3, .ref u), (4, .ref w)]) (by rw [show nI (6 * t) + (6) = nI (6 * (t + 1)) from nI_add (6 * t) 6]) ?_
      exact ih _ _ _ _ _ hI2
    · refine zs_aload_n hE 6 dL_law_1596 rfl rfl ?_
      refine zs_iconst (v := (nI 0)) hE dL_law_1597 (by decide) ?_
      refine zs_lald hE r2 (by decide) (by decide) dL_law_1598 ?_
      refine zs_iload hE 0 dL_law_1599 rfl ?_
      refine zs_i2l hE dL_law_1601 ?_
      refine zs_lcmp hE dL_law_1602 ?_
      refine zs_top (v' := .int (nI 0)) (by rw [show f 0 = wv.toInt64 from (hf0 h5).symm.trans (by rw [← hwo h5]; rfl), lg_self]; rfl) ?_
      refine zs_if_eqN (tgt := 1608) hE (by decide) dL_law_1603 (by decide) (fun h7 => ?_) (fun h7 => ?_)
      · refine zs_goto (tgt := 2202) hE dL_law_1608 (by decide) ?_
        refine zs_iinc (v := ((nI (6 * t)) + (6))) (lo' := [(5, .int ((nI (6 * t)) + (6))), (7, .int wv), (6, .int (nI ((o_ranked S (xs (6 * t + 1))).1))), (0, .ref b), (1, .ref x), (2, .ref mx), (3, .ref u), (4, .ref w)]) hE 2 dL_law_2202 rfl (by first | rfl | decide) (by decide) rfl ?_
        refine zs_goto (tgt := 28) hE dL_law_2205 (by decide) ?_
        refine zs_sub (lo' := [(5, .int ((nI (6 * t)) + (6))), (0, .ref b), (1, .ref x), (2, .ref mx), (3, .ref u), (4, .ref w)]) [0, 3, 4, 5, 6, 7] rfl ?_
        refine zs_lo (lo' := [(5, .int (nI (6 * (t + 1)))), (0, .ref b), (1, .ref x), (2, .ref mx), (3, .ref u), (4, .ref w)]) (by rw [show nI (6 * t) + (6) = nI (6 * (t + 1)) from nI_add (6 * t) 6]) ?_
        exact ih _ _ _ _ _ hI2
      · exact absurd h7 (by decide)
  · exact absurd rfl h9

set_option maxHeartbeats 4000000 in
set_option maxRecDepth 100000 in
theorem lw_isTied {D : va_G} {E : Nat → ClassId} {l : Launch} (hl : l.stackTraces = false) {p : Program} {e : Env} {s : State} {m : MethodId} {below : List Frame} {meth : Method} {c : Code} {b L : Nat} {xs : Nat → Int32} (hL : L ≤ 3072) (hX0 : va_X b L xs s s.heap) (hbl : b < s.heap.size) (hE : zs_E D E s.heap.size (fun q => s.heap.size ≤ q) s m #[Value.ref b] meth c p code 9 RL) (hN : zw_N s) {x mx u w : Nat} {ad μ : Nat → Nat} {Z : Nat} {t : Nat} (ht : 6 * t + 6 ≤ L) {S : sp_S} {κ sc : Nat → Nat} {ar : Nat → Nat → Int32} {K : Heap} (hI : lw_I D E s.heap.size x mx u w ad μ Z S κ sc ar K) (ih : ∀ (S : sp_S) (κ sc : Nat → Nat) (ar : Nat → Nat → Int32) (K : Heap), lw_I D E s.heap.size x mx u w ad μ Z S κ sc ar K → zs_W (fun q => s.heap.size ≤ q) p l e room_1 s m #[Value.ref b] below meth c 9 (lw_Z below #[Value.ref b] s) K (25 + 70 * (t + 1)) (53172 + 240 * (t + 1)) 28 [(5, .int (nI (6 * (t + 1)))), (0, .ref b), (1, .ref x), (2, .ref mx), (3, .ref u), (4, .ref w)] []) : zs_W (fun q => s.heap.size ≤ q) p l e room_1 s m #[Value.ref b] below meth c 9 (lw_Z below #[Value.ref b] s) K (25 + 70 * t) (53172 + 240 * t) 1611 [(5, .int (nI (6 * t))), (0, .ref b), (1, .ref x), (2, .ref mx), (3, .ref u), (4, .ref w)] [] := by
  have hI0 := hI
  obtain ⟨hw, hX, hO, hM, hμ, ⟨k1, k2, k3, k4, k5⟩, hB, ⟨z1, z2⟩, ⟨f0, ru0⟩, ⟨g0, rw0⟩⟩ := hI
  have hFB : ∀ q, cs_F κ q → s.heap.size ≤ q := fun q hq => by rcases Nat.lt_or_ge q s.heap.size with z | z; have := hB q z; have := hq.1; omega; exact z
  have hFM : ∀ q, md_F μ q → s.heap.size ≤ q := fun q hq => (hμ q hq).2.2.2.2
  have hxX : ∃ fs, zs_pt D x (.inr (6, fs)) K := by obtain ⟨a1, a2, a3, a4, a5, lp, lv, lh, lz, tg, ⟨t0, t1, t2, t3, t4, t5, hx, -⟩, -⟩ := hX; exact ⟨_, hx⟩
  obtain ⟨fs, hx⟩ := hxX
  refine zs_aload_n hE 2 dL_law_1611 rfl rfl ?_
  refine zs_aload_n hE 1 dL_law_1612 rfl rfl ?_
  refine zs_iload hE 0 dL_law_1613 rfl ?_
  refine zs_iconst (v := (nI 1)) hE dL_law_1615 (by decide) ?_
  refine zs_iaddN hE dL_law_1616 ?_
  refine zs_sld hE hX0 hbl (Nat.not_le.mpr hbl) (by omega) (by omega) dL_law_1617 ?_
  refine zs_aload_n hE 4 dL_law_1618 rfl rfl ?_
  have h4 : (o_isTied S (xs (6 * t + 1))).1 ≤ 4 := v4_isTied S (xs (6 * t + 1))
  refine zw_callW (av := [.ref x, .int (xs (6 * t + 1)), .ref u]) (st := []) hE hN (m_L_isTied D E s.heap.size l hl κ S x u (xs (6 * t + 1)) k1) sW_L_197 ⟨⟨hX, hw⟩, f0, ru0⟩ ⟨by decide, by decide⟩ ⟨by show _ + 1 ≤ 603072; omega, by show _ + 6 ≤ 7215210; omega⟩ (fun q h9 => by rcases h9 with h9 | h9; exact hFB q h9; rw [h9]; exact k4) (Nat.le_of_ble_eq_true rfl) dL_law_1619 (fun v H1 hv z1c kk1 => ?_)
  obtain ⟨rfl, -, ⟨κ1, hX1, hk1⟩, f, r1, hf0⟩ := hv
  refine zs_widen (k' := 25 + 70 * (t + 1)) (n' := 53172 + 240 * (t + 1)) (by show 25 + 70 * t + 1 ≤ _; omega) (by show 53172 + 240 * t + 6 ≤ _; omega) ?_
  have hO1 : md_O D E μ mx ad sc ar H1 := lw_m hI0 (fun q q1 q2 => kk1 q q1 (fun z => q2 (by rcases z with z | z; exact Or.inl z; exact Or.inr (Or.inl z))))
  refine zs_istore (lo' := [(6, .int (nI ((o_isTied S (xs (6 * t + 1))).1))), (5, .int (nI (6 * t))), (0, .ref b), (1, .ref x), (2, .ref mx), (3, .ref u), (4, .ref w)]) hE dL_law_1622 (by decide) rfl ?_
  refine zs_aload_n hE 4 dL_law_1624 rfl rfl ?_
  refine zs_aload_n hE 2 dL_law_1625 rfl rfl ?_
  refine zs_iload hE 1 dL_law_1626 rfl ?_
  refine zs_iconst (v := (nI 1)) hE dL_law_1628 (by decide) ?_
  refine zs_iaddN hE dL_law_1629 ?_
  refine zs_sld hE hX0 hbl (Nat.not_le.mpr hbl) (by omega) (by omega) dL_law_1630 ?_
  refine zs_callV (av := [.int (xs (6 * t + 1))]) (st := []) hE (m_X7_isTied D E s.heap.size l μ mx ad sc ar S (xs (6 * t + 1)) hM hw) sV_L_199 hO1.2.1 rfl rfl hO1 ⟨by decide, by decide⟩ ⟨by show _ + 0 ≤ 603072; omega, by show _ + 0 ≤ 7215210; omega⟩ hFM (Nat.le_of_ble_eq_true rfl) dL_law_1631 (fun v2 H2 hv2 z2c kk2 => ?_)
  obtain ⟨hz2, ⟨wv, rfl, hwo⟩, sc2, ar2, hO2, hM2, hth⟩ := hv2
  refine zs_widen (k' := 25 + 70 * (t + 1)) (n' := 53172 + 240 * (t + 1)) (by show _ + 0 ≤ _; omega) (by show _ + 0 ≤ _; omega) ?_
  have hI2 : lw_I D E s.heap.size x mx u w ad μ Z (o_isTied S (xs (6 * t + 1))).2.2 κ1 sc2 ar2 H2 := lw_n hI0 (wfo_isTied hw (xs (6 * t + 1))) z1c hX1 hk1 hz2 kk2 hO2 hM2 ⟨f, r1⟩ ⟨g0, rw0.kept (kk1 _ rw0.lt (fun z => by rcases z with z | z; have := z.2; omega; exact k3 z.symm))⟩
  have r2 := r1.kept (kk2 _ r1.lt (fun z => (hμ u z).2.2.1 rfl))
  refine zs_istore (lo' := [(7, .int wv), (6, .int (nI ((o_isTied S (xs (6 * t + 1))).1))), (5, .int (nI (6 * t))), (0, .ref b), (1, .ref x), (2, .ref mx), (3, .ref u), (4, .ref w)]) hE dL_law_1634 (by decide) rfl ?_
  refine zs_aload_n hE 5 dL_law_1636 rfl rfl ?_
  refine zs_callVR (av := []) (st := []) (b := mx) hE (m_X7_thrown D E s.heap.size l μ mx ad sc2 ar2) rfl rfl sV_L_126 hO2.2.1 rfl rfl hO2 ⟨by decide, by decide⟩ ⟨by show _ ≤ 603072; omega, by show _ ≤ 7215210; omega⟩ (Nat.le_of_ble_eq_true rfl) dL_law_1637 ?_
  refine zs_top (v' := .int (nI ((o_isTied S (xs (6 * t + 1))).1))) (by rw [hth]) ?_
  refine zs_iload hE 1 dL_law_1640 rfl ?_
  refine zs_icmp_eqN (tgt := 1647) hE (by omega) (by omega) dL_law_1642 (by decide) (fun h9 => ?_) (fun h9 => ?_)
  · refine zs_iload hE 1 dL_law_1647 rfl ?_
    refine zs_if_neN (tgt := 1671) hE (by omega) dL_law_1649 (by decide) (fun h5 => ?_) (fun h5 => ?_)
    · refine zs_goto (tgt := 2202) hE dL_law_1671 (by decide) ?_
      refine zs_iinc (v := ((nI (6 * t)) + (6))) (lo' := [(5, .int ((nI (6 * t)) + (6))), (7, .int wv), (6, .int (nI ((o_isTied S (xs (6 * t + 1))).1))), (0, .ref b), (1, .ref x), (2, .ref mx), (3, .ref u), (4, .ref w)]) hE 2 dL_law_2202 rfl (by first | rfl | decide) (by decide) rfl ?_
      refine zs_goto (tgt := 28) hE dL_law_2205 (by decide) ?_
      refine zs_sub (lo' := [(5, .int ((nI (6 * t)) + (6))), (0, .ref b), (1, .ref x), (2, .ref mx), (3, .ref u), (4, .ref w)]) [0, 3, 4, 5, 6, 7] rfl ?_
      refine zs_lo (lo' := [(5, .int (nI (6 * (t + 1)))), (0, .ref b), (1, .ref x), (2, .ref mx), (3, .ref u), (4, .ref w)]) (by rw [show nI (6 * t) + (6) = nI (6 * (t + 1)) from nI_add (6 * t) 6]) ?_
      exact ih _ _ _ _ _ hI2
    · obtain ⟨P9, hP9⟩ := vb_isTied S (xs (6 * t + 1)) h5
      have hwP : wv = zs_b P9 := by have := (hwo h5).trans hP9; injection this
      refine zs_lo (lo' := [(7, .int (zs_b P9)), (6, .int (nI ((o_isTied S (xs (6 * t + 1))).1))), (5, .int (nI (6 * t))), (0, .ref b), (1, .ref x), (2, .ref mx), (3, .ref u), (4, .ref w)]) (by rw [hwP]) ?_
      refine zs_aload_n hE 6 dL_law_1652 rfl rfl ?_
      refine zs_iconst (v := (nI 0)) hE dL_law_1653 (by decide) ?_
      refine zs_lald hE r2 (by decide) (by decide) dL_law_1654 ?_
      refine zs_iload hE 0 dL_law_1655 rfl ?_
      refine zs_if_eqB (tgt := 1664) hE dL_law_1657 (by decide) (fun h8 => ?_) (fun h8 => ?_)
      · refine zs_lconst (v := (0 : Int64)) hE dL_law_1664 (by decide) ?_
        refine zs_lcmp hE dL_law_1665 ?_
        refine zs_top (v' := .int (nI 0)) (by rw [← hf0 h5, hP9, zs_b0 h8]; rfl) ?_
        refine zs_if_eqN (tgt := 1671) hE (by decide) dL_law_1666 (by decide) (fun h7 => ?_) (fun h7 => ?_)
        · refine zs_goto (tgt := 2202) hE dL_law_1671 (by decide) ?_
          refine zs_iinc (v := ((nI (6 * t)) + (6))) (lo' := [(5, .int ((nI (6 * t)) + (6))), (7, .int (zs_b P9)), (6, .int (nI ((o_isTied S (xs (6 * t + 1))).1))), (0, .ref b), (1, .ref x), (2, .ref mx), (3, .ref u), (4, .ref w)]) hE 2 dL_law_2202 rfl (by first | rfl | decide) (by decide) rfl ?_
          refine zs_goto (tgt := 28) hE dL_law_2205 (by decide) ?_
          refine zs_sub (lo' := [(5, .int ((nI (6 * t)) + (6))), (0, .ref b), (1, .ref x), (2, .ref mx), (3, .ref u), (4, .ref w)]) [0, 3, 4, 5, 6, 7] rfl ?_
          refine zs_lo (lo' := [(5, .int (nI (6 * (t + 1)))), (0, .ref b), (1, .ref x), (2, .ref mx), (3, .ref u), (4, .ref w)]) (by rw [show nI (6 * t) + (6) = nI (6 * (t + 1)) from nI_add (6 * t) 6]) ?_
          exact ih _ _ _ _ _ hI2
        · exact absurd h7 (by decide)
      · refine zs_lconst (v := (1 : Int64)) hE dL_law_1660 (by decide) ?_
        refine zs_goto (tgt := 1665) hE dL_law_1661 (by decide) ?_
        refine zs_lcmp hE dL_law_1665 ?_
        refine zs_top (v' := .int (nI 0)) (by rw [← hf0 h5, hP9, zs_b1 h8]; rfl) ?_
        refine zs_if_eqN (tgt := 1671) hE (by decide) dL_law_1666 (by decide) (fun h7 => ?_) (fun h7 => ?_)
        · refine zs_goto (tgt := 2202) hE dL_law_1671 (by decide) ?_
          refine zs_iinc (v := ((nI (6 * t)) + (6))) (lo' := [(5, .int ((nI (6 * t)) + (6))), (7, .int (zs_b P9)), (6, .int (nI ((o_isTied S (xs (6 * t + 1))).1))), (0, .ref b), (1, .ref x), (2, .ref mx), (3, .ref u), (4, .ref w)]) hE 2 dL_law_2202 rfl (by first | rfl | decide) (by decide) rfl ?_
          refine zs_goto (tgt := 28) hE dL_law_2205 (by decide) ?_
          refine zs_sub (lo' := [(5, .int ((nI (6 * t)) + (6))), (0, .ref b), (1, .ref x), (2, .ref mx), (3, .ref u), (4, .ref w)]) [0, 3, 4, 5, 6, 7] rfl ?_
          refine zs_lo (lo' := [(5, .int (nI (6 * (t + 1)))), (0, .ref b), (1, .ref x), (2, .ref mx), (3, .ref u), (4, .ref w)]) (by rw [show nI (6 * t) + (6) = nI (6 * (t + 1)) from nI_add (6 * t) 6]) ?_
          exact ih _ _ _ _ _ hI2
        · exact absurd h7 (by decide)
  · exact absurd rfl h9

set_option maxHeartbeats 4000000 in
set_option maxRecDepth 100000 in
theorem lw_give {D : va_G} {E : Nat → ClassId} {l : Launch} (hl : l.stackTraces = false) {p : Program} {e : Env} {s : State} {m : MethodId} {below : List Frame} {meth : Method} {c : Code} {b L : Nat} {xs : Nat → Int32} (hL : L ≤ 3072) (hX0 : va_X b L xs s s.heap) (hbl : b < s.heap.size) (hE : zs_E D E s.heap.size (fun q => s.heap.size ≤ q) s m #[Value.ref b] meth c p code 9 RL) (hN : zw_N s) {x mx u w : Nat} {ad μ : Nat → Nat} {Z : Nat} {t : Nat} (ht : 6 * t + 6 ≤ L) {S : sp_S} {κ sc : Nat → Nat} {ar : Nat → Nat → Int32} {K : Heap} (hI : lw_I D E s.heap.size x mx u w ad μ Z S κ sc ar K) (ih : ∀ (S : sp_S) (κ sc : Nat → Nat) (ar : Nat → Nat → Int32) (K : Heap), lw_I D E s.heap.size x mx u w ad μ Z S κ sc ar K → zs_W (fun q => s.heap.size ≤ q) p l e room_1 s m #[Value.ref b] below meth c 9 (lw_Z below #[Value.ref b] s) K (25 + 70 * (t + 1)) (53172 + 240 * (t + 1)) 28 [(5, .int (nI (6 * (t + 1)))), (0, .ref b), (1, .ref x), (2, .ref mx), (3, .ref u), (4, .ref w)] []) : zs_W (fun q => s.heap.size ≤ q) p l e room_1 s m #[Value.ref b] below meth c 9 (lw_Z below #[Value.ref b] s) K (25 + 70 * t) (53172 + 240 * t) 1674 [(5, .int (nI (6 * t))), (0, .ref b), (1, .ref x), (2, .ref mx), (3, .ref u), (4, .ref w)] [] := by
  have hI0 := hI
  obtain ⟨hw, hX, hO, hM, hμ, ⟨k1, k2, k3, k4, k5⟩, hB, ⟨z1, z2⟩, ⟨f0, ru0⟩, ⟨g0, rw0⟩⟩ := hI
  have hFB : ∀ q, cs_F κ q → s.heap.size ≤ q := fun q hq => by rcases Nat.lt_or_ge q s.heap.size with z | z; have := hB q z; have := hq.1; omega; exact z
  have hFM : ∀ q, md_F μ q → s.heap.size ≤ q := fun q hq => (hμ q hq).2.2.2.2
  have hxX : ∃ fs, zs_pt D x (.inr (6, fs)) K := by obtain ⟨a1, a2, a3, a4, a5, lp, lv, lh, lz, tg, ⟨t0, t1, t2, t3, t4, t5, hx, -⟩, -⟩ := hX; exact ⟨_, hx⟩
  obtain ⟨fs, hx⟩ := hxX
  refine zs_aload_n hE 2 dL_law_1674 rfl rfl ?_
  refine zs_aload_n hE 1 dL_law_1675 rfl rfl ?_
  refine zs_iload hE 0 dL_law_1676 rfl ?_
  refine zs_iconst (v := (nI 1)) hE dL_law_1678 (by decide) ?_
  refine zs_iaddN hE dL_law_1679 ?_
  refine zs_sld hE hX0 hbl (Nat.not_le.mpr hbl) (by omega) (by omega) dL_law_1680 ?_
  refine zs_aload_n hE 1 dL_law_1681 rfl rfl ?_
  refine zs_iload hE 0 dL_law_1682 rfl ?_
  refine zs_iconst (v := (nI 2)) hE dL_law_1684 (by decide) ?_
  refine zs_iaddN hE dL_law_1685 ?_
  refine zs_sld hE hX0 hbl (Nat.not_le.mpr hbl) (by omega) (by omega) dL_law_1686 ?_
  refine zs_aload_n hE 4 dL_law_1687 rfl rfl ?_
  have h4 : (o_give S (xs (6 * t + 1)) (xs (6 * t + 2))).1 ≤ 4 := v4_give S (xs (6 * t + 1)) (xs (6 * t + 2))
  refine zw_callW (av := [.ref x, .int (xs (6 * t + 1)), .int (xs (6 * t + 2)), .ref u]) (st := []) hE hN (m_L_give D E s.heap.size l hl κ S x u (xs (6 * t + 1)) (xs (6 * t + 2)) k1) sW_L_200 ⟨⟨hX, hw⟩, f0, ru0⟩ ⟨by decide, by decide⟩ ⟨by show _ + 3 ≤ 603072; omega, by show _ + 24 ≤ 7215210; omega⟩ (fun q h9 => by rcases h9 with h9 | h9; exact hFB q h9; rw [h9]; exact k4) (Nat.le_of_ble_eq_true rfl) dL_law_1688 (fun v H1 hv z1c kk1 => ?_)
  obtain ⟨rfl, -, ⟨κ1, hX1, hk1⟩, f, r1, hf0⟩ := hv
  refine zs_widen (k' := 25 + 70 * (t + 1)) (n' := 53172 + 240 * (t + 1)) (by show 25 + 70 * t + 3 ≤ _; omega) (by show 53172 + 240 * t + 24 ≤ _; omega) ?_
  have hO1 : md_O D E μ mx ad sc ar H1 := lw_m hI0 (fun q q1 q2 => kk1 q q1 (fun z => q2 (by rcases z with z | z; exact Or.inl z; exact Or.inr (Or.inl z))))
  refine zs_istore (lo' := [(6, .int (nI ((o_give S (xs (6 * t + 1)) (xs (6 * t + 2))).1))), (5, .int (nI (6 * t))), (0, .ref b), (1, .ref x), (2, .ref mx), (3, .ref u), (4, .ref w)]) hE dL_law_1691 (by decide) rfl ?_
  refine zs_aload_n hE 4 dL_law_1693 rfl rfl ?_
  refine zs_aload_n hE 2 dL_law_1694 rfl rfl ?_
  refine zs_iload hE 1 dL_law_1695 rfl ?_
  refine zs_iconst (v := (nI 1)) hE dL_law_1697 (by decide) ?_
  refine zs_iaddN hE dL_law_1698 ?_
  refine zs_sld hE hX0 hbl (Nat.not_le.mpr hbl) (by omega) (by omega) dL_law_1699 ?_
  refine zs_aload_n hE 2 dL_law_1700 rfl rfl ?_
  refine zs_iload hE 1 dL_law_1701 rfl ?_
  refine zs_iconst (v := (nI 2)) hE dL_law_1703 (by decide) ?_
  refine zs_iaddN hE dL_law_1704 ?_
  refine zs_sld hE hX0 hbl (Nat.not_le.mpr hbl) (by omega) (by omega) dL_law_1705 ?_
  refine zs_callV (av := [.int (xs (6 * t + 1)), .int (xs (6 * t + 2))]) (st := []) hE (m_X7_give D E s.heap.size l μ mx ad sc ar S (xs (6 * t + 1)) (xs (6 * t + 2)) hM hw) sV_L_202 hO1.2.1 rfl rfl hO1 ⟨by decide, by decide⟩ ⟨by show _ + 0 ≤ 603072; omega, by show _ + 0 ≤ 7215210; omega⟩ hFM (Nat.le_of_ble_eq_true rfl) dL_law_1706 (fun v2 H2 hv2 z2c kk2 => ?_)
  obtain ⟨hz2, ⟨wv, rfl, hwo⟩, sc2, ar2, hO2, hM2, hth⟩ := hv2
  refine zs_widen (k' := 25 + 70 * (t + 1)) (n' := 53172 + 240 * (t + 1)) (by show _ + 0 ≤ _; omega) (by show _ + 0 ≤ _; omega) ?_
  have hI2 : lw_I D E s.heap.size x mx u w ad μ Z (o_give S (xs (6 * t + 1)) (xs (6 * t + 2))).2.2 κ1 sc2 ar2 H2 := lw_n hI0 (wfo_give hw (xs (6 * t + 1)) (xs (6 * t + 2))) z1c hX1 hk1 hz2 kk2 hO2 hM2 ⟨f, r1⟩ ⟨g0, rw0.kept (kk1 _ rw0.lt (fun z => by rcases z with z | z; have := z.2; omega; exact k3 z.symm))⟩
  have r2 := r1.kept (kk2 _ r1.lt (fun z => (hμ u z).2.2.1 rfl))
  refine zs_istore (lo' := [(7, .int wv), (6, .int (nI ((o_give S (xs (6 * t + 1)) (xs (6 * t + 2))).1))), (5, .int (nI (6 * t))), (0, .ref b), (1, .ref x), (2, .ref mx), (3, .ref u), (4, .ref w)]) hE dL_law_1709 (by decide) rfl ?_
  refine zs_aload_n hE 5 dL_law_1711 rfl rfl ?_
  refine zs_callVR (av := []) (st := []) (b := mx) hE (m_X7_thrown D E s.heap.size l μ mx ad sc2 ar2) rfl rfl sV_L_126 hO2.2.1 rfl rfl hO2 ⟨by decide, by decide⟩ ⟨by show _ ≤ 603072; omega, by show _ ≤ 7215210; omega⟩ (Nat.le_of_ble_eq_true rfl) dL_law_1712 ?_
  refine zs_top (v' := .int (nI ((o_give S (xs (6 * t + 1)) (xs (6 * t + 2))).1))) (by rw [hth]) ?_
  refine zs_iload hE 1 dL_law_1715 rfl ?_
  refine zs_icmp_eqN (tgt := 1722) hE (by omega) (by omega) dL_law_1717 (by decide) (fun h9 => ?_) (fun h9 => ?_)
  · refine zs_iload hE 1 dL_law_1722 rfl ?_
    refine zs_if_neN (tgt := 1739) hE (by omega) dL_law_1724 (by decide) (fun h5 => ?_) (fun h5 => ?_)
    · refine zs_goto (tgt := 2202) hE dL_law_1739 (by decide) ?_
      refine zs_iinc (v := ((nI (6 * t)) + (6))) (lo' := [(5, .int ((nI (6 * t)) + (6))), (7, .int wv), (6, .int (nI ((o_give S (xs (6 * t + 1)) (xs (6 * t + 2))).1))), (0, .ref b), (1, .ref x), (2, .ref mx), (3, .ref u), (4, .ref w)]) hE 2 dL_law_2202 rfl (by first | rfl | decide) (by decide) rfl ?_
      refine zs_goto (tgt := 28) hE dL_law_2205 (by decide) ?_
      refine zs_sub (lo' := [(5, .int ((nI (6 * t)) + (6))), (0, .ref b), (1, .ref x), (2, .ref mx), (3, .ref u), (4, .ref w)]) [0, 3, 4, 5, 6, 7] rfl ?_
      refine zs_lo (lo' := [(5, .int (nI (6 * (t + 1)))), (0, .ref b), (1, .ref x), (2, .ref mx), (3, .ref u), (4, .ref w)]) (by rw [show nI (6 * t) + (6) = nI (6 * (t + 1)) from nI_add (6 * t) 6]) ?_
      exact ih _ _ _ _ _ hI2
    · refine zs_aload_n hE 6 dL_law_1727 rfl rfl ?_
      refine zs_iconst (v := (nI 0)) hE dL_law_1728 (by decide) ?_
      refine zs_lald hE r2 (by decide) (by decide) dL_law_1729 ?_
      refine zs_iload hE 0 dL_law_1730 rfl ?_
      refine zs_i2l hE dL_law_1732 ?_
      refine zs_lcmp hE dL_law_1733 ?_
      refine zs_top (v' := .int (nI 0)) (by rw [show f 0 = wv.toInt64 from (hf0 h5).symm.trans (by rw [← hwo h5]; rfl), lg_self]; rfl) ?_
      refine zs_if_eqN (tgt := 1739) hE (by decide) dL_law_1734 (by decide) (fun h7 => ?_) (fun h7 => ?_)
      · refine zs_goto (tgt := 2202) hE dL_law_1739 (by decide) ?_
        refine zs_iinc (v := ((nI (6 * t)) + (6))) (lo' := [(5, .int ((nI (6 * t)) + (6))), (7, .int wv), (6, .int (nI ((o_give S (xs (6 * t + 1)) (xs (6 * t + 2))).1))), (0, .ref b), (1, .ref x), (2, .ref mx), (3, .ref u), (4, .ref w)]) hE 2 dL_law_2202 rfl (by first | rfl | decide) (by decide) rfl ?_
        refine zs_goto (tgt := 28) hE dL_law_2205 (by decide) ?_
        refine zs_sub (lo' := [(5, .int ((nI (6 * t)) + (6))), (0, .ref b), (1, .ref x), (2, .ref mx), (3, .ref u), (4, .ref w)]) [0, 3, 4, 5, 6, 7] rfl ?_
        refine zs_lo (lo' := [(5, .int (nI (6 * (t + 1)))), (0, .ref b), (1, .ref x), (2, .ref mx), (3, .ref u), (4, .ref w)]) (by rw [show nI (6 * t) + (6) = nI (6 * (t + 1)) from nI_add (6 * t) 6]) ?_
        exact ih _ _ _ _ _ hI2
      · exact absurd h7 (by decide)
  · exact absurd rfl h9

set_option maxHeartbeats 4000000 in
set_option maxRecDepth 100000 in
theorem lw_named {D : va_G} {E : Nat → ClassId} {l : Launch} (hl : l.stackTraces = false) {p : Program} {e : Env} {s : State} {m : MethodId} {below : List Frame} {meth : Method} {c : Code} {b L : Nat} {xs : Nat → Int32} (hL : L ≤ 3072) (hX0 : va_X b L xs s s.heap) (hbl : b < s.heap.size) (hE : zs_E D E s.heap.size (fun q => s.heap.size ≤ q) s m #[Value.ref b] meth c p code 9 RL) (hN : zw_N s) {x mx u w : Nat} {ad μ : Nat → Nat} {Z : Nat} {t : Nat} (ht : 6 * t + 6 ≤ L) {S : sp_S} {κ sc : Nat → Nat} {ar : Nat → Nat → Int32} {K : Heap} (hI : lw_I D E s.heap.size x mx u w ad μ Z S κ sc ar K) (ih : ∀ (S : sp_S) (κ sc : Nat → Nat) (ar : Nat → Nat → Int32) (K : Heap), lw_I D E s.heap.size x mx u w ad μ Z S κ sc ar K → zs_W (fun q => s.heap.size ≤ q) p l e room_1 s m #[Value.ref b] below meth c 9 (lw_Z below #[Value.ref b] s) K (25 + 70 * (t + 1)) (53172 + 240 * (t + 1)) 28 [(5, .int (nI (6 * (t + 1)))), (0, .ref b), (1, .ref x), (2, .ref mx), (3, .ref u), (4, .ref w)] []) : zs_W (fun q => s.heap.size ≤ q) p l e room_1 s m #[Value.ref b] below meth c 9 (lw_Z below #[Value.ref b] s) K (25 + 70 * t) (53172 + 240 * t) 1742 [(5, .int (nI (6 * t))), (0, .ref b), (1, .ref x), (2, .ref mx), (3, .ref u), (4, .ref w)] [] := by
  have hI0 := hI
  obtain ⟨hw, hX, hO, hM, hμ, ⟨k1, k2, k3, k4, k5⟩, hB, ⟨z1, z2⟩, ⟨f0, ru0⟩, ⟨g0, rw0⟩⟩ := hI
  have hFB : ∀ q, cs_F κ q → s.heap.size ≤ q := fun q hq => by rcases Nat.lt_or_ge q s.heap.size with z | z; have := hB q z; have := hq.1; omega; exact z
  have hFM : ∀ q, md_F μ q → s.heap.size ≤ q := fun q hq => (hμ q hq).2.2.2.2
  have hxX : ∃ fs, zs_pt D x (.inr (6, fs)) K := by obtain ⟨a1, a2, a3, a4, a5, lp, lv, lh, lz, tg, ⟨t0, t1, t2, t3, t4, t5, hx, -⟩, -⟩ := hX; exact ⟨_, hx⟩
  obtain ⟨fs, hx⟩ := hxX
  refine zs_aload_n hE 2 dL_law_1742 rfl rfl ?_
  refine zs_aload_n hE 1 dL_law_1743 rfl rfl ?_
  refine zs_iload hE 0 dL_law_1744 rfl ?_
  refine zs_iconst (v := (nI 1)) hE dL_law_1746 (by decide) ?_
  refine zs_iaddN hE dL_law_1747 ?_
  refine zs_sld hE hX0 hbl (Nat.not_le.mpr hbl) (by omega) (by omega) dL_law_1748 ?_
  refine zs_aload_n hE 4 dL_law_1749 rfl rfl ?_
  have h4 : (o_named S (xs (6 * t + 1))).1 ≤ 4 := v4_named S (xs (6 * t + 1))
  refine zw_callW (av := [.ref x, .int (xs (6 * t + 1)), .ref u]) (st := []) hE hN (m_L_named D E s.heap.size l hl κ S x u (xs (6 * t + 1)) k1) sW_L_203 ⟨⟨hX, hw⟩, f0, ru0⟩ ⟨by decide, by decide⟩ ⟨by show _ + 1 ≤ 603072; omega, by show _ + 6 ≤ 7215210; omega⟩ (fun q h9 => by rcases h9 with h9 | h9; exact hFB q h9; rw [h9]; exact k4) (Nat.le_of_ble_eq_true rfl) dL_law_1750 (fun v H1 hv z1c kk1 => ?_)
  obtain ⟨rfl, -, ⟨κ1, hX1, hk1⟩, f, r1, hf0⟩ := hv
  refine zs_widen (k' := 25 + 70 * (t + 1)) (n' := 53172 + 240 * (t + 1)) (by show 25 + 70 * t + 1 ≤ _; omega) (by show 53172 + 240 * t + 6 ≤ _; omega) ?_
  have hO1 : md_O D E μ mx ad sc ar H1 := lw_m hI0 (fun q q1 q2 => kk1 q q1 (fun z => q2 (by rcases z with z | z; exact Or.inl z; exact Or.inr (Or.inl z))))
  refine zs_istore (lo' := [(6, .int (nI ((o_named S (xs (6 * t + 1))).1))), (5, .int (nI (6 * t))), (0, .ref b), (1, .ref x), (2, .ref mx), (3, .ref u), (4, .ref w)]) hE dL_law_1753 (by decide) rfl ?_
  refine zs_aload_n hE 4 dL_law_1755 rfl rfl ?_
  refine zs_aload_n hE 2 dL_law_1756 rfl rfl ?_
  refine zs_iload hE 1 dL_law_1757 rfl ?_
  refine zs_iconst (v := (nI 1)) hE dL_law_1759 (by decide) ?_
  refine zs_iaddN hE dL_law_1760 ?_
  refine zs_sld hE hX0 hbl (Nat.not_le.mpr hbl) (by omega) (by omega) dL_law_1761 ?_
  refine zs_callV (av := [.int (xs (6 * t + 1))]) (st := []) hE (m_X7_named D E s.heap.size l μ mx ad sc ar S (xs (6 * t + 1)) hM hw) sV_L_205 hO1.2.1 rfl rfl hO1 ⟨by decide, by decide⟩ ⟨by show _ + 0 ≤ 603072; omega, by show _ + 0 ≤ 7215210; omega⟩ hFM (Nat.le_of_ble_eq_true rfl) dL_law_1762 (fun v2 H2 hv2 z2c kk2 => ?_)
  obtain ⟨hz2, ⟨wv, rfl, hwo⟩, sc2, ar2, hO2, hM2, hth⟩ := hv2
  refine zs_widen (k' := 25 + 70 * (t + 1)) (n' := 53172 + 240 * (t + 1)) (by show _ + 0 ≤ _; omega) (by show _ + 0 ≤ _; omega) ?_
  have hI2 : lw_I D E s.heap.size x mx u w ad μ Z (o_named S (xs (6 * t + 1))).2.2 κ1 sc2 ar2 H2 := lw_n hI0 (wfo_named hw (xs (6 * t + 1))) z1c hX1 hk1 hz2 kk2 hO2 hM2 ⟨f, r1⟩ ⟨g0, rw0.kept (kk1 _ rw0.lt (fun z => by rcases z with z | z; have := z.2; omega; exact k3 z.symm))⟩
  have r2 := r1.kept (kk2 _ r1.lt (fun z => (hμ u z).2.2.1 rfl))
  refine zs_istore (lo' := [(7, .int wv), (6, .int (nI ((o_named S (xs (6 * t + 1))).1))), (5, .int (nI (6 * t))), (0, .ref b), (1, .ref x), (2, .ref mx), (3, .ref u), (4, .ref w)]) hE dL_law_1765 (by decide) rfl ?_
  refine zs_aload_n hE 5 dL_law_1767 rfl rfl ?_
  refine zs_callVR (av := []) (st := []) (b := mx) hE (m_X7_thrown D E s.heap.size l μ mx ad sc2 ar2) rfl rfl sV_L_126 hO2.2.1 rfl rfl hO2 ⟨by decide, by decide⟩ ⟨by show _ ≤ 603072; omega, by show _ ≤ 7215210; omega⟩ (Nat.le_of_ble_eq_true rfl) dL_law_1768 ?_
  refine zs_top (v' := .int (nI ((o_named S (xs (6 * t + 1))).1))) (by rw [hth]) ?_
  refine zs_iload hE 1 dL_law_1771 rfl ?_
  refine zs_icmp_eqN (tgt := 1778) hE (by omega) (by omega) dL_law_1773 (by decide) (fun h9 => ?_) (fun h9 => ?_)
  · refine zs_iload hE 1 dL_law_1778 rfl ?_
    refine zs_if_neN (tgt := 1795) hE (by omega) dL_law_1780 (by decide) (fun h5 => ?_) (fun h5 => ?_)
    · refine zs_goto (tgt := 2202) hE dL_law_1795 (by decide) ?_
      refine zs_iinc (v := ((nI (6 * t)) + (6))) (lo' := [(5, .int ((nI (6 * t)) + (6))), (7, .int wv), (6, .int (nI ((o_named S (xs (6 * t + 1))).1))), (0, .ref b), (1, .ref x), (2, .ref mx), (3, .ref u), (4, .ref w)]) hE 2 dL_law_2202 rfl (by first | rfl | decide) (by decide) rfl ?_
      refine zs_goto (tgt := 28) hE dL_law_2205 (by decide) ?_
      refine zs_sub (lo' := [(5, .int ((nI (6 * t)) + (6))), (0, .ref b), (1, .ref x), (2, .ref mx), (3, .ref u), (4, .ref w)]) [0, 3, 4, 5, 6, 7] rfl ?_
      refine zs_lo (lo' := [(5, .int (nI (6 * (t + 1)))), (0, .ref b), (1, .ref x), (2, .ref mx), (3, .ref u), (4, .ref w)]) (by rw [show nI (6 * t) + (6) = nI (6 * (t + 1)) from nI_add (6 * t) 6]) ?_
      exact ih _ _ _ _ _ hI2
    · refine zs_aload_n hE 6 dL_law_1783 rfl rfl ?_
      refine zs_iconst (v := (nI 0)) hE dL_law_1784 (by decide) ?_
      refine zs_lald hE r2 (by decide) (by decide) dL_law_1785 ?_
      refine zs_iload hE 0 dL_law_1786 rfl ?_
      refine zs_i2l hE dL_law_1788 ?_
      refine zs_lcmp hE dL_law_1789 ?_
      refine zs_top (v' := .int (nI 0)) (by rw [show f 0 = wv.toInt64 from (hf0 h5).symm.trans (by rw [← hwo h5]; rfl), lg_self]; rfl) ?_
      refine zs_if_eqN (tgt := 1795) hE (by decide) dL_law_1790 (by decide) (fun h7 => ?_) (fun h7 => ?_)
      · refine zs_goto (tgt := 2202) hE dL_law_1795 (by decide) ?_
        refine zs_iinc (v := ((nI (6 * t)) + (6))) (lo' := [(5, .int ((nI (6 * t)) + (6))), (7, .int wv), (6, .int (nI ((o_named S (xs (6 * t + 1))).1))), (0, .ref b), (1, .ref x), (2, .ref mx), (3, .ref u), (4, .ref w)]) hE 2 dL_law_2202 rfl (by first | rfl | decide) (by decide) rfl ?_
        refine zs_goto (tgt := 28) hE dL_law_2205 (by decide) ?_
        refine zs_sub (lo' := [(5, .int ((nI (6 * t)) + (6))), (0, .ref b), (1, .ref x), (2, .ref mx), (3, .ref u), (4, .ref w)]) [0, 3, 4, 5, 6, 7] rfl ?_
        refine zs_lo (lo' := [(5, .int (nI (6 * (t + 1)))), (0, .ref b), (1, .ref x), (2, .ref mx), (3, .ref u), (4, .ref w)]) (by rw [show nI (6 * t) + (6) = nI (6 * (t + 1)) from nI_add (6 * t) 6]) ?_
        exact ih _ _ _ _ _ hI2
      · exact absurd h7 (by decide)
  · exact absurd rfl h9

set_option maxHeartbeats 4000000 in
set_option maxRecDepth 100000 in
theorem lw_share {D : va_G} {E : Nat → ClassId} {l : Launch} (hl : l.stackTraces = false) {p : Program} {e : Env} {s : State} {m : MethodId} {below : List Frame} {meth : Method} {c : Code} {b L : Nat} {xs : Nat → Int32} (hL : L ≤ 3072) (hX0 : va_X b L xs s s.heap) (hbl : b < s.heap.size) (hE : zs_E D E s.heap.size (fun q => s.heap.size ≤ q) s m #[Value.ref b] meth c p code 9 RL) (hN : zw_N s) {x mx u w : Nat} {ad μ : Nat → Nat} {Z : Nat} {t : Nat} (ht : 6 * t + 6 ≤ L) {S : sp_S} {κ sc : Nat → Nat} {ar : Nat → Nat → Int32} {K : Heap} (hI : lw_I D E s.heap.size x mx u w ad μ Z S κ sc ar K) (ih : ∀ (S : sp_S) (κ sc : Nat → Nat) (ar : Nat → Nat → Int32) (K : Heap), lw_I D E s.heap.size x mx u w ad μ Z S κ sc ar K → zs_W (fun q => s.heap.size ≤ q) p l e room_1 s m #[Value.ref b] below meth c 9 (lw_Z below #[Value.ref b] s) K (25 + 70 * (t + 1)) (53172 + 240 * (t + 1)) 28 [(5, .int (nI (6 * (t + 1)))), (0, .ref b), (1, .ref x), (2, .ref mx), (3, .ref u), (4, .ref w)] []) : zs_W (fun q => s.heap.size ≤ q) p l e room_1 s m #[Value.ref b] below meth c 9 (lw_Z below #[Value.ref b] s) K (25 + 70 * t) (53172 + 240 * t) 1798 [(5, .int (nI (6 * t))), (0, .ref b), (1, .ref x), (2, .ref mx), (3, .ref u), (4, .ref w)] [] := by
  have hI0 := hI
  obtain ⟨hw, hX, hO, hM, hμ, ⟨k1, k2, k3, k4, k5⟩, hB, ⟨z1, z2⟩, ⟨f0, ru0⟩, ⟨g0, rw0⟩⟩ := hI
  have hFB : ∀ q, cs_F κ q → s.heap.size ≤ q := fun q hq => by rcases Nat.lt_or_ge q s.heap.size with z | z; have := hB q z; have := hq.1; omega; exact z
  have hFM : ∀ q, md_F μ q → s.heap.size ≤ q := fun q hq => (hμ q hq).2.2.2.2
  have hxX : ∃ fs, zs_pt D x (.inr (6, fs)) K := by obtain ⟨a1, a2, a3, a4, a5, lp, lv, lh, lz, tg, ⟨t0, t1, t2, t3, t4, t5, hx, -⟩, -⟩ := hX; exact ⟨_, hx⟩
  obtain ⟨fs, hx⟩ := hxX
  refine zs_aload_n hE 2 dL_law_1798 rfl rfl ?_
  refine zs_aload_n hE 1 dL_law_1799 rfl rfl ?_
  refine zs_iload hE 0 dL_law_1800 rfl ?_
  refine zs_iconst (v := (nI 1)) hE dL_law_1802 (by decide) ?_
  refine zs_iaddN hE dL_law_1803 ?_
  refine zs_sld hE hX0 hbl (Nat.not_le.mpr hbl) (by omega) (by omega) dL_law_1804 ?_
  refine zs_aload_n hE 1 dL_law_1805 rfl rfl ?_
  refine zs_iload hE 0 dL_law_1806 rfl ?_
  refine zs_iconst (v := (nI 2)) hE dL_law_1808 (by decide) ?_
  refine zs_iaddN hE dL_law_1809 ?_
  refine zs_sld hE hX0 hbl (Nat.not_le.mpr hbl) (by omega) (by omega) dL_law_1810 ?_
  refine zs_aload_n hE 4 dL_law_1811 rfl rfl ?_
  have h4 : (o_share S (xs (6 * t + 1)) (xs (6 * t + 2))).1 ≤ 4 := v4_share S (xs (6 * t + 1)) (xs (6 * t + 2))
  refine zw_callW (av := [.ref x, .int (xs (6 * t + 1)), .int (xs (6 * t + 2)), .ref u]) (st := []) hE hN (m_L_share D E s.heap.size l hl κ S x u (xs (6 * t + 1)) (xs (6 * t + 2)) k1) sW_L_206 ⟨⟨hX, hw⟩, f0, ru0⟩ ⟨by decide, by decide⟩ ⟨by show _ + 1 ≤ 603072; omega, by show _ + 6 ≤ 7215210; omega⟩ (fun q h9 => by rcases h9 with h9 | h9; exact hFB q h9; rw [h9]; exact k4) (Nat.le_of_ble_eq_true rfl) dL_law_1812 (fun v H1 hv z1c kk1 => ?_)
  obtain ⟨rfl, -, ⟨κ1, hX1, hk1⟩, f, r1, hf0⟩ := hv
  refine zs_widen (k' := 25 + 70 * (t + 1)) (n' := 53172 + 240 * (t + 1)) (by show 25 + 70 * t + 1 ≤ _; omega) (by show 53172 + 240 * t + 6 ≤ _; omega) ?_
  have hO1 : md_O D E μ mx ad sc ar H1 := lw_m hI0 (fun q q1 q2 => kk1 q q1 (fun z => q2 (by rcases z with z | z; exact Or.inl z; exact Or.inr (Or.inl z))))
  refine zs_istore (lo' := [(6, .int (nI ((o_share S (xs (6 * t + 1)) (xs (6 * t + 2))).1))), (5, .int (nI (6 * t))), (0, .ref b), (1, .ref x), (2, .ref mx), (3, .ref u), (4, .ref w)]) hE dL_law_1815 (by decide) rfl ?_
  refine zs_aload_n hE 4 dL_law_1817 rfl rfl ?_
  refine zs_aload_n hE 2 dL_law_1818 rfl rfl ?_
  refine zs_iload hE 1 dL_law_1819 rfl ?_
  refine zs_iconst (v := (nI 1)) hE dL_law_1821 (by decide) ?_
  refine zs_iaddN hE dL_law_1822 ?_
  refine zs_sld hE hX0 hbl (Nat.not_le.mpr hbl) (by omega) (by omega) dL_law_1823 ?_
  refine zs_aload_n hE 2 dL_law_1824 rfl rfl ?_
  refine zs_iload hE 1 dL_law_1825 rfl ?_
  refine zs_iconst (v := (nI 2)) hE dL_law_1827 (by decide) ?_
  refine zs_iaddN hE dL_law_1828 ?_
  refine zs_sld hE hX0 hbl (Nat.not_le.mpr hbl) (by omega) (by omega) dL_law_1829 ?_
  refine zs_callV (av := [.int (xs (6 * t + 1)), .int (xs (6 * t + 2))]) (st := []) hE (m_X7_share D E s.heap.size l μ mx ad sc ar S (xs (6 * t + 1)) (xs (6 * t + 2)) hM hw) sV_L_208 hO1.2.1 rfl rfl hO1 ⟨by decide, by decide⟩ ⟨by show _ + 0 ≤ 603072; omega, by show _ + 0 ≤ 7215210; omega⟩ hFM (Nat.le_of_ble_eq_true rfl) dL_law_1830 (fun v2 H2 hv2 z2c kk2 => ?_)
  obtain ⟨hz2, ⟨wv, rfl, hwo⟩, sc2, ar2, hO2, hM2, hth⟩ := hv2
  refine zs_widen (k' := 25 + 70 * (t + 1)) (n' := 53172 + 240 * (t + 1)) (by show _ + 0 ≤ _; omega) (by show _ + 0 ≤ _; omega) ?_
  have hI2 : lw_I D E s.heap.size x mx u w ad μ Z (o_share S (xs (6 * t + 1)) (xs (6 * t + 2))).2.2 κ1 sc2 ar2 H2 := lw_n hI0 (wfo_share hw (xs (6 * t + 1)) (xs (6 * t + 2))) z1c hX1 hk1 hz2 kk2 hO2 hM2 ⟨f, r1⟩ ⟨g0, rw0.kept (kk1 _ rw0.lt (fun z => by rcases z with z | z; have := z.2; omega; exact k3 z.symm))⟩
  have r2 := r1.kept (kk2 _ r1.lt (fun z => (hμ u z).2.2.1 rfl))
  refine zs_istore (lo' := [(7, .int wv), (6, .int (nI ((o_share S (xs (6 * t + 1)) (xs (6 * t + 2))).1))), (5, .int (nI (6 * t))), (0, .ref b), (1, .ref x), (2, .ref mx), (3, .ref u), (4, .ref w)]) hE dL_law_1833 (by decide) rfl ?_
  refine zs_aload_n hE 5 dL_law_1835 rfl rfl ?_
  refine zs_callVR (av := []) (st := []) (b := mx) hE (m_X7_thrown D E s.heap.size l μ mx ad sc2 ar2) rfl rfl sV_L_126 hO2.2.1 rfl rfl hO2 ⟨by decide, by decide⟩ ⟨by show _ ≤ 603072; omega, by show _ ≤ 7215210; omega⟩ (Nat.le_of_ble_eq_true rfl) dL_law_1836 ?_
  refine zs_top (v' := .int (nI ((o_share S (xs (6 * t + 1)) (xs (6 * t + 2))).1))) (by rw [hth]) ?_
  refine zs_iload hE 1 dL_law_1839 rfl ?_
  refine zs_icmp_eqN (tgt := 1846) hE (by omega) (by omega) dL_law_1841 (by decide) (fun h9 => ?_) (fun h9 => ?_)
  · refine zs_iload hE 1 dL_law_1846 rfl ?_
    refine zs_if_neN (tgt := 1863) hE (by omega) dL_law_1848 (by decide) (fun h5 => ?_) (fun h5 => ?_)
    · refine zs_goto (tgt := 2202) hE dL_law_1863 (by decide) ?_
      refine zs_iinc (v := ((nI (6 * t)) + (6))) (lo' := [(5, .int ((nI (6 * t)) + (6))), (7, .int wv), (6, .int (nI ((o_share S (xs (6 * t + 1)) (xs (6 * t + 2))).1))), (0, .ref b), (1, .ref x), (2, .ref mx), (3, .ref u), (4, .ref w)]) hE 2 dL_law_2202 rfl (by first | rfl | decide) (by decide) rfl ?_
      refine zs_goto (tgt := 28) hE dL_law_2205 (by decide) ?_
      refine zs_sub (lo' := [(5, .int ((nI (6 * t)) + (6))), (0, .ref b), (1, .ref x), (2, .ref mx), (3, .ref u), (4, .ref w)]) [0, 3, 4, 5, 6, 7] rfl ?_
      refine zs_lo (lo' := [(5, .int (nI (6 * (t + 1)))), (0, .ref b), (1, .ref x), (2, .ref mx), (3, .ref u), (4, .ref w)]) (by rw [show nI (6 * t) + (6) = nI (6 * (t + 1)) from nI_add (6 * t) 6]) ?_
      exact ih _ _ _ _ _ hI2
    · refine zs_aload_n hE 6 dL_law_1851 rfl rfl ?_
      refine zs_iconst (v := (nI 0)) hE dL_law_1852 (by decide) ?_
      refine zs_lald hE r2 (by decide) (by decide) dL_law_1853 ?_
      refine zs_iload hE 0 dL_law_1854 rfl ?_
      refine zs_i2l hE dL_law_1856 ?_
      refine zs_lcmp hE dL_law_1857 ?_
      refine zs_top (v' := .int (nI 0)) (by rw [show f 0 = wv.toInt64 from (hf0 h5).symm.trans (by rw [← hwo h5]; rfl), lg_self]; rfl) ?_
      refine zs_if_eqN (tgt := 1863) hE (by decide) dL_law_1858 (by decide) (fun h7 => ?_) (fun h7 => ?_)
      · refine zs_goto (tgt := 2202) hE dL_law_1863 (by decide) ?_
        refine zs_iinc (v := ((nI (6 * t)) + (6))) (lo' := [(5, .int ((nI (6 * t)) + (6))), (7, .int wv), (6, .int (nI ((o_share S (xs (6 * t + 1)) (xs (6 * t + 2))).1))), (0, .ref b), (1, .ref x), (2, .ref mx), (3, .ref u), (4, .ref w)]) hE 2 dL_law_2202 rfl (by first | rfl | decide) (by decide) rfl ?_
        refine zs_goto (tgt := 28) hE dL_law_2205 (by decide) ?_
        refine zs_sub (lo' := [(5, .int ((nI (6 * t)) + (6))), (0, .ref b), (1, .ref x), (2, .ref mx), (3, .ref u), (4, .ref w)]) [0, 3, 4, 5, 6, 7] rfl ?_
        refine zs_lo (lo' := [(5, .int (nI (6 * (t + 1)))), (0, .ref b), (1, .ref x), (2, .ref mx), (3, .ref u), (4, .ref w)]) (by rw [show nI (6 * t) + (6) = nI (6 * (t + 1)) from nI_add (6 * t) 6]) ?_
        exact ih _ _ _ _ _ hI2
      · exact absurd h7 (by decide)
  · exact absurd rfl h9

set_option maxHeartbeats 4000000 in
set_option maxRecDepth 100000 in
theorem lw_got {D : va_G} {E : Nat → ClassId} {l : Launch} (hl : l.stackTraces = false) {p : Program} {e : Env} {s : State} {m : MethodId} {below : List Frame} {meth : Method} {c : Code} {b L : Nat} {xs : Nat → Int32} (hL : L ≤ 3072) (hX0 : va_X b L xs s s.heap) (hbl : b < s.heap.size) (hE : zs_E D E s.heap.size (fun q => s.heap.size ≤ q) s m #[Value.ref b] meth c p code 9 RL) (hN : zw_N s) {x mx u w : Nat} {ad μ : Nat → Nat} {Z : Nat} {t : Nat} (ht : 6 * t + 6 ≤ L) {S : sp_S} {κ sc : Nat → Nat} {ar : Nat → Nat → Int32} {K : Heap} (hI : lw_I D E s.heap.size x mx u w ad μ Z S κ sc ar K) (ih : ∀ (S : sp_S) (κ sc : Nat → Nat) (ar : Nat → Nat → Int32) (K : Heap), lw_I D E s.heap.size x mx u w ad μ Z S κ sc ar K → zs_W (fun q => s.heap.size ≤ q) p l e room_1 s m #[Value.ref b] below meth c 9 (lw_Z below #[Value.ref b] s) K (25 + 70 * (t + 1)) (53172 + 240 * (t + 1)) 28 [(5, .int (nI (6 * (t + 1)))), (0, .ref b), (1, .ref x), (2, .ref mx), (3, .ref u), (4, .ref w)] []) : zs_W (fun q => s.heap.size ≤ q) p l e room_1 s m #[Value.ref b] below meth c 9 (lw_Z below #[Value.ref b] s) K (25 + 70 * t) (53172 + 240 * t) 1866 [(5, .int (nI (6 * t))), (0, .ref b), (1, .ref x), (2, .ref mx), (3, .ref u), (4, .ref w)] [] := by
  have hI0 := hI
  obtain ⟨hw, hX, hO, hM, hμ, ⟨k1, k2, k3, k4, k5⟩, hB, ⟨z1, z2⟩, ⟨f0, ru0⟩, ⟨g0, rw0⟩⟩ := hI
  have hFB : ∀ q, cs_F κ q → s.heap.size ≤ q := fun q hq => by rcases Nat.lt_or_ge q s.heap.size with z | z; have := hB q z; have := hq.1; omega; exact z
  have hFM : ∀ q, md_F μ q → s.heap.size ≤ q := fun q hq => (hμ q hq).2.2.2.2
  have hxX : ∃ fs, zs_pt D x (.inr (6, fs)) K := by obtain ⟨a1, a2, a3, a4, a5, lp, lv, lh, lz, tg, ⟨t0, t1, t2, t3, t4, t5, hx, -⟩, -⟩ := hX; exact ⟨_, hx⟩
  obtain ⟨fs, hx⟩ := hxX
  refine zs_aload_n hE 2 dL_law_1866 rfl rfl ?_
  refine zs_aload_n hE 1 dL_law_1867 rfl rfl ?_
  refine zs_iload hE 0 dL_law_1868 rfl ?_
  refine zs_iconst (v := (nI 1)) hE dL_law_1870 (by decide) ?_
  refine zs_iaddN hE dL_law_1871 ?_
  refine zs_sld hE hX0 hbl (Nat.not_le.mpr hbl) (by omega) (by omega) dL_law_1872 ?_
  refine zs_aload_n hE 4 dL_law_1873 rfl rfl ?_
  have h4 : (o_got S (xs (6 * t + 1))).1 ≤ 4 := v4_got S (xs (6 * t + 1))
  refine zw_callW (av := [.ref x, .int (xs (6 * t + 1)), .ref u]) (st := []) hE hN (m_L_got D E s.heap.size l hl κ S x u (xs (6 * t + 1)) k1) sW_L_209 ⟨⟨hX, hw⟩, f0, ru0⟩ ⟨by decide, by decide⟩ ⟨by show _ + 1 ≤ 603072; omega, by show _ + 6 ≤ 7215210; omega⟩ (fun q h9 => by rcases h9 with h9 | h9; exact hFB q h9; rw [h9]; exact k4) (Nat.le_of_ble_eq_true rfl) dL_law_1874 (fun v H1 hv z1c kk1 => ?_)
  obtain ⟨rfl, -, ⟨κ1, hX1, hk1⟩, f, r1, hf0⟩ := hv
  refine zs_widen (k' := 25 + 70 * (t + 1)) (n' := 53172 + 240 * (t + 1)) (by show 25 + 70 * t + 1 ≤ _; omega) (by show 53172 + 240 * t + 6 ≤ _; omega) ?_
  have hO1 : md_O D E μ mx ad sc ar H1 := lw_m hI0 (fun q q1 q2 => kk1 q q1 (fun z => q2 (by rcases z with z | z; exact Or.inl z; exact Or.inr (Or.inl z))))
  refine zs_istore (lo' := [(6, .int (nI ((o_got S (xs (6 * t + 1))).1))), (5, .int (nI (6 * t))), (0, .ref b), (1, .ref x), (2, .ref mx), (3, .ref u), (4, .ref w)]) hE dL_law_1877 (by decide) rfl ?_
  refine zs_aload_n hE 4 dL_law_1879 rfl rfl ?_
  refine zs_aload_n hE 2 dL_law_1880 rfl rfl ?_
  refine zs_iload hE 1 dL_law_1881 rfl ?_
  refine zs_iconst (v := (nI 1)) hE dL_law_1883 (by decide) ?_
  refine zs_iaddN hE dL_law_1884 ?_
  refine zs_sld hE hX0 hbl (Nat.not_le.mpr hbl) (by omega) (by omega) dL_law_1885 ?_
  refine zs_callV (av := [.int (xs (6 * t + 1))]) (st := []) hE (m_X7_got D E s.heap.size l μ mx ad sc ar S (xs (6 * t + 1)) hM hw) sV_L_211 hO1.2.1 rfl rfl hO1 ⟨by decide, by decide⟩ ⟨by show _ + 0 ≤ 603072; omega, by show _ + 0 ≤ 7215210; omega⟩ hFM (Nat.le_of_ble_eq_true rfl) dL_law_1886 (fun v2 H2 hv2 z2c kk2 => ?_)
  obtain ⟨hz2, ⟨wv, rfl, hwo⟩, sc2, ar2, hO2, hM2, hth⟩ := hv2
  refine zs_widen (k' := 25 + 70 * (t + 1)) (n' := 53172 + 240 * (t + 1)) (by show _ + 0 ≤ _; omega) (by show _ + 0 ≤ _; omega) ?_
  have hI2 : lw_I D E s.heap.size x mx u w ad μ Z (o_got S (xs (6 * t + 1))).2.2 κ1 sc2 ar2 H2 := lw_n hI0 (wfo_got hw (xs (6 * t + 1))) z1c hX1 hk1 hz2 kk2 hO2 hM2 ⟨f, r1⟩ ⟨g0, rw0.kept (kk1 _ rw0.lt (fun z => by rcases z with z | z; have := z.2; omega; exact k3 z.symm))⟩
  have r2 := r1.kept (kk2 _ r1.lt (fun z => (hμ u z).2.2.1 rfl))
  refine zs_istore (lo' := [(7, .int wv), (6, .int (nI ((o_got S (xs (6 * t + 1))).1))), (5, .int (nI (6 * t))), (0, .ref b), (1, .ref x), (2, .ref mx), (3, .ref u), (4, .ref w)]) hE dL_law_1889 (by decide) rfl ?_
  refine zs_aload_n hE 5 dL_law_1891 rfl rfl ?_
  refine zs_callVR (av := []) (st := []) (b := mx) hE (m_X7_thrown D E s.heap.size l μ mx ad sc2 ar2) rfl rfl sV_L_126 hO2.2.1 rfl rfl hO2 ⟨by decide, by decide⟩ ⟨by show _ ≤ 603072; omega, by show _ ≤ 7215210; omega⟩ (Nat.le_of_ble_eq_true rfl) dL_law_1892 ?_
  refine zs_top (v' := .int (nI ((o_got S (xs (6 * t + 1))).1))) (by rw [hth]) ?_
  refine zs_iload hE 1 dL_law_1895 rfl ?_
  refine zs_icmp_eqN (tgt := 1902) hE (by omega) (by omega) dL_law_1897 (by decide) (fun h9 => ?_) (fun h9 => ?_)
  · refine zs_iload hE 1 dL_law_1902 rfl ?_
    refine zs_if_neN (tgt := 1919) hE (by omega) dL_law_1904 (by decide) (fun h5 => ?_) (fun h5 => ?_)
    · refine zs_goto (tgt := 2202) hE dL_law_1919 (by decide) ?_
      refine zs_iinc (v := ((nI (6 * t)) + (6))) (lo' := [(5, .int ((nI (6 * t)) + (6))), (7, .int wv), (6, .int (nI ((o_got S (xs (6 * t + 1))).1))), (0, .ref b), (1, .ref x), (2, .ref mx), (3, .ref u), (4, .ref w)]) hE 2 dL_law_2202 rfl (by first | rfl | decide) (by decide) rfl ?_
      refine zs_goto (tgt := 28) hE dL_law_2205 (by decide) ?_
      refine zs_sub (lo' := [(5, .int ((nI (6 * t)) + (6))), (0, .ref b), (1, .ref x), (2, .ref mx), (3, .ref u), (4, .ref w)]) [0, 3, 4, 5, 6, 7] rfl ?_
      refine zs_lo (lo' := [(5, .int (nI (6 * (t + 1)))), (0, .ref b), (1, .ref x), (2, .ref mx), (3, .ref u), (4, .ref w)]) (by rw [show nI (6 * t) + (6) = nI (6 * (t + 1)) from nI_add (6 * t) 6]) ?_
      exact ih _ _ _ _ _ hI2
    · refine zs_aload_n hE 6 dL_law_1907 rfl rfl ?_
      refine zs_iconst (v := (nI 0)) hE dL_law_1908 (by decide) ?_
      refine zs_lald hE r2 (by decide) (by decide) dL_law_1909 ?_
      refine zs_iload hE 0 dL_law_1910 rfl ?_
      refine zs_i2l hE dL_law_1912 ?_
      refine zs_lcmp hE dL_law_1913 ?_
      refine zs_top (v' := .int (nI 0)) (by rw [show f 0 = wv.toInt64 from (hf0 h5).symm.trans (by rw [← hwo h5]; rfl), lg_self]; rfl) ?_
      refine zs_if_eqN (tgt := 1919) hE (by decide) dL_law_1914 (by decide) (fun h7 => ?_) (fun h7 => ?_)
      · refine zs_goto (tgt := 2202) hE dL_law_1919 (by decide) ?_
        refine zs_iinc (v := ((nI (6 * t)) + (6))) (lo' := [(5, .int ((nI (6 * t)) + (6))), (7, .int wv), (6, .int (nI ((o_got S (xs (6 * t + 1))).1))), (0, .ref b), (1, .ref x), (2, .ref mx), (3, .ref u), (4, .ref w)]) hE 2 dL_law_2202 rfl (by first | rfl | decide) (by decide) rfl ?_
        refine zs_goto (tgt := 28) hE dL_law_2205 (by decide) ?_
        refine zs_sub (lo' := [(5, .int ((nI (6 * t)) + (6))), (0, .ref b), (1, .ref x), (2, .ref mx), (3, .ref u), (4, .ref w)]) [0, 3, 4, 5, 6, 7] rfl ?_
        refine zs_lo (lo' := [(5, .int (nI (6 * (t + 1)))), (0, .ref b), (1, .ref x), (2, .ref mx), (3, .ref u), (4, .ref w)]) (by rw [show nI (6 * t) + (6) = nI (6 * (t + 1)) from nI_add (6 * t) 6]) ?_
        exact ih _ _ _ _ _ hI2
      · exact absurd h7 (by decide)
  · exact absurd rfl h9

set_option maxHeartbeats 4000000 in
set_option maxRecDepth 100000 in
theorem lw_partsOf {D : va_G} {E : Nat → ClassId} {l : Launch} (hl : l.stackTraces = false) {p : Program} {e : Env} {s : State} {m : MethodId} {below : List Frame} {meth : Method} {c : Code} {b L : Nat} {xs : Nat → Int32} (hL : L ≤ 3072) (hX0 : va_X b L xs s s.heap) (hbl : b < s.heap.size) (hE : zs_E D E s.heap.size (fun q => s.heap.size ≤ q) s m #[Value.ref b] meth c p code 9 RL) (hN : zw_N s) {x mx u w : Nat} {ad μ : Nat → Nat} {Z : Nat} {t : Nat} (ht : 6 * t + 6 ≤ L) {S : sp_S} {κ sc : Nat → Nat} {ar : Nat → Nat → Int32} {K : Heap} (hI : lw_I D E s.heap.size x mx u w ad μ Z S κ sc ar K) (ih : ∀ (S : sp_S) (κ sc : Nat → Nat) (ar : Nat → Nat → Int32) (K : Heap), lw_I D E s.heap.size x mx u w ad μ Z S κ sc ar K → zs_W (fun q => s.heap.size ≤ q) p l e room_1 s m #[Value.ref b] below meth c 9 (lw_Z below #[Value.ref b] s) K (25 + 70 * (t + 1)) (53172 + 240 * (t + 1)) 28 [(5, .int (nI (6 * (t + 1)))), (0, .ref b), (1, .ref x), (2, .ref mx), (3, .ref u), (4, .ref w)] []) : zs_W (fun q => s.heap.size ≤ q) p l e room_1 s m #[Value.ref b] below meth c 9 (lw_Z below #[Value.ref b] s) K (25 + 70 * t) (53172 + 240 * t) 1922 [(5, .int (nI (6 * t))), (0, .ref b), (1, .ref x), (2, .ref mx), (3, .ref u), (4, .ref w)] [] := by
  have hI0 := hI
  obtain ⟨hw, hX, hO, hM, hμ, ⟨k1, k2, k3, k4, k5⟩, hB, ⟨z1, z2⟩, ⟨f0, ru0⟩, ⟨g0, rw0⟩⟩ := hI
  have hFB : ∀ q, cs_F κ q → s.heap.size ≤ q := fun q hq => by rcases Nat.lt_or_ge q s.heap.size with z | z; have := hB q z; have := hq.1; omega; exact z
  have hFM : ∀ q, md_F μ q → s.heap.size ≤ q := fun q hq => (hμ q hq).2.2.2.2
  have hxX : ∃ fs, zs_pt D x (.inr (6, fs)) K := by obtain ⟨a1, a2, a3, a4, a5, lp, lv, lh, lz, tg, ⟨t0, t1, t2, t3, t4, t5, hx, -⟩, -⟩ := hX; exact ⟨_, hx⟩
  obtain ⟨fs, hx⟩ := hxX
  refine zs_aload_n hE 2 dL_law_1922 rfl rfl ?_
  refine zs_aload_n hE 1 dL_law_1923 rfl rfl ?_
  refine zs_iload hE 0 dL_law_1924 rfl ?_
  refine zs_iconst (v := (nI 1)) hE dL_law_1926 (by decide) ?_
  refine zs_iaddN hE dL_law_1927 ?_
  refine zs_sld hE hX0 hbl (Nat.not_le.mpr hbl) (by omega) (by omega) dL_law_1928 ?_
  refine zs_aload_n hE 1 dL_law_1929 rfl rfl ?_
  refine zs_iload hE 0 dL_law_1930 rfl ?_
  refine zs_iconst (v := (nI 2)) hE dL_law_1932 (by decide) ?_
  refine zs_iaddN hE dL_law_1933 ?_
  refine zs_sld hE hX0 hbl (Nat.not_le.mpr hbl) (by omega) (by omega) dL_law_1934 ?_
  refine zs_aload_n hE 4 dL_law_1935 rfl rfl ?_
  have h4 : (o_partsOf S (xs (6 * t + 1)) (xs (6 * t + 2))).1 ≤ 4 := v4_partsOf S (xs (6 * t + 1)) (xs (6 * t + 2))
  refine zw_callW (av := [.ref x, .int (xs (6 * t + 1)), .int (xs (6 * t + 2)), .ref u]) (st := []) hE hN (m_L_partsOf D E s.heap.size l hl κ S x u (xs (6 * t + 1)) (xs (6 * t + 2)) k1) sW_L_212 ⟨⟨hX, hw⟩, f0, ru0⟩ ⟨by decide, by decide⟩ ⟨by show _ + 1 ≤ 603072; omega, by show _ + 6 ≤ 7215210; omega⟩ (fun q h9 => by rcases h9 with h9 | h9; exact hFB q h9; rw [h9]; exact k4) (Nat.le_of_ble_eq_true rfl) dL_law_1936 (fun v H1 hv z1c kk1 => ?_)
  obtain ⟨rfl, -, ⟨κ1, hX1, hk1⟩, f, r1, hf0⟩ := hv
  refine zs_widen (k' := 25 + 70 * (t + 1)) (n' := 53172 + 240 * (t + 1)) (by show 25 + 70 * t + 1 ≤ _; omega) (by show 53172 + 240 * t + 6 ≤ _; omega) ?_
  have hO1 : md_O D E μ mx ad sc ar H1 := lw_m hI0 (fun q q1 q2 => kk1 q q1 (fun z => q2 (by rcases z with z | z; exact Or.inl z; exact Or.inr (Or.inl z))))
  refine zs_istore (lo' := [(6, .int (nI ((o_partsOf S (xs (6 * t + 1)) (xs (6 * t + 2))).1))), (5, .int (nI (6 * t))), (0, .ref b), (1, .ref x), (2, .ref mx), (3, .ref u), (4, .ref w)]) hE dL_law_1939 (by decide) rfl ?_
  refine zs_aload_n hE 4 dL_law_1941 rfl rfl ?_
  refine zs_aload_n hE 2 dL_law_1942 rfl rfl ?_
  refine zs_iload hE 1 dL_law_1943 rfl ?_
  refine zs_iconst (v := (nI 1)) hE dL_law_1945 (by decide) ?_
  refine zs_iaddN hE dL_law_1946 ?_
  refine zs_sld hE hX0 hbl (Nat.not_le.mpr hbl) (by omega) (by omega) dL_law_1947 ?_
  refine zs_aload_n hE 2 dL_law_1948 rfl rfl ?_
  refine zs_iload hE 1 dL_law_1949 rfl ?_
  refine zs_iconst (v := (nI 2)) hE dL_law_1951 (by decide) ?_
  refine zs_iaddN hE dL_law_1952 ?_
  refine zs_sld hE hX0 hbl (Nat.not_le.mpr hbl) (by omega) (by omega) dL_law_1953 ?_
  refine zs_callV (av := [.int (xs (6 * t + 1)), .int (xs (6 * t + 2))]) (st := []) hE (m_X7_partsOf D E s.heap.size l μ mx ad sc ar S (xs (6 * t + 1)) (xs (6 * t + 2)) hM hw) sV_L_214 hO1.2.1 rfl rfl hO1 ⟨by decide, by decide⟩ ⟨by show _ + 0 ≤ 603072; omega, by show _ + 0 ≤ 7215210; omega⟩ hFM (Nat.le_of_ble_eq_true rfl) dL_law_1954 (fun v2 H2 hv2 z2c kk2 => ?_)
  obtain ⟨hz2, ⟨wv, rfl, hwo⟩, sc2, ar2, hO2, hM2, hth⟩ := hv2
  refine zs_widen (k' := 25 + 70 * (t + 1)) (n' := 53172 + 240 * (t + 1)) (by show _ + 0 ≤ _; omega) (by show _ + 0 ≤ _; omega) ?_
  have hI2 : lw_I D E s.heap.size x mx u w ad μ Z (o_partsOf S (xs (6 * t + 1)) (xs (6 * t + 2))).2.2 κ1 sc2 ar2 H2 := lw_n hI0 (wfo_partsOf hw (xs (6 * t + 1)) (xs (6 * t + 2))) z1c hX1 hk1 hz2 kk2 hO2 hM2 ⟨f, r1⟩ ⟨g0, rw0.kept (kk1 _ rw0.lt (fun z => by rcases z with z | z; have := z.2; omega; exact k3 z.symm))⟩
  have r2 := r1.kept (kk2 _ r1.lt (fun z => (hμ u z).2.2.1 rfl))
  refine zs_istore (lo' := [(7, .int wv), (6, .int (nI ((o_partsOf S (xs (6 * t + 1)) (xs (6 * t + 2))).1))), (5, .int (nI (6 * t))), (0, .ref b), (1, .ref x), (2, .ref mx), (3, .ref u), (4, .ref w)]) hE dL_law_1957 (by decide) rfl ?_
  refine zs_aload_n hE 5 dL_law_1959 rfl rfl ?_
  refine zs_callVR (av := []) (st := []) (b := mx) hE (m_X7_thrown D E s.heap.size l μ mx ad sc2 ar2) rfl rfl sV_L_126 hO2.2.1 rfl rfl hO2 ⟨by decide, by decide⟩ ⟨by show _ ≤ 603072; omega, by show _ ≤ 7215210; omega⟩ (Nat.le_of_ble_eq_true rfl) dL_law_1960 ?_
  refine zs_top (v' := .int (nI ((o_partsOf S (xs (6 * t + 1)) (xs (6 * t + 2))).1))) (by rw [hth]) ?_
  refine zs_iload hE 1 dL_law_1963 rfl ?_
  refine zs_icmp_eqN (tgt := 1970) hE (by omega) (by omega) dL_law_1965 (by decide) (fun h9 => ?_) (fun h9 => ?_)
  · refine zs_iload hE 1 dL_law_1970 rfl ?_
    refine zs_if_neN (tgt := 1987) hE (by omega) dL_law_1972 (by decide) (fun h5 => ?_) (fun h5 => ?_)
    · refine zs_goto (tgt := 2202) hE dL_law_1987 (by decide) ?_
      refine zs_iinc (v := ((nI (6 * t)) + (6))) (lo' := [(5, .int ((nI (6 * t)) + (6))), (7, .int wv), (6, .int (nI ((o_partsOf S (xs (6 * t + 1)) (xs (6 * t + 2))).1))), (0, .ref b), (1, .ref x), (2, .ref mx), (3, .ref u), (4, .ref w)]) hE 2 dL_law_2202 rfl (by first | rfl | decide) (by decide) rfl ?_
      refine zs_goto (tgt := 28) hE dL_law_2205 (by decide) ?_
      refine zs_sub (lo' := [(5, .int ((nI (6 * t)) + (6))), (0, .ref b), (1, .ref x), (2, .ref mx), (3, .ref u), (4, .ref w)]) [0, 3, 4, 5, 6, 7] rfl ?_
      refine zs_lo (lo' := [(5, .int (nI (6 * (t + 1)))), (0, .ref b), (1, .ref x), (2, .ref mx), (3, .ref u), (4, .ref w)]) (by rw [show nI (6 * t) + (6) = nI (6 * (t + 1)) from nI_add (6 * t) 6]) ?_
      exact ih _ _ _ _ _ hI2
    · refine zs_aload_n hE 6 dL_law_1975 rfl rfl ?_
      refine zs_iconst (v := (nI 0)) hE dL_law_1976 (by decide) ?_
      refine zs_lald hE r2 (by decide) (by decide) dL_law_1977 ?_
      refine zs_iload hE 0 dL_law_1978 rfl ?_
      refine zs_i2l hE dL_law_1980 ?_
      refine zs_lcmp hE dL_law_1981 ?_
      refine zs_top (v' := .int (nI 0)) (by rw [show f 0 = wv.toInt64 from (hf0 h5).symm.trans (by rw [← hwo h5]; rfl), lg_self]; rfl) ?_
      refine zs_if_eqN (tgt := 1987) hE (by decide) dL_law_1982 (by decide) (fun h7 => ?_) (fun h7 => ?_)
      · refine zs_goto (tgt := 2202) hE dL_law_1987 (by decide) ?_
        refine zs_iinc (v := ((nI (6 * t)) + (6))) (lo' := [(5, .int ((nI (6 * t)) + (6))), (7, .int wv), (6, .int (nI ((o_partsOf S (xs (6 * t + 1)) (xs (6 * t + 2))).1))), (0, .ref b), (1, .ref x), (2, .ref mx), (3, .ref u), (4, .ref w)]) hE 2 dL_law_2202 rfl (by first | rfl | decide) (by decide) rfl ?_
        refine zs_goto (tgt := 28) hE dL_law_2205 (by decide) ?_
        refine zs_sub (lo' := [(5, .int ((nI (6 * t)) + (6))), (0, .ref b), (1, .ref x), (2, .ref mx), (3, .ref u), (4, .ref w)]) [0, 3, 4, 5, 6, 7] rfl ?_
        refine zs_lo (lo' := [(5, .int (nI (6 * (t + 1)))), (0, .ref b), (1, .ref x), (2, .ref mx), (3, .ref u), (4, .ref w)]) (by rw [show nI (6 * t) + (6) = nI (6 * (t + 1)) from nI_add (6 * t) 6]) ?_
        exact ih _ _ _ _ _ hI2
      · exact absurd h7 (by decide)
  · exact absurd rfl h9

set_option maxHeartbeats 4000000 in
set_option maxRecDepth 100000 in
theorem lw_versions {D : va_G} {E : Nat → ClassId} {l : Launch} (hl : l.stackTraces = false) {p : Program} {e : Env} {s : State} {m : MethodId} {below : List Frame} {meth : Method} {c : Code} {b L : Nat} {xs : Nat → Int32} (hL : L ≤ 3072) (hX0 : va_X b L xs s s.heap) (hbl : b < s.heap.size) (hE : zs_E D E s.heap.size (fun q => s.heap.size ≤ q) s m #[Value.ref b] meth c p code 9 RL) (hN : zw_N s) {x mx u w : Nat} {ad μ : Nat → Nat} {Z : Nat} {t : Nat} (ht : 6 * t + 6 ≤ L) {S : sp_S} {κ sc : Nat → Nat} {ar : Nat → Nat → Int32} {K : Heap} (hI : lw_I D E s.heap.size x mx u w ad μ Z S κ sc ar K) (ih : ∀ (S : sp_S) (κ sc : Nat → Nat) (ar : Nat → Nat → Int32) (K : Heap), lw_I D E s.heap.size x mx u w ad μ Z S κ sc ar K → zs_W (fun q => s.heap.size ≤ q) p l e room_1 s m #[Value.ref b] below meth c 9 (lw_Z below #[Value.ref b] s) K (25 + 70 * (t + 1)) (53172 + 240 * (t + 1)) 28 [(5, .int (nI (6 * (t + 1)))), (0, .ref b), (1, .ref x), (2, .ref mx), (3, .ref u), (4, .ref w)] []) : zs_W (fun q => s.heap.size ≤ q) p l e room_1 s m #[Value.ref b] below meth c 9 (lw_Z below #[Value.ref b] s) K (25 + 70 * t) (53172 + 240 * t) 1990 [(5, .int (nI (6 * t))), (0, .ref b), (1, .ref x), (2, .ref mx), (3, .ref u), (4, .ref w)] [] := by
  have hI0 := hI
  obtain ⟨hw, hX, hO, hM, hμ, ⟨k1, k2, k3, k4, k5⟩, hB, ⟨z1, z2⟩, ⟨f0, ru0⟩, ⟨g0, rw0⟩⟩ := hI
  have hFB : ∀ q, cs_F κ q → s.heap.size ≤ q := fun q hq => by rcases Nat.lt_or_ge q s.heap.size with z | z; have := hB q z; have := hq.1; omega; exact z
  have hFM : ∀ q, md_F μ q → s.heap.size ≤ q := fun q hq => (hμ q hq).2.2.2.2
  have hxX : ∃ fs, zs_pt D x (.inr (6, fs)) K := by obtain ⟨a1, a2, a3, a4, a5, lp, lv, lh, lz, tg, ⟨t0, t1, t2, t3, t4, t5, hx, -⟩, -⟩ := hX; exact ⟨_, hx⟩
  obtain ⟨fs, hx⟩ := hxX
  refine zs_aload_n hE 2 dL_law_1990 rfl rfl ?_
  refine zs_callV (av := []) (st := []) hE (m_X6_versions D E s.heap.size l κ S x) sV_L_215 hx rfl rfl ⟨hX, hw⟩ ⟨by decide, by decide⟩ ⟨by show _ + 0 ≤ 603072; omega, by show _ + 0 ≤ 7215210; omega⟩ hFB (Nat.le_of_ble_eq_true rfl) dL_law_1991 (fun v H1 hv z1c kk1 => ?_)
  obtain ⟨o0, rfl, -, κ1, hX1, hk1⟩ := hv
  have hO1 : md_O D E μ mx ad sc ar H1 := lw_m hI0 (fun q q1 q2 => kk1 q q1 (fun z => q2 (Or.inl z)))
  refine zs_widen (k' := 25 + 70 * (t + 1)) (n' := 53172 + 240 * (t + 1)) (by show 25 + 70 * t + 0 ≤ _; omega) (by show 53172 + 240 * t + 0 ≤ _; omega) ?_
  refine zs_aload_n hE 3 dL_law_1994 rfl rfl ?_
  refine zs_callV (av := []) (st := [.int (nI (sp_nv S))]) hE (m_X7_versions D E s.heap.size l μ mx ad sc ar S hM hw) sV_L_218 hO1.2.1 rfl rfl hO1 ⟨by decide, by decide⟩ ⟨by show _ + 0 ≤ 603072; omega, by show _ + 0 ≤ 7215210; omega⟩ hFM (Nat.le_of_ble_eq_true rfl) dL_law_1995 (fun v2 H2 hv2 z2c kk2 => ?_)
  obtain ⟨hz2, ⟨wv, rfl, hwo⟩, sc2, ar2, hO2, hM2, hth⟩ := hv2
  refine zs_widen (k' := 25 + 70 * (t + 1)) (n' := 53172 + 240 * (t + 1)) (by show _ + 0 ≤ _; omega) (by show _ + 0 ≤ _; omega) ?_
  have hwv : wv = nI (sp_nv S) := by have := hwo rfl; injection this
  have hI2 : lw_I D E s.heap.size x mx u w ad μ Z (o_versions S).2.2 κ1 sc2 ar2 H2 := lw_n hI0 (hw) z1c hX1 hk1 hz2 kk2 hO2 hM2 ⟨f0, ru0.kept (kk1 _ ru0.lt (fun z => by have := z.2; omega))⟩ ⟨g0, rw0.kept (kk1 _ rw0.lt (fun z => by have := z.2; omega))⟩
  refine zs_icmp_eq (tgt := 2202) hE dL_law_1998 (by decide) (fun h9 => ?_) (fun h9 => ?_)
  · refine zs_iinc (v := ((nI (6 * t)) + (6))) (lo' := [(5, .int ((nI (6 * t)) + (6))), (0, .ref b), (1, .ref x), (2, .ref mx), (3, .ref u), (4, .ref w)]) hE 0 dL_law_2202 rfl (by first | rfl | decide) (by decide) rfl ?_
    refine zs_goto (tgt := 28) hE dL_law_2205 (by decide) ?_
    refine zs_sub (lo' := [(5, .int ((nI (6 * t)) + (6))), (0, .ref b), (1, .ref x), (2, .ref mx), (3, .ref u), (4, .ref w)]) [0, 1, 2, 3, 4, 5] rfl ?_
    refine zs_lo (lo' := [(5, .int (nI (6 * (t + 1)))), (0, .ref b), (1, .ref x), (2, .ref mx), (3, .ref u), (4, .ref w)]) (by rw [show nI (6 * t) + (6) = nI (6 * (t + 1)) from nI_add (6 * t) 6]) ?_
    exact ih _ _ _ _ _ hI2
  · exact absurd hwv.symm h9

set_option maxHeartbeats 4000000 in
set_option maxRecDepth 100000 in
theorem lw_countShare {D : va_G} {E : Nat → ClassId} {l : Launch} (hl : l.stackTraces = false) {p : Program} {e : Env} {s : State} {m : MethodId} {below : List Frame} {meth : Method} {c : Code} {b L : Nat} {xs : Nat → Int32} (hL : L ≤ 3072) (hX0 : va_X b L xs s s.heap) (hbl : b < s.heap.size) (hE : zs_E D E s.heap.size (fun q => s.heap.size ≤ q) s m #[Value.ref b] meth c p code 9 RL) (hN : zw_N s) {x mx u w : Nat} {ad μ : Nat → Nat} {Z : Nat} {t : Nat} (ht : 6 * t + 6 ≤ L) {S : sp_S} {κ sc : Nat → Nat} {ar : Nat → Nat → Int32} {K : Heap} (hI : lw_I D E s.heap.size x mx u w ad μ Z S κ sc ar K) (ih : ∀ (S : sp_S) (κ sc : Nat → Nat) (ar : Nat → Nat → Int32) (K : Heap), lw_I D E s.heap.size x mx u w ad μ Z S κ sc ar K → zs_W (fun q => s.heap.size ≤ q) p l e room_1 s m #[Value.ref b] below meth c 9 (lw_Z below #[Value.ref b] s) K (25 + 70 * (t + 1)) (53172 + 240 * (t + 1)) 28 [(5, .int (nI (6 * (t + 1)))), (0, .ref b), (1, .ref x), (2, .ref mx), (3, .ref u), (4, .ref w)] []) : zs_W (fun q => s.heap.size ≤ q) p l e room_1 s m #[Value.ref b] below meth c 9 (lw_Z below #[Value.ref b] s) K (25 + 70 * t) (53172 + 240 * t) 2003 [(5, .int (nI (6 * t))), (0, .ref b), (1, .ref x), (2, .ref mx), (3, .ref u), (4, .ref w)] [] := by
  have hI0 := hI
  obtain ⟨hw, hX, hO, hM, hμ, ⟨k1, k2, k3, k4, k5⟩, hB, ⟨z1, z2⟩, ⟨f0, ru0⟩, ⟨g0, rw0⟩⟩ := hI
  have hFB : ∀ q, cs_F κ q → s.heap.size ≤ q := fun q hq => by rcases Nat.lt_or_ge q s.heap.size with z | z; have := hB q z; have := hq.1; omega; exact z
  have hFM : ∀ q, md_F μ q → s.heap.size ≤ q := fun q hq => (hμ q hq).2.2.2.2
  have hxX : ∃ fs, zs_pt D x (.inr (6, fs)) K := by obtain ⟨a1, a2, a3, a4, a5, lp, lv, lh, lz, tg, ⟨t0, t1, t2, t3, t4, t5, hx, -⟩, -⟩ := hX; exact ⟨_, hx⟩
  obtain ⟨fs, hx⟩ := hxX
  refine zs_aload_n hE 2 dL_law_2003 rfl rfl ?_
  refine zs_aload hE 5 dL_law_2004 rfl ?_
  have h4 : (o_countShare S).1 ≤ 4 := v4_countShare S
  refine zw_callW (av := [.ref x, .ref w]) (st := []) hE hN (m_L_countShare D E s.heap.size l hl κ S x w k2) sW_L_219 ⟨⟨hX, hw⟩, g0, rw0⟩ ⟨by decide, by decide⟩ ⟨by show _ + 1 ≤ 603072; omega, by show _ + 6 ≤ 7215210; omega⟩ (fun q h9 => by rcases h9 with h9 | h9; exact hFB q h9; rw [h9]; exact k5) (Nat.le_of_ble_eq_true rfl) dL_law_2006 (fun v H1 hv z1c kk1 => ?_)
  obtain ⟨rfl, -, ⟨κ1, hX1, hk1⟩, f, r1, hf0⟩ := hv
  refine zs_widen (k' := 25 + 70 * (t + 1)) (n' := 53172 + 240 * (t + 1)) (by show 25 + 70 * t + 1 ≤ _; omega) (by show 53172 + 240 * t + 6 ≤ _; omega) ?_
  have hO1 : md_O D E μ mx ad sc ar H1 := lw_m hI0 (fun q q1 q2 => kk1 q q1 (fun z => q2 (by rcases z with z | z; exact Or.inl z; exact Or.inr (Or.inr z))))
  refine zs_istore (lo' := [(6, .int (nI ((o_countShare S).1))), (5, .int (nI (6 * t))), (0, .ref b), (1, .ref x), (2, .ref mx), (3, .ref u), (4, .ref w)]) hE dL_law_2009 (by decide) rfl ?_
  refine zs_aload_n hE 4 dL_law_2011 rfl rfl ?_
  refine zs_callV (av := []) (st := []) hE (m_X7_countShare D E s.heap.size l μ mx ad sc ar S hM hw) sV_L_222 hO1.2.1 rfl rfl hO1 ⟨by decide, by decide⟩ ⟨by show _ + 0 ≤ 603072; omega, by show _ + 0 ≤ 7215210; omega⟩ hFM (Nat.le_of_ble_eq_true rfl) dL_law_2012 (fun v2 H2 hv2 z2c kk2 => ?_)
  obtain ⟨hz2, ⟨wv, rfl, hwo⟩, sc2, ar2, hO2, hM2, hth⟩ := hv2
  refine zs_widen (k' := 25 + 70 * (t + 1)) (n' := 53172 + 240 * (t + 1)) (by show _ + 0 ≤ _; omega) (by show _ + 0 ≤ _; omega) ?_
  have hI2 : lw_I D E s.heap.size x mx u w ad μ Z (o_countShare S).2.2 κ1 sc2 ar2 H2 := lw_n hI0 (wfo_countShare hw) z1c hX1 hk1 hz2 kk2 hO2 hM2 ⟨f0, ru0.kept (kk1 _ ru0.lt (fun z => by rcases z with z | z; have := z.2; omega; exact k3 z))⟩ ⟨f, r1⟩
  have r2 := r1.kept (kk2 _ r1.lt (fun z => (hμ w z).2.2.2.1 rfl))
  refine zs_fstore (lo' := [(7, .float wv), (6, .int (nI ((o_countShare S).1))), (5, .int (nI (6 * t))), (0, .ref b), (1, .ref x), (2, .ref mx), (3, .ref u), (4, .ref w)]) hE dL_law_2015 (by decide) rfl ?_
  refine zs_aload_n hE 5 dL_law_2017 rfl rfl ?_
  refine zs_callVR (av := []) (st := []) (b := mx) hE (m_X7_thrown D E s.heap.size l μ mx ad sc2 ar2) rfl rfl sV_L_126 hO2.2.1 rfl rfl hO2 ⟨by decide, by decide⟩ ⟨by show _ ≤ 603072; omega, by show _ ≤ 7215210; omega⟩ (Nat.le_of_ble_eq_true rfl) dL_law_2018 ?_
  refine zs_top (v' := .int (nI ((o_countShare S).1))) (by rw [hth]) ?_
  refine zs_iload hE 1 dL_law_2021 rfl ?_
  refine zs_icmp_eqN (tgt := 2028) hE (by omega) (by omega) dL_law_2023 (by decide) (fun h9 => ?_) (fun h9 => ?_)
  · refine zs_iload hE 1 dL_law_2028 rfl ?_
    refine zs_if_neN (tgt := 2066) hE (by omega) dL_law_2030 (by decide) (fun h5 => ?_) (fun h5 => ?_)
    · refine zs_goto (tgt := 2202) hE dL_law_2066 (by decide) ?_
      refine zs_iinc (v := ((nI (6 * t)) + (6))) (lo' := [(5, .int ((nI (6 * t)) + (6))), (7, .float wv), (6, .int (nI ((o_countShare S).1))), (0, .ref b), (1, .ref x), (2, .ref mx), (3, .ref u), (4, .ref w)]) hE 2 dL_law_2202 rfl (by first | rfl | decide) (by decide) rfl ?_
      refine zs_goto (tgt := 28) hE dL_law_2205 (by decide) ?_
      refine zs_sub (lo' := [(5, .int ((nI (6 * t)) + (6))), (0, .ref b), (1, .ref x), (2, .ref mx), (3, .ref u), (4, .ref w)]) [0, 3, 4, 5, 6, 7] rfl ?_
      refine zs_lo (lo' := [(5, .int (nI (6 * (t + 1)))), (0, .ref b), (1, .ref x), (2, .ref mx), (3, .ref u), (4, .ref w)]) (by rw [show nI (6 * t) + (6) = nI (6 * (t + 1)) from nI_add (6 * t) 6]) ?_
      exact ih _ _ _ _ _ hI2
    · obtain ⟨r9, hr9, hn9⟩ := vf_countShare hw h5
      have hwr : wv = r9 := by have := (hwo h5).trans hr9; injection this
      subst hwr
      refine zs_aload hE 7 dL_law_2033 rfl ?_
      refine zs_iconst (v := (nI 0)) hE dL_law_2035 (by decide) ?_
      refine zs_dald hE r2 (by decide) (by decide) dL_law_2036 ?_
      refine zs_fload hE 0 dL_law_2037 rfl ?_
      refine zs_f2d hE dL_law_2039 hn9 ?_
      refine zs_dcmp hE dL_law_2040 ?_
      refine zs_top (v' := .int (nI 0)) (by rw [show f 0 = FP.f2d wv from (hf0 h5).symm.trans (by rw [← hwo h5]; rfl), fl_c hn9]) ?_
      refine zs_if_eqN (tgt := 2066) hE (by decide) dL_law_2041 (by decide) (fun h7 => ?_) (fun h7 => ?_)
      · refine zs_goto (tgt := 2202) hE dL_law_2066 (by decide) ?_
        refine zs_iinc (v := ((nI (6 * t)) + (6))) (lo' := [(5, .int ((nI (6 * t)) + (6))), (7, .float wv), (6, .int (nI ((o_countShare S).1))), (0, .ref b), (1, .ref x), (2, .ref mx), (3, .ref u), (4, .ref w)]) hE 2 dL_law_2202 rfl (by first | rfl | decide) (by decide) rfl ?_
        refine zs_goto (tgt := 28) hE dL_law_2205 (by decide) ?_
        refine zs_sub (lo' := [(5, .int ((nI (6 * t)) + (6))), (0, .ref b), (1, .ref x), (2, .ref mx), (3, .ref u), (4, .ref w)]) [0, 3, 4, 5, 6, 7] rfl ?_
        refine zs_lo (lo' := [(5, .int (nI (6 * (t + 1)))), (0, .ref b), (1, .ref x), (2, .ref mx), (3, .ref u), (4, .ref w)]) (by rw [show nI (6 * t) + (6) = nI (6 * (t + 1)) from nI_add (6 * t) 6]) ?_
        exact ih _ _ _ _ _ hI2
      · exact absurd h7 (by decide)
  · exact absurd rfl h9

set_option maxHeartbeats 4000000 in
set_option maxRecDepth 100000 in
theorem lw_meanMark {D : va_G} {E : Nat → ClassId} {l : Launch} (hl : l.stackTraces = false) {p : Program} {e : Env} {s : State} {m : MethodId} {below : List Frame} {meth : Method} {c : Code} {b L : Nat} {xs : Nat → Int32} (hL : L ≤ 3072) (hX0 : va_X b L xs s s.heap) (hbl : b < s.heap.size) (hE : zs_E D E s.heap.size (fun q => s.heap.size ≤ q) s m #[Value.ref b] meth c p code 9 RL) (hN : zw_N s) {x mx u w : Nat} {ad μ : Nat → Nat} {Z : Nat} {t : Nat} (ht : 6 * t + 6 ≤ L) {S : sp_S} {κ sc : Nat → Nat} {ar : Nat → Nat → Int32} {K : Heap} (hI : lw_I D E s.heap.size x mx u w ad μ Z S κ sc ar K) (ih : ∀ (S : sp_S) (κ sc : Nat → Nat) (ar : Nat → Nat → Int32) (K : Heap), lw_I D E s.heap.size x mx u w ad μ Z S κ sc ar K → zs_W (fun q => s.heap.size ≤ q) p l e room_1 s m #[Value.ref b] below meth c 9 (lw_Z below #[Value.ref b] s) K (25 + 70 * (t + 1)) (53172 + 240 * (t + 1)) 28 [(5, .int (nI (6 * (t + 1)))), (0, .ref b), (1, .ref x), (2, .ref mx), (3, .ref u), (4, .ref w)] []) : zs_W (fun q => s.heap.size ≤ q) p l e room_1 s m #[Value.ref b] below meth c 9 (lw_Z below #[Value.ref b] s) K (25 + 70 * t) (53172 + 240 * t) 2069 [(5, .int (nI (6 * t))), (0, .ref b), (1, .ref x), (2, .ref mx), (3, .ref u), (4, .ref w)] [] := by
  have hI0 := hI
  obtain ⟨hw, hX, hO, hM, hμ, ⟨k1, k2, k3, k4, k5⟩, hB, ⟨z1, z2⟩, ⟨f0, ru0⟩, ⟨g0, rw0⟩⟩ := hI
  have hFB : ∀ q, cs_F κ q → s.heap.size ≤ q := fun q hq => by rcases Nat.lt_or_ge q s.heap.size with z | z; have := hB q z; have := hq.1; omega; exact z
  have hFM : ∀ q, md_F μ q → s.heap.size ≤ q := fun q hq => (hμ q hq).2.2.2.2
  have hxX : ∃ fs, zs_pt D x (.inr (6, fs)) K := by obtain ⟨a1, a2, a3, a4, a5, lp, lv, lh, lz, tg, ⟨t0, t1, t2, t3, t4, t5, hx, -⟩, -⟩ := hX; exact ⟨_, hx⟩
  obtain ⟨fs, hx⟩ := hxX
  refine zs_aload_n hE 2 dL_law_2069 rfl rfl ?_
  refine zs_aload hE 5 dL_law_2070 rfl ?_
  have h4 : (o_meanMark S).1 ≤ 4 := v4_meanMark S
  refine zw_callW (av := [.ref x, .ref w]) (st := []) hE hN (m_L_meanMark D E s.heap.size l hl κ S x w k2) sW_L_223 ⟨⟨hX, hw⟩, g0, rw0⟩ ⟨by decide, by decide⟩ ⟨by show _ + 1 ≤ 603072; omega, by show _ + 6 ≤ 7215210; omega⟩ (fun q h9 => by rcases h9 with h9 | h9; exact hFB q h9; rw [h9]; exact k5) (Nat.le_of_ble_eq_true rfl) dL_law_2072 (fun v H1 hv z1c kk1 => ?_)
  obtain ⟨rfl, -, ⟨κ1, hX1, hk1⟩, f, r1, hf0⟩ := hv
  refine zs_widen (k' := 25 + 70 * (t + 1)) (n' := 53172 + 240 * (t + 1)) (by show 25 + 70 * t + 1 ≤ _; omega) (by show 53172 + 240 * t + 6 ≤ _; omega) ?_
  have hO1 : md_O D E μ mx ad sc ar H1 := lw_m hI0 (fun q q1 q2 => kk1 q q1 (fun z => q2 (by rcases z with z | z; exact Or.inl z; exact Or.inr (Or.inr z))))
  refine zs_istore (lo' := [(6, .int (nI ((o_meanMark S).1))), (5, .int (nI (6 * t))), (0, .ref b), (1, .ref x), (2, .ref mx), (3, .ref u), (4, .ref w)]) hE dL_law_2075 (by decide) rfl ?_
  refine zs_aload_n hE 4 dL_law_2077 rfl rfl ?_
  refine zs_callV (av := []) (st := []) hE (m_X7_meanMark D E s.heap.size l μ mx ad sc ar S hM hw) sV_L_225 hO1.2.1 rfl rfl hO1 ⟨by decide, by decide⟩ ⟨by show _ + 0 ≤ 603072; omega, by show _ + 0 ≤ 7215210; omega⟩ hFM (Nat.le_of_ble_eq_true rfl) dL_law_2078 (fun v2 H2 hv2 z2c kk2 => ?_)
  obtain ⟨hz2, ⟨wv, rfl, hwo⟩, sc2, ar2, hO2, hM2, hth⟩ := hv2
  refine zs_widen (k' := 25 + 70 * (t + 1)) (n' := 53172 + 240 * (t + 1)) (by show _ + 0 ≤ _; omega) (by show _ + 0 ≤ _; omega) ?_
  have hI2 : lw_I D E s.heap.size x mx u w ad μ Z (o_meanMark S).2.2 κ1 sc2 ar2 H2 := lw_n hI0 (wfo_meanMark hw) z1c hX1 hk1 hz2 kk2 hO2 hM2 ⟨f0, ru0.kept (kk1 _ ru0.lt (fun z => by rcases z with z | z; have := z.2; omega; exact k3 z))⟩ ⟨f, r1⟩
  have r2 := r1.kept (kk2 _ r1.lt (fun z => (hμ w z).2.2.2.1 rfl))
  refine zs_dstore (lo' := [(7, .double wv), (6, .int (nI ((o_meanMark S).1))), (5, .int (nI (6 * t))), (0, .ref b), (1, .ref x), (2, .ref mx), (3, .ref u), (4, .ref w)]) hE dL_law_2081 (by decide) rfl ?_
  refine zs_aload_n hE 5 dL_law_2083 rfl rfl ?_
  refine zs_callVR (av := []) (st := []) (b := mx) hE (m_X7_thrown D E s.heap.size l μ mx ad sc2 ar2) rfl rfl sV_L_126 hO2.2.1 rfl rfl hO2 ⟨by decide, by decide⟩ ⟨by show _ ≤ 603072; omega, by show _ ≤ 7215210; omega⟩ (Nat.le_of_ble_eq_true rfl) dL_law_2084 ?_
  refine zs_top (v' := .int (nI ((o_meanMark S).1))) (by rw [hth]) ?_
  refine zs_iload hE 1 dL_law_2087 rfl ?_
  refine zs_icmp_eqN (tgt := 2094) hE (by omega) (by omega) dL_law_2089 (by decide) (fun h9 => ?_) (fun h9 => ?_)
  · refine zs_iload hE 1 dL_law_2094 rfl ?_
    refine zs_if_neN (tgt := 2131) hE (by omega) dL_law_2096 (by decide) (fun h5 => ?_) (fun h5 => ?_)
    · refine zs_goto (tgt := 2202) hE dL_law_2131 (by decide) ?_
      refine zs_iinc (v := ((nI (6 * t)) + (6))) (lo' := [(5, .int ((nI (6 * t)) + (6))), (7, .double wv), (6, .int (nI ((o_meanMark S).1))), (0, .ref b), (1, .ref x), (2, .ref mx), (3, .ref u), (4, .ref w)]) hE 2 dL_law_2202 rfl (by first | rfl | decide) (by decide) rfl ?_
      refine zs_goto (tgt := 28) hE dL_law_2205 (by decide) ?_
      refine zs_sub (lo' := [(5, .int ((nI (6 * t)) + (6))), (0, .ref b), (1, .ref x), (2, .ref mx), (3, .ref u), (4, .ref w)]) [0, 3, 4, 5, 6, 7] rfl ?_
      refine zs_lo (lo' := [(5, .int (nI (6 * (t + 1)))), (0, .ref b), (1, .ref x), (2, .ref mx), (3, .ref u), (4, .ref w)]) (by rw [show nI (6 * t) + (6) = nI (6 * (t + 1)) from nI_add (6 * t) 6]) ?_
      exact ih _ _ _ _ _ hI2
    · obtain ⟨r9, hr9, hn9⟩ := vd_meanMark hw h5
      have hwr : wv = r9 := by have := (hwo h5).trans hr9; injection this
      subst hwr
      refine zs_aload hE 7 dL_law_2099 rfl ?_
      refine zs_iconst (v := (nI 0)) hE dL_law_2101 (by decide) ?_
      refine zs_dald hE r2 (by decide) (by decide) dL_law_2102 ?_
      refine zs_dload hE 0 dL_law_2103 rfl ?_
      refine zs_dcmp hE dL_law_2105 ?_
      refine zs_top (v' := .int (nI 0)) (by rw [show f 0 = wv from (hf0 h5).symm.trans (by rw [← hwo h5]; rfl), fl_c hn9]) ?_
      refine zs_if_eqN (tgt := 2131) hE (by decide) dL_law_2106 (by decide) (fun h7 => ?_) (fun h7 => ?_)
      · refine zs_goto (tgt := 2202) hE dL_law_2131 (by decide) ?_
        refine zs_iinc (v := ((nI (6 * t)) + (6))) (lo' := [(5, .int ((nI (6 * t)) + (6))), (7, .double wv), (6, .int (nI ((o_meanMark S).1))), (0, .ref b), (1, .ref x), (2, .ref mx), (3, .ref u), (4, .ref w)]) hE 2 dL_law_2202 rfl (by first | rfl | decide) (by decide) rfl ?_
        refine zs_goto (tgt := 28) hE dL_law_2205 (by decide) ?_
        refine zs_sub (lo' := [(5, .int ((nI (6 * t)) + (6))), (0, .ref b), (1, .ref x), (2, .ref mx), (3, .ref u), (4, .ref w)]) [0, 3, 4, 5, 6, 7] rfl ?_
        refine zs_lo (lo' := [(5, .int (nI (6 * (t + 1)))), (0, .ref b), (1, .ref x), (2, .ref mx), (3, .ref u), (4, .ref w)]) (by rw [show nI (6 * t) + (6) = nI (6 * (t + 1)) from nI_add (6 * t) 6]) ?_
        exact ih _ _ _ _ _ hI2
      · exact absurd h7 (by decide)
  · exact absurd rfl h9

set_option maxHeartbeats 4000000 in
set_option maxRecDepth 100000 in
theorem lw_checksum {D : va_G} {E : Nat → ClassId} {l : Launch} (hl : l.stackTraces = false) {p : Program} {e : Env} {s : State} {m : MethodId} {below : List Frame} {meth : Method} {c : Code} {b L : Nat} {xs : Nat → Int32} (hL : L ≤ 3072) (hX0 : va_X b L xs s s.heap) (hbl : b < s.heap.size) (hE : zs_E D E s.heap.size (fun q => s.heap.size ≤ q) s m #[Value.ref b] meth c p code 9 RL) (hN : zw_N s) {x mx u w : Nat} {ad μ : Nat → Nat} {Z : Nat} {t : Nat} (ht : 6 * t + 6 ≤ L) {S : sp_S} {κ sc : Nat → Nat} {ar : Nat → Nat → Int32} {K : Heap} (hI : lw_I D E s.heap.size x mx u w ad μ Z S κ sc ar K) (ih : ∀ (S : sp_S) (κ sc : Nat → Nat) (ar : Nat → Nat → Int32) (K : Heap), lw_I D E s.heap.size x mx u w ad μ Z S κ sc ar K → zs_W (fun q => s.heap.size ≤ q) p l e room_1 s m #[Value.ref b] below meth c 9 (lw_Z below #[Value.ref b] s) K (25 + 70 * (t + 1)) (53172 + 240 * (t + 1)) 28 [(5, .int (nI (6 * (t + 1)))), (0, .ref b), (1, .ref x), (2, .ref mx), (3, .ref u), (4, .ref w)] []) : zs_W (fun q => s.heap.size ≤ q) p l e room_1 s m #[Value.ref b] below meth c 9 (lw_Z below #[Value.ref b] s) K (25 + 70 * t) (53172 + 240 * t) 2134 [(5, .int (nI (6 * t))), (0, .ref b), (1, .ref x), (2, .ref mx), (3, .ref u), (4, .ref w)] [] := by
  have hI0 := hI
  obtain ⟨hw, hX, hO, hM, hμ, ⟨k1, k2, k3, k4, k5⟩, hB, ⟨z1, z2⟩, ⟨f0, ru0⟩, ⟨g0, rw0⟩⟩ := hI
  have hFB : ∀ q, cs_F κ q → s.heap.size ≤ q := fun q hq => by rcases Nat.lt_or_ge q s.heap.size with z | z; have := hB q z; have := hq.1; omega; exact z
  have hFM : ∀ q, md_F μ q → s.heap.size ≤ q := fun q hq => (hμ q hq).2.2.2.2
  have hxX : ∃ fs, zs_pt D x (.inr (6, fs)) K := by obtain ⟨a1, a2, a3, a4, a5, lp, lv, lh, lz, tg, ⟨t0, t1, t2, t3, t4, t5, hx, -⟩, -⟩ := hX; exact ⟨_, hx⟩
  obtain ⟨fs, hx⟩ := hxX
  refine zs_aload_n hE 2 dL_law_2134 rfl rfl ?_
  refine zs_aload_n hE 1 dL_law_2135 rfl rfl ?_
  refine zs_iload hE 0 dL_law_2136 rfl ?_
  refine zs_iconst (v := (nI 1)) hE dL_law_2138 (by decide) ?_
  refine zs_iaddN hE dL_law_2139 ?_
  refine zs_sld hE hX0 hbl (Nat.not_le.mpr hbl) (by omega) (by omega) dL_law_2140 ?_
  refine zs_aload_n hE 4 dL_law_2141 rfl rfl ?_
  have h4 : (o_checksum S (xs (6 * t + 1))).1 ≤ 4 := v4_checksum S (xs (6 * t + 1))
  refine zw_callW (av := [.ref x, .int (xs (6 * t + 1)), .ref u]) (st := []) hE hN (m_L_checksum D E s.heap.size l hl κ S x u (xs (6 * t + 1)) k1) sW_L_226 ⟨⟨hX, hw⟩, f0, ru0⟩ ⟨by decide, by decide⟩ ⟨by show _ + 1 ≤ 603072; omega, by show _ + 6 ≤ 7215210; omega⟩ (fun q h9 => by rcases h9 with h9 | h9; exact hFB q h9; rw [h9]; exact k4) (Nat.le_of_ble_eq_true rfl) dL_law_2142 (fun v H1 hv z1c kk1 => ?_)
  obtain ⟨rfl, -, ⟨κ1, hX1, hk1⟩, f, r1, hf0⟩ := hv
  refine zs_widen (k' := 25 + 70 * (t + 1)) (n' := 53172 + 240 * (t + 1)) (by show 25 + 70 * t + 1 ≤ _; omega) (by show 53172 + 240 * t + 6 ≤ _; omega) ?_
  have hO1 : md_O D E μ mx ad sc ar H1 := lw_m hI0 (fun q q1 q2 => kk1 q q1 (fun z => q2 (by rcases z with z | z; exact Or.inl z; exact Or.inr (Or.inl z))))
  refine zs_istore (lo' := [(6, .int (nI ((o_checksum S (xs (6 * t + 1))).1))), (5, .int (nI (6 * t))), (0, .ref b), (1, .ref x), (2, .ref mx), (3, .ref u), (4, .ref w)]) hE dL_law_2145 (by decide) rfl ?_
  refine zs_aload_n hE 4 dL_law_2147 rfl rfl ?_
  refine zs_aload_n hE 2 dL_law_2148 rfl rfl ?_
  refine zs_iload hE 1 dL_law_2149 rfl ?_
  refine zs_iconst (v := (nI 1)) hE dL_law_2151 (by decide) ?_
  refine zs_iaddN hE dL_law_2152 ?_
  refine zs_sld hE hX0 hbl (Nat.not_le.mpr hbl) (by omega) (by omega) dL_law_2153 ?_
  refine zs_callV (av := [.int (xs (6 * t + 1))]) (st := []) hE (m_X7_checksum D E s.heap.size l μ mx ad sc ar S (xs (6 * t + 1)) hM hw) sV_L_228 hO1.2.1 rfl rfl hO1 ⟨by decide, by decide⟩ ⟨by show _ + 0 ≤ 603072; omega, by show _ + 0 ≤ 7215210; omega⟩ hFM (Nat.le_of_ble_eq_true rfl) dL_law_2154 (fun v2 H2 hv2 z2c kk2 => ?_)
  obtain ⟨hz2, ⟨wv, rfl, hwo⟩, sc2, ar2, hO2, hM2, hth⟩ := hv2
  refine zs_widen (k' := 25 + 70 * (t + 1)) (n' := 53172 + 240 * (t + 1)) (by show _ + 0 ≤ _; omega) (by show _ + 0 ≤ _; omega) ?_
  have hI2 : lw_I D E s.heap.size x mx u w ad μ Z (o_checksum S (xs (6 * t + 1))).2.2 κ1 sc2 ar2 H2 := lw_n hI0 (wfo_checksum hw (xs (6 * t + 1))) z1c hX1 hk1 hz2 kk2 hO2 hM2 ⟨f, r1⟩ ⟨g0, rw0.kept (kk1 _ rw0.lt (fun z => by rcases z with z | z; have := z.2; omega; exact k3 z.symm))⟩
  have r2 := r1.kept (kk2 _ r1.lt (fun z => (hμ u z).2.2.1 rfl))
  refine zs_lstore (lo' := [(7, .long wv), (6, .int (nI ((o_checksum S (xs (6 * t + 1))).1))), (5, .int (nI (6 * t))), (0, .ref b), (1, .ref x), (2, .ref mx), (3, .ref u), (4, .ref w)]) hE dL_law_2157 (by decide) rfl ?_
  refine zs_aload_n hE 5 dL_law_2159 rfl rfl ?_
  refine zs_callVR (av := []) (st := []) (b := mx) hE (m_X7_thrown D E s.heap.size l μ mx ad sc2 ar2) rfl rfl sV_L_126 hO2.2.1 rfl rfl hO2 ⟨by decide, by decide⟩ ⟨by show _ ≤ 603072; omega, by show _ ≤ 7215210; omega⟩ (Nat.le_of_ble_eq_true rfl) dL_law_2160 ?_
  refine zs_top (v' := .int (nI ((o_checksum S (xs (6 * t + 1))).1))) (by rw [hth]) ?_
  refine zs_iload hE 1 dL_law_2163 rfl ?_
  refine zs_icmp_eqN (tgt := 2170) hE (by omega) (by omega) dL_law_2165 (by decide) (fun h9 => ?_) (fun h9 => ?_)
  · refine zs_iload hE 1 dL_law_2170 rfl ?_
    refine zs_if_neN (tgt := 2186) hE (by omega) dL_law_2172 (by decide) (fun h5 => ?_) (fun h5 => ?_)
    · refine zs_goto (tgt := 2202) hE dL_law_2186 (by decide) ?_
      refine zs_iinc (v := ((nI (6 * t)) + (6))) (lo' := [(5, .int ((nI (6 * t)) + (6))), (7, .long wv), (6, .int (nI ((o_checksum S (xs (6 * t + 1))).1))), (0, .ref b), (1, .ref x), (2, .ref mx), (3, .ref u), (4, .ref w)]) hE 2 dL_law_2202 rfl (by first | rfl | decide) (by decide) rfl ?_
      refine zs_goto (tgt := 28) hE dL_law_2205 (by decide) ?_
      refine zs_sub (lo' := [(5, .int ((nI (6 * t)) + (6))), (0, .ref b), (1, .ref x), (2, .ref mx), (3, .ref u), (4, .ref w)]) [0, 3, 4, 5, 6, 7] rfl ?_
      refine zs_lo (lo' := [(5, .int (nI (6 * (t + 1)))), (0, .ref b), (1, .ref x), (2, .ref mx), (3, .ref u), (4, .ref w)]) (by rw [show nI (6 * t) + (6) = nI (6 * (t + 1)) from nI_add (6 * t) 6]) ?_
      exact ih _ _ _ _ _ hI2
    · refine zs_aload_n hE 6 dL_law_2175 rfl rfl ?_
      refine zs_iconst (v := (nI 0)) hE dL_law_2176 (by decide) ?_
      refine zs_lald hE r2 (by decide) (by decide) dL_law_2177 ?_
      refine zs_lload hE 0 dL_law_2178 rfl ?_
      refine zs_lcmp hE dL_law_2180 ?_
      refine zs_top (v' := .int (nI 0)) (by rw [show f 0 = wv from (hf0 h5).symm.trans (by rw [← hwo h5]; rfl), lg_self]; rfl) ?_
      refine zs_if_eqN (tgt := 2186) hE (by decide) dL_law_2181 (by decide) (fun h7 => ?_) (fun h7 => ?_)
      · refine zs_goto (tgt := 2202) hE dL_law_2186 (by decide) ?_
        refine zs_iinc (v := ((nI (6 * t)) + (6))) (lo' := [(5, .int ((nI (6 * t)) + (6))), (7, .long wv), (6, .int (nI ((o_checksum S (xs (6 * t + 1))).1))), (0, .ref b), (1, .ref x), (2, .ref mx), (3, .ref u), (4, .ref w)]) hE 2 dL_law_2202 rfl (by first | rfl | decide) (by decide) rfl ?_
        refine zs_goto (tgt := 28) hE dL_law_2205 (by decide) ?_
        refine zs_sub (lo' := [(5, .int ((nI (6 * t)) + (6))), (0, .ref b), (1, .ref x), (2, .ref mx), (3, .ref u), (4, .ref w)]) [0, 3, 4, 5, 6, 7] rfl ?_
        refine zs_lo (lo' := [(5, .int (nI (6 * (t + 1)))), (0, .ref b), (1, .ref x), (2, .ref mx), (3, .ref u), (4, .ref w)]) (by rw [show nI (6 * t) + (6) = nI (6 * (t + 1)) from nI_add (6 * t) 6]) ?_
        exact ih _ _ _ _ _ hI2
      · exact absurd h7 (by decide)
  · exact absurd rfl h9

set_option maxHeartbeats 4000000 in
set_option maxRecDepth 100000 in
theorem lw_isSound {D : va_G} {E : Nat → ClassId} {l : Launch} (hl : l.stackTraces = false) {p : Program} {e : Env} {s : State} {m : MethodId} {below : List Frame} {meth : Method} {c : Code} {b L : Nat} {xs : Nat → Int32} (hL : L ≤ 3072) (hX0 : va_X b L xs s s.heap) (hbl : b < s.heap.size) (hE : zs_E D E s.heap.size (fun q => s.heap.size ≤ q) s m #[Value.ref b] meth c p code 9 RL) (hN : zw_N s) {x mx u w : Nat} {ad μ : Nat → Nat} {Z : Nat} {t : Nat} (ht : 6 * t + 6 ≤ L) {S : sp_S} {κ sc : Nat → Nat} {ar : Nat → Nat → Int32} {K : Heap} (hI : lw_I D E s.heap.size x mx u w ad μ Z S κ sc ar K) (ih : ∀ (S : sp_S) (κ sc : Nat → Nat) (ar : Nat → Nat → Int32) (K : Heap), lw_I D E s.heap.size x mx u w ad μ Z S κ sc ar K → zs_W (fun q => s.heap.size ≤ q) p l e room_1 s m #[Value.ref b] below meth c 9 (lw_Z below #[Value.ref b] s) K (25 + 70 * (t + 1)) (53172 + 240 * (t + 1)) 28 [(5, .int (nI (6 * (t + 1)))), (0, .ref b), (1, .ref x), (2, .ref mx), (3, .ref u), (4, .ref w)] []) : zs_W (fun q => s.heap.size ≤ q) p l e room_1 s m #[Value.ref b] below meth c 9 (lw_Z below #[Value.ref b] s) K (25 + 70 * t) (53172 + 240 * t) 2189 [(5, .int (nI (6 * t))), (0, .ref b), (1, .ref x), (2, .ref mx), (3, .ref u), (4, .ref w)] [] := by
  have hI0 := hI
  obtain ⟨hw, hX, hO, hM, hμ, ⟨k1, k2, k3, k4, k5⟩, hB, ⟨z1, z2⟩, ⟨f0, ru0⟩, ⟨g0, rw0⟩⟩ := hI
  have hFB : ∀ q, cs_F κ q → s.heap.size ≤ q := fun q hq => by rcases Nat.lt_or_ge q s.heap.size with z | z; have := hB q z; have := hq.1; omega; exact z
  have hFM : ∀ q, md_F μ q → s.heap.size ≤ q := fun q hq => (hμ q hq).2.2.2.2
  have hxX : ∃ fs, zs_pt D x (.inr (6, fs)) K := by obtain ⟨a1, a2, a3, a4, a5, lp, lv, lh, lz, tg, ⟨t0, t1, t2, t3, t4, t5, hx, -⟩, -⟩ := hX; exact ⟨_, hx⟩
  obtain ⟨fs, hx⟩ := hxX
  refine zs_aload_n hE 2 dL_law_2189 rfl rfl ?_
  refine zs_callVR (av := []) (st := []) (b := x) hE (m_X6_isSound D E s.heap.size l κ S x) rfl rfl sV_L_229 hx rfl rfl ⟨hX, hw⟩ ⟨by decide, by decide⟩ ⟨by show _ ≤ 603072; omega, by show _ ≤ 7215210; omega⟩ (Nat.le_of_ble_eq_true rfl) dL_law_2190 ?_
  have z1c : K.size ≤ K.size := Nat.le_refl _
  have hO1 := hO
  refine zs_widen (k' := 25 + 70 * (t + 1)) (n' := 53172 + 240 * (t + 1)) (by omega) (by omega) ?_
  refine zs_aload_n hE 3 dL_law_2193 rfl rfl ?_
  refine zs_callV (av := []) (st := [.int (nI 1)]) hE (m_X7_isSound D E s.heap.size l μ mx ad sc ar S hM hw) sV_L_233 hO1.2.1 rfl rfl hO1 ⟨by decide, by decide⟩ ⟨by show _ + 0 ≤ 603072; omega, by show _ + 0 ≤ 7215210; omega⟩ hFM (Nat.le_of_ble_eq_true rfl) dL_law_2194 (fun v2 H2 hv2 z2c kk2 => ?_)
  obtain ⟨hz2, ⟨wv, rfl, hwo⟩, sc2, ar2, hO2, hM2, hth⟩ := hv2
  refine zs_widen (k' := 25 + 70 * (t + 1)) (n' := 53172 + 240 * (t + 1)) (by show _ + 0 ≤ _; omega) (by show _ + 0 ≤ _; omega) ?_
  have hwv : wv = nI 1 := by have := hwo rfl; injection this
  have hI2 : lw_I D E s.heap.size x mx u w ad μ Z (o_isSound S).2.2 κ sc2 ar2 H2 := lw_n hI0 (hw) z1c hX (fun _ _ => rfl) hz2 kk2 hO2 hM2 ⟨f0, ru0⟩ ⟨g0, rw0⟩
  refine zs_icmp_eq (tgt := 2202) hE dL_law_2197 (by decide) (fun h9 => ?_) (fun h9 => ?_)
  · refine zs_iinc (v := ((nI (6 * t)) + (6))) (lo' := [(5, .int ((nI (6 * t)) + (6))), (0, .ref b), (1, .ref x), (2, .ref mx), (3, .ref u), (4, .ref w)]) hE 0 dL_law_2202 rfl (by first | rfl | decide) (by decide) rfl ?_
    refine zs_goto (tgt := 28) hE dL_law_2205 (by decide) ?_
    refine zs_sub (lo' := [(5, .int ((nI (6 * t)) + (6))), (0, .ref b), (1, .ref x), (2, .ref mx), (3, .ref u), (4, .ref w)]) [0, 1, 2, 3, 4, 5] rfl ?_
    refine zs_lo (lo' := [(5, .int (nI (6 * (t + 1)))), (0, .ref b), (1, .ref x), (2, .ref mx), (3, .ref u), (4, .ref w)]) (by rw [show nI (6 * t) + (6) = nI (6 * (t + 1)) from nI_add (6 * t) 6]) ?_
    exact ih _ _ _ _ _ hI2
  · exact absurd hwv.symm h9


/-! the state: pieces, versions, hearings, prizes, the row that is typed -/
abbrev sp_S : Type := (Nat × (Nat → Nat) × (Nat → Nat) × (Nat → Nat) × (Nat → Nat → Nat)) × (Nat × (Nat → Nat) × (Nat → Nat) × (Nat → Nat) × (Nat → Nat) × (Nat → Nat → sp_Sh)) × ((Nat → Nat → Nat) × (Nat → Nat → Nat → Nat) × (Nat → Nat → Nat → Nat)) × (Nat × (Nat → Nat) × (Nat → Nat) × (Nat → Nat → Nat)) × List Nat
def sp_np (S : sp_S) : Nat := S.1.1
def sp_ba (S : sp_S) : Nat → Nat := S.1.2.1
def sp_pa (S : sp_S) : Nat → Nat := S.1.2.2.1
def sp_fi (S : sp_S) : Nat → Nat := S.1.2.2.2.1
def sp_ru (S : sp_S) : Nat → Nat → Nat := S.1.2.2.2.2
def sp_nv (S : sp_S) : Nat := S.2.1.1
def sp_vp (S : sp_S) : Nat → Nat := S.2.1.2.1
def sp_q1 (S : sp_S) : Nat → Nat := S.2.1.2.2.1
def sp_q2 (S : sp_S) : Nat → Nat := S.2.1.2.2.2.1
def sp_am (S : sp_S) : Nat → Nat := S.2.1.2.2.2.2.1
def sp_sv (S : sp_S) : Nat → Nat → sp_Sh := S.2.1.2.2.2.2.2
def sp_hv (S : sp_S) : Nat → Nat → Nat := S.2.2.1.1
def sp_mk (S : sp_S) : Nat → Nat → Nat → Nat := S.2.2.1.2.1
def sp_ct (S : sp_S) : Nat → Nat → Nat → Nat := S.2.2.1.2.2
def sp_nz (S : sp_S) : Nat := S.2.2.2.1.1
def sp_zv (S : sp_S) : Nat → Nat := S.2.2.2.1.2.1
def sp_zc (S : sp_S) : Nat → Nat := S.2.2.2.1.2.2.1
def sp_zs (S : sp_S) : Nat → Nat → Nat := S.2.2.2.1.2.2.2
def sp_ty (S : sp_S) : List Nat := S.2.2.2.2
/-- a version's slots, four to a bar -/
def sp_sl (S : sp_S) (v j : Nat) : Option sp_Sh := if j / 4 < sp_ba S (sp_vp S v) ∧ j % 4 < sp_pa S (sp_vp S v) then some (sp_sv S v (sp_pa S (sp_vp S v) * (j / 4) + j % 4)) else none
def sp_wfr (S : sp_S) (v : Nat) : Int32 := if sp_q2 S v = 0 then nI (sp_q1 S v) - 1 else -1
def sp_op (S : sp_S) (i : Nat) : Nat := sm (fun r => sp_pt (sp_ct S i r)) 3
def sp_ky (S : sp_S) (i r : Nat) : Nat := sc_key (sp_ct S i r) 5
/-- one piece is ahead of another -/
def sp_ah (S : sp_S) (i j : Nat) : Prop := sp_op S j < sp_op S i ∨ (sp_op S j = sp_op S i ∧ (sp_pt (sp_ct S j 3) < sp_pt (sp_ct S i 3) ∨ (sp_pt (sp_ct S j 3) = sp_pt (sp_ct S i 3) ∧ (sp_ky S j 0 < sp_ky S i 0 ∨ (sp_ky S j 0 = sp_ky S i 0 ∧ (sp_ky S j 1 < sp_ky S i 1 ∨ (sp_ky S j 1 = sp_ky S i 1 ∧ (sp_ky S j 2 < sp_ky S i 2 ∨ (sp_ky S j 2 = sp_ky S i 2 ∧ i < j)))))))))
theorem sp_ah_ir (S : sp_S) (i : Nat) : ¬ sp_ah S i i := by unfold sp_ah; omega
theorem sp_ah_tr (S : sp_S) (i j k : Nat) (h1 : sp_ah S i j) (h2 : sp_ah S j k) : sp_ah S i k := by
  unfold sp_ah at h1 h2 ⊢
  generalize sp_op S i = a1 at *
  generalize sp_op S j = a2 at *
  generalize sp_op S k = a3 at *
  generalize sp_pt (sp_ct S i 3) = b1 at *
  generalize sp_pt (sp_ct S j 3) = b2 at *
  generalize sp_pt (sp_ct S k 3) = b3 at *
  generalize sp_ky S i 0 = c1 at *
  generalize sp_ky S j 0 = c2 at *
  generalize sp_ky S k 0 = c3 at *
  rcases Nat.lt_trichotomy a2 a1 with x | x | x
  · rcases h2 with h2 | ⟨h2, -⟩ <;> exact Or.inl (by omega)
  · rcases h2 with h2 | ⟨h2, h2'⟩
    · exact Or.inl (by omega)
    · rcases h1 with h1 | ⟨-, h1'⟩
      · omega
      · refine Or.inr ⟨by omega, ?_⟩
        rcases Nat.lt_trichotomy b2 b1 with y | y | y
        · rcases h2' with h2 | ⟨h2, -⟩ <;> exact Or.inl (by omega)
        · rcases h2' with h2 | ⟨h2, h2''⟩
          · exact Or.inl (by omega)
          · rcases h1' with h1 | ⟨-, h1''⟩
            · omega
            · refine Or.inr ⟨by omega, ?_⟩
              rcases Nat.lt_trichotomy c2 c1 with z | z | z
              · rcases h2'' with h2 | ⟨h2, -⟩ <;> exact Or.inl (by omega)
              · rcases h2'' with h2 | ⟨h2, h3⟩
                · exact Or.inl (by omega)
                · rcases h1'' with h1 | ⟨-, h4⟩
                  · omega
                  · exact Or.inr ⟨by omega, by omega⟩
              · rcases h1'' with h1 | ⟨h1, -⟩ <;> omega
        · rcases h1' with h1 | ⟨h1, -⟩ <;> omega
  · rcases h1 with h1 | ⟨h1, -⟩ <;> omega
theorem sp_ah_to (S : sp_S) (i j : Nat) (h : i ≠ j) : sp_ah S i j ∨ sp_ah S j i := by unfold sp_ah; omega
/-- how many pieces are ahead -/
noncomputable def sp_rk (S : sp_S) (i : Nat) : Nat := od_r (sp_ah S) (sp_np S) i
theorem sp_rk_bd {S : sp_S} {i : Nat} (h : i < sp_np S) : sp_rk S i < sp_np S := od_bd (sp_ah_ir S) h
theorem sp_rk_inj {S : sp_S} {i j : Nat} (hi : i < sp_np S) (hj : j < sp_np S) (h : sp_rk S i = sp_rk S j) : i = j := od_inj (sp_ah_ir S) (sp_ah_tr S) (sp_ah_to S) hi hj h
theorem sp_rk_on {S : sp_S} (r : Nat) (h : r < sp_np S) : ∃ i, i < sp_np S ∧ sp_rk S i = r := od_on (sp_ah_ir S) (sp_ah_tr S) (sp_ah_to S) r h
/-- the piece of a rank -/
noncomputable def sp_pr (S : sp_S) (x : Int32) : Option Nat := (sp_i x (sp_np S)).bind (fun r => gr (fun j => sp_rk S j = r) (sp_np S))
def sp_oi : Option Nat → Int32
  | some j => nI j
  | none => -1
theorem sp_pr_in {S : sp_S} {j : Nat} (h6 : sp_np S ≤ 6) (h : j < sp_np S) : sp_pr S (nI (sp_rk S j)) = some j := by
  rw [sp_pr, sp_i_in (sp_rk_bd h) (by omega), Option.bind_some]
  exact gr_spec.mpr ⟨h, rfl, fun k h1 h2 e => by have := sp_rk_inj h2 h e; omega⟩
theorem sp_pr_no {S : sp_S} {x : Int32} (h6 : sp_np S ≤ 6) (h : ∀ j, j < sp_np S → nI (sp_rk S j) ≠ x) : sp_pr S x = none := by
  rcases pk_ix x (show sp_np S < 2 ^ 31 by omega) with q | q | ⟨r, q, rfl⟩
  · rw [sp_pr, sp_i_lo q]; rfl
  · rw [sp_pr, sp_i_hi (by omega) q]; rfl
  · obtain ⟨i, h1, h2⟩ := sp_rk_on r q
    exact absurd (by rw [h2]) (h i h1)
/-- the round's version that a prize names, one greater (0: none) -/
noncomputable def sp_lh (S : sp_S) (i : Nat) : Nat := match gr (fun r => sp_hv S i r ≠ 0) 4 with
  | some r => sp_hv S i r
  | none => 0
/-! what holds of every state -/
def sw_N (S : sp_S) : Prop := sp_np S ≤ 6 ∧ sp_nv S ≤ 40 ∧ sp_nz S ≤ 12 ∧ (sp_ty S).length ≤ 8 ∧ ∀ x ∈ sp_ty S, x ≤ 99
def sw_P (S : sp_S) : Prop := (∀ i, i < sp_np S → 1 ≤ sp_ba S i ∧ sp_ba S i ≤ 8 ∧ 1 ≤ sp_pa S i ∧ sp_pa S i ≤ 4 ∧ sp_fi S i < sp_nv S ∧ sp_vp S (sp_fi S i) = i) ∧ ∀ i q, sp_ru S i q = 98 ∨ sp_ru S i q = 108 ∨ sp_ru S i q = 110
def sw_V (S : sp_S) : Prop := ∀ v, v < sp_nv S → sp_vp S v < sp_np S ∧ sp_q1 S v ≤ v ∧ sp_q2 S v ≤ v ∧ sp_am S v < 2 ^ (v + 1) ∧ (∀ k, k < sp_ba S (sp_vp S v) * sp_pa S (sp_vp S v) → 1 ≤ (sp_sv S v k).length ∧ (sp_sv S v k).length ≤ 4 ∧ ∀ r ∈ sp_sv S v k, sp_rok r)
def sw_A (S : sp_S) : Prop := ∀ v, v < sp_nv S → (∀ k, (sp_am S v).testBit k = true ↔ (k = v ∨ (sp_q1 S v ≠ 0 ∧ (sp_am S (sp_q1 S v - 1)).testBit k = true) ∨ (sp_q2 S v ≠ 0 ∧ (sp_am S (sp_q2 S v - 1)).testBit k = true))) ∧ (∀ k, (sp_am S v).testBit k = true → sp_vp S k = sp_vp S v) ∧ (sp_am S v).testBit (sp_fi S (sp_vp S v)) = true
def sw_H (S : sp_S) : Prop := ∀ i r, (∀ j, sp_mk S i r j ≤ 21 ∧ (sp_ct S i r j = sp_mk S i r j ∨ sp_ct S i r j = 0) ∧ (sp_hv S i r = 0 → sp_mk S i r j = 0) ∧ (sp_np S ≤ i → sp_mk S i r j = 0)) ∧ sp_hv S i r ≤ sp_nv S ∧ (sp_hv S i r ≠ 0 → sp_vp S (sp_hv S i r - 1) = i) ∧ (sp_np S ≤ i → sp_hv S i r = 0)
def sw_Z (S : sp_S) : Prop := ∀ z, z < sp_nz S → sp_zv S z < sp_nv S ∧ 1 ≤ sp_zc S z ∧ sp_zc S z ≤ 9999 ∧ sm (sp_zs S z) 6 = sp_zc S z
def sw_F (S : sp_S) : Prop := ∀ v, v < sp_nv S → sp_q1 S v ≠ 0 → sp_q2 S v = 0 → sp_vp S (sp_q1 S v - 1) = sp_vp S v ∧ sp_un (sp_sl S v) (sp_sl S (sp_q1 S v - 1)) 32 ≤ 1
def sp_wf (S : sp_S) : Prop := sw_N S ∧ sw_P S ∧ sw_V S ∧ sw_A S ∧ sw_H S ∧ sw_Z S ∧ sw_F S
theorem sp_ctb {S : sp_S} (h : sw_H S) (i r : Nat) : ∀ j, j < 5 → sp_ct S i r j ≤ 21 := fun j _ => by
  obtain ⟨h1, -⟩ := h i r
  obtain ⟨a, b, -⟩ := h1 j
  omega
theorem sl_none {S : sp_S} {v w : Nat} (h : sp_vp S v = sp_vp S w) (j : Nat) : sp_sl S v j = none ↔ sp_sl S w j = none := by
  unfold sp_sl
  rw [h]
  by_cases q : j / 4 < sp_ba S (sp_vp S w) ∧ j % 4 < sp_pa S (sp_vp S w)
  · rw [if_pos q, if_pos q]; simp
  · rw [if_neg q, if_neg q]
/-! the class's cells; κ: 0 for cells that stay as they are, else what the cell is -/
def cs_P (D : va_G) (E : Nat → ClassId) (κ : Nat → Nat) (H : Heap) (lp : Nat → Option Nat) (S : sp_S) : Prop := ∀ i, i < sp_np S → ∃ a r : Nat, lp i = some a ∧ κ a = 0 ∧ κ r = 100 + i ∧ zs_pt D a (.inr (1, [.int (nI (sp_fi S i)), .int (nI (sp_pa S i)), .ref r])) H ∧ zs_pt D r (.inl (E 1, 4, .inl (fun q => nI (sp_ru S i q)))) H
def cs_V (D : va_G) (E : Nat → ClassId) (κ : Nat → Nat) (H : Heap) (lv : Nat → Option Nat) (S : sp_S) : Prop := ∀ v, v < sp_nv S → ∃ a : Nat, lv v = some a ∧ cs_ver D E κ H a v (sp_vp S v) (sp_am S v) (sp_wfr S v) (sp_sl S v)
/-- a hearing's cells -/
def cs_h (D : va_G) (E : Nat → ClassId) (κ : Nat → Nat) (H : Heap) (k a t g hv : Nat) (mk ct : Nat → Nat) : Prop := κ a = 200 + k ∧ κ t = 300 + k ∧ κ g = 400 + k ∧ zs_pt D a (.inr (0, [.int (nI hv - 1), .ref t, .ref g])) H ∧ zs_pt D t (.inl (E 0, 5, .inl (fun j => nI (mk j) - 1))) H ∧ zs_pt D g (.inl (E 0, 5, .inl (fun j => nI (ct j) - 1))) H
def cs_G (D : va_G) (E : Nat → ClassId) (κ : Nat → Nat) (H : Heap) (lh : Nat → Option Nat) (S : sp_S) : Prop := (∀ k, 4 * sp_np S ≤ k → k < 24 → lh k = none) ∧ ∀ k, k < 4 * sp_np S → ∃ a t g : Nat, lh k = some a ∧ cs_h D E κ H k a t g (sp_hv S (k / 4) (k % 4)) (sp_mk S (k / 4) (k % 4)) (sp_ct S (k / 4) (k % 4))
def cs_Z (D : va_G) (E : Nat → ClassId) (κ : Nat → Nat) (H : Heap) (lz : Nat → Option Nat) (S : sp_S) : Prop := ∀ z, z < sp_nz S → ∃ a g : Nat, lz z = some a ∧ κ a = 0 ∧ κ g = 0 ∧ zs_pt D a (.inr (2, [.int (nI (sp_zv S z)), .int (nI (sp_zc S z)), .ref g])) H ∧ zs_pt D g (.inl (E 0, 6, .inl (fun u => nI (sp_zs S z u)))) H
/-- the object and its five rows -/
def cs_R (D : va_G) (E : Nat → ClassId) (κ : Nat → Nat) (H : Heap) (x a1 a2 a3 a4 a5 : Nat) (lp lv lh lz : Nat → Option Nat) (tg : Nat → Int32) (np nv nz nt : Nat) : Prop := κ x = 1 ∧ κ a1 = 2 ∧ κ a2 = 3 ∧ κ a3 = 4 ∧ κ a4 = 5 ∧ κ a5 = 6 ∧ zs_pt D x (.inr (6, [.ref a1, .int (nI np), .ref a2, .int (nI nv), .ref a3, .ref a4, .int (nI nz), .ref a5, .int (nI nt)])) H ∧ zs_pt D a1 (.inl (E 5, 6, .inr (.inr (.inr (.inr lp))))) H ∧ zs_pt D a2 (.inl (E 6, 40, .inr (.inr (.inr (.inr lv))))) H ∧ zs_pt D a3 (.inl (E 7, 24, .inr (.inr (.inr (.inr lh))))) H ∧ zs_pt D a4 (.inl (E 8, 12, .inr (.inr (.inr (.inr lz))))) H ∧ zs_pt D a5 (.inl (E 0, 8, .inl tg)) H
def cs_X (D : va_G) (E : Nat → ClassId) (κ : Nat → Nat) (S : sp_S) (x : Nat) (H : Heap) : Prop := ∃ (a1 a2 a3 a4 a5 : Nat) (lp lv lh lz : Nat → Option Nat) (tg : Nat → Int32), cs_R D E κ H x a1 a2 a3 a4 a5 lp lv lh lz tg (sp_np S) (sp_nv S) (sp_nz S) (sp_ty S).length ∧ (∀ j, j < (sp_ty S).length → tg j = nI ((sp_ty S).getD j 0)) ∧ cs_P D E κ H lp S ∧ cs_V D E κ H lv S ∧ cs_G D E κ H lh S ∧ cs_Z D E κ H lz S ∧ (∀ q, H.size ≤ q → κ q = 0)

set_option maxHeartbeats 4000000 in
set_option maxRecDepth 100000 in
theorem m_X6_pieceAt (D : va_G) (E : Nat → ClassId) (B : Nat) (l : Launch) (x a n : Nat) (f : Nat → Option Nat) (y : Int32) (v0 v1 v2 v3 v4 v5 v6 v7 v8 : Value) (hn : n ≤ 6) : zs_Ct D E B l yX6_pieceAt cX6_pieceAt 2 (some (.object "ScoreSheaf$Piece")) ({ frames := 0, cells := 0, slots := 0, locals := 0 } : Room) [.ref x, .int y] (fun H => zs_pt D x (.inr (6, [.ref a, .int (nI n), v2, v3, v4, v5, v6, v7, v8])) H ∧ zs_pt D a (.inl (E 5, 6, .inr (.inr (.inr (.inr f))))) H) (zs_N) (zs_ro (va_rf (sp_at y n f))) := by
  refine zs_ct (by decide) (Nat.le_of_ble_eq_true rfl) (fun p e s m below meth c hE hr hin hp => ?_)
  refine zs_lo (lo' := [(0, .ref x), (1, .int y)]) rfl ?_
  obtain ⟨q1, q2⟩ := hp
  refine zs_iload_n hE 1 dX6_pieceAt_0 rfl rfl ?_
  refine zs_if_lt (tgt := 12) hE dX6_pieceAt_1 (by decide) (fun h => ?_) (fun h => ?_)
  · refine zs_nullq hE dX6_pieceAt_12 ?_
    refine zs_goto (tgt := 22) hE dX6_pieceAt_13 (by decide) ?_
    refine zs_top (v' := va_rf (sp_at y n f)) (by rw [sp_at, sp_i_lo h]; rfl) ?_
    exact zs_aret hE hr (by first | exact Or.inl ⟨_, rfl⟩ | exact Or.inr ⟨_, rfl⟩) (⟨rfl, rfl⟩) (by decide) (by decide) dX6_pieceAt_22
  · refine zs_iload_n hE 1 dX6_pieceAt_4 rfl rfl ?_
    refine zs_aload_n hE 0 dX6_pieceAt_5 rfl rfl ?_
    refine zs_get hE fl_X6_44 q1 rfl dX6_pieceAt_6 ?_
    refine zs_icmp_lt (tgt := 16) hE dX6_pieceAt_9 (by decide) (fun h2 => ?_) (fun h2 => ?_)
    · obtain ⟨j, hj, rfl⟩ := sp_dec (by omega) h h2
      refine zs_aload_n hE 0 dX6_pieceAt_16 rfl rfl ?_
      refine zs_get hE fl_X6_11 q1 rfl dX6_pieceAt_17 ?_
      refine zs_iload_n hE 1 dX6_pieceAt_20 rfl rfl ?_
      refine zs_aald hE q2 rfl (by omega) (by decide) dX6_pieceAt_21 ?_
      refine zs_top (v' := va_rf (sp_at (nI j) n f)) (by rw [sp_at, sp_i_in hj (by omega)]; rfl) ?_
      exact zs_aret hE hr (by first | exact Or.inl ⟨_, rfl⟩ | exact Or.inr ⟨_, rfl⟩) (⟨rfl, rfl⟩) (by decide) (by decide) dX6_pieceAt_22
    · refine zs_nullq hE dX6_pieceAt_12 ?_
      refine zs_goto (tgt := 22) hE dX6_pieceAt_13 (by decide) ?_
      refine zs_top (v' := va_rf (sp_at y n f)) (by rw [sp_at, sp_i_hi (by omega) (sp_nlt_le h2)]; rfl) ?_
      exact zs_aret hE hr (by first | exact Or.inl ⟨_, rfl⟩ | exact Or.inr ⟨_, rfl⟩) (⟨rfl, rfl⟩) (by decide) (by decide) dX6_pieceAt_22

set_option maxHeartbeats 4000000 in
set_option maxRecDepth 100000 in
theorem m_X6_versionAt (D : va_G) (E : Nat → ClassId) (B : Nat) (l : Launch) (x a n : Nat) (f : Nat → Option Nat) (y : Int32) (v0 v1 v2 v3 v4 v5 v6 v7 v8 : Value) (hn : n ≤ 40) : zs_Ct D E B l yX6_versionAt cX6_versionAt 2 (some (.object "ScoreSheaf$Version")) ({ frames := 0, cells := 0, slots := 0, locals := 0 } : Room) [.ref x, .int y] (fun H => zs_pt D x (.inr (6, [v0, v1, .ref a, .int (nI n), v4, v5, v6, v7, v8])) H ∧ zs_pt D a (.inl (E 6, 40, .inr (.inr (.inr (.inr f))))) H) (zs_N) (zs_ro (va_rf (sp_at y n f))) := by
  refine zs_ct (by decide) (Nat.le_of_ble_eq_true rfl) (fun p e s m below meth c hE hr hin hp => ?_)
  refine zs_lo (lo' := [(0, .ref x), (1, .int y)]) rfl ?_
  obtain ⟨q1, q2⟩ := hp
  refine zs_iload_n hE 1 dX6_versionAt_0 rfl rfl ?_
  refine zs_if_lt (tgt := 12) hE dX6_versionAt_1 (by decide) (fun h => ?_) (fun h => ?_)
  · refine zs_nullq hE dX6_versionAt_12 ?_
    refine zs_goto (tgt := 22) hE dX6_versionAt_13 (by decide) ?_
    refine zs_top (v' := va_rf (sp_at y n f)) (by rw [sp_at, sp_i_lo h]; rfl) ?_
    exact zs_aret hE hr (by first | exact Or.inl ⟨_, rfl⟩ | exact Or.inr ⟨_, rfl⟩) (⟨rfl, rfl⟩) (by decide) (by decide) dX6_versionAt_22
  · refine zs_iload_n hE 1 dX6_versionAt_4 rfl rfl ?_
    refine zs_aload_n hE 0 dX6_versionAt_5 rfl rfl ?_
    refine zs_get hE fl_X6_48 q1 rfl dX6_versionAt_6 ?_
    refine zs_icmp_lt (tgt := 16) hE dX6_versionAt_9 (by decide) (fun h2 => ?_) (fun h2 => ?_)
    · obtain ⟨j, hj, rfl⟩ := sp_dec (by omega) h h2
      refine zs_aload_n hE 0 dX6_versionAt_16 rfl rfl ?_
      refine zs_get hE fl_X6_17 q1 rfl dX6_versionAt_17 ?_
      refine zs_iload_n hE 1 dX6_versionAt_20 rfl rfl ?_
      refine zs_aald hE q2 rfl (by omega) (by decide) dX6_versionAt_21 ?_
      refine zs_top (v' := va_rf (sp_at (nI j) n f)) (by rw [sp_at, sp_i_in hj (by omega)]; rfl) ?_
      exact zs_aret hE hr (by first | exact Or.inl ⟨_, rfl⟩ | exact Or.inr ⟨_, rfl⟩) (⟨rfl, rfl⟩) (by decide) (by decide) dX6_versionAt_22
    · refine zs_nullq hE dX6_versionAt_12 ?_
      refine zs_goto (tgt := 22) hE dX6_versionAt_13 (by decide) ?_
      refine zs_top (v' := va_rf (sp_at y n f)) (by rw [sp_at, sp_i_hi (by omega) (sp_nlt_le h2)]; rfl) ?_
      exact zs_aret hE hr (by first | exact Or.inl ⟨_, rfl⟩ | exact Or.inr ⟨_, rfl⟩) (⟨rfl, rfl⟩) (by decide) (by decide) dX6_versionAt_22

set_option maxHeartbeats 4000000 in
set_option maxRecDepth 100000 in
theorem m_X6_prizeAt (D : va_G) (E : Nat → ClassId) (B : Nat) (l : Launch) (x a n : Nat) (f : Nat → Option Nat) (y : Int32) (v0 v1 v2 v3 v4 v5 v6 v7 v8 : Value) (hn : n ≤ 12) : zs_Ct D E B l yX6_prizeAt cX6_prizeAt 2 (some (.object "ScoreSheaf$Prize")) ({ frames := 0, cells := 0, slots := 0, locals := 0 } : Room) [.ref x, .int y] (fun H => zs_pt D x (.inr (6, [v0, v1, v2, v3, v4, .ref a, .int (nI n), v7, v8])) H ∧ zs_pt D a (.inl (E 8, 12, .inr (.inr (.inr (.inr f))))) H) (zs_N) (zs_ro (va_rf (sp_at y n f))) := by
  refine zs_ct (by decide) (Nat.le_of_ble_eq_true rfl) (fun p e s m below meth c hE hr hin hp => ?_)
  refine zs_lo (lo' := [(0, .ref x), (1, .int y)]) rfl ?_
  obtain ⟨q1, q2⟩ := hp
  refine zs_iload_n hE 1 dX6_prizeAt_0 rfl rfl ?_
  refine zs_if_lt (tgt := 12) hE dX6_prizeAt_1 (by decide) (fun h => ?_) (fun h => ?_)
  · refine zs_nullq hE dX6_prizeAt_12 ?_
    refine zs_goto (tgt := 22) hE dX6_prizeAt_13 (by decide) ?_
    refine zs_top (v' := va_rf (sp_at y n f)) (by rw [sp_at, sp_i_lo h]; rfl) ?_
    exact zs_aret hE hr (by first | exact Or.inl ⟨_, rfl⟩ | exact Or.inr ⟨_, rfl⟩) (⟨rfl, rfl⟩) (by decide) (by decide) dX6_prizeAt_22
  · refine zs_iload_n hE 1 dX6_prizeAt_4 rfl rfl ?_
    refine zs_aload_n hE 0 dX6_prizeAt_5 rfl rfl ?_
    refine zs_get hE fl_X6_265 q1 rfl dX6_prizeAt_6 ?_
    refine zs_icmp_lt (tgt := 16) hE dX6_prizeAt_9 (by decide) (fun h2 => ?_) (fun h2 => ?_)
    · obtain ⟨j, hj, rfl⟩ := sp_dec (by omega) h h2
      refine zs_aload_n hE 0 dX6_prizeAt_16 rfl rfl ?_
      refine zs_get hE fl_X6_29 q1 rfl dX6_prizeAt_17 ?_
      refine zs_iload_n hE 1 dX6_prizeAt_20 rfl rfl ?_
      refine zs_aald hE q2 rfl (by omega) (by decide) dX6_prizeAt_21 ?_
      refine zs_top (v' := va_rf (sp_at (nI j) n f)) (by rw [sp_at, sp_i_in hj (by omega)]; rfl) ?_
      exact zs_aret hE hr (by first | exact Or.inl ⟨_, rfl⟩ | exact Or.inr ⟨_, rfl⟩) (⟨rfl, rfl⟩) (by decide) (by decide) dX6_prizeAt_22
    · refine zs_nullq hE dX6_prizeAt_12 ?_
      refine zs_goto (tgt := 22) hE dX6_prizeAt_13 (by decide) ?_
      refine zs_top (v' := va_rf (sp_at y n f)) (by rw [sp_at, sp_i_hi (by omega) (sp_nlt_le h2)]; rfl) ?_
      exact zs_aret hE hr (by first | exact Or.inl ⟨_, rfl⟩ | exact Or.inr ⟨_, rfl⟩) (⟨rfl, rfl⟩) (by decide) (by decide) dX6_prizeAt_22

def sp_ath (y w : Int32) (n : Nat) (f : Nat → Option Nat) : Option Nat := (sp_i y 4).bind (fun r => (sp_i w n).bind (fun i => f (i * 4 + r)))
set_option maxHeartbeats 4000000 in
set_option maxRecDepth 100000 in
theorem m_X6_hearingAt (D : va_G) (E : Nat → ClassId) (B : Nat) (l : Launch) (x a n : Nat) (f : Nat → Option Nat) (y w : Int32) (v0 v2 v3 v5 v6 v7 v8 : Value) (hn : n ≤ 6) : zs_Ct D E B l yX6_hearingAt cX6_hearingAt 3 (some (.object "ScoreSheaf$Hearing")) ({ frames := 0, cells := 0, slots := 0, locals := 0 } : Room) [.ref x, .int y, .int w] (fun H => zs_pt D x (.inr (6, [v0, .int (nI n), v2, v3, .ref a, v5, v6, v7, v8])) H ∧ zs_pt D a (.inl (E 7, 24, .inr (.inr (.inr (.inr f))))) H) (zs_N) (zs_ro (va_rf (sp_ath y w n f))) := by
  refine zs_ct (by decide) (Nat.le_of_ble_eq_true rfl) (fun p e s m below meth c hE hr hin hp => ?_)
  refine zs_lo (lo' := [(0, .ref x), (1, .int y), (2, .int w)]) rfl ?_
  obtain ⟨q1, q2⟩ := hp
  refine zs_iload_n hE 1 dX6_hearingAt_0 rfl rfl ?_
  refine zs_if_lt (tgt := 21) hE dX6_hearingAt_1 (by decide) (fun h1 => ?_) (fun h1 => ?_)
  · refine zs_nullq hE dX6_hearingAt_21 ?_
    refine zs_top (v' := va_rf (sp_ath y w n f)) (by rw [sp_ath, sp_i_lo h1]; rfl) ?_
    exact zs_aret hE hr (by first | exact Or.inl ⟨_, rfl⟩ | exact Or.inr ⟨_, rfl⟩) (⟨rfl, rfl⟩) (by decide) (by decide) dX6_hearingAt_22
  · refine zs_iload_n hE 1 dX6_hearingAt_4 rfl rfl ?_
    refine zs_iconst (v := (nI 4)) hE dX6_hearingAt_5 (by decide) ?_
    refine zs_icmp_ge (tgt := 21) hE dX6_hearingAt_6 (by decide) (fun h2 => ?_) (fun h2 => ?_)
    · refine zs_nullq hE dX6_hearingAt_21 ?_
      refine zs_top (v' := va_rf (sp_ath y w n f)) (by rw [sp_ath, sp_i_hi (by decide) h2]; rfl) ?_
      exact zs_aret hE hr (by first | exact Or.inl ⟨_, rfl⟩ | exact Or.inr ⟨_, rfl⟩) (⟨rfl, rfl⟩) (by decide) (by decide) dX6_hearingAt_22
    · obtain ⟨r, hr4, rfl⟩ := sp_dec (n := 4) (by decide) h1 (sp_le_lt h2)
      refine zs_iload_n hE 2 dX6_hearingAt_9 rfl rfl ?_
      refine zs_if_lt (tgt := 21) hE dX6_hearingAt_10 (by decide) (fun h3 => ?_) (fun h3 => ?_)
      · refine zs_nullq hE dX6_hearingAt_21 ?_
        refine zs_top (v' := va_rf (sp_ath (nI r) w n f)) (by rw [sp_ath, sp_i_in hr4 (by decide), Option.bind_some, sp_i_lo h3]; rfl) ?_
        exact zs_aret hE hr (by first | exact Or.inl ⟨_, rfl⟩ | exact Or.inr ⟨_, rfl⟩) (⟨rfl, rfl⟩) (by decide) (by decide) dX6_hearingAt_22
      · refine zs_iload_n hE 2 dX6_hearingAt_13 rfl rfl ?_
        refine zs_aload_n hE 0 dX6_hearingAt_14 rfl rfl ?_
        refine zs_get hE fl_X6_44 q1 rfl dX6_hearingAt_15 ?_
        refine zs_icmp_lt (tgt := 23) hE dX6_hearingAt_18 (by decide) (fun h4 => ?_) (fun h4 => ?_)
        · obtain ⟨i, hi6, rfl⟩ := sp_dec (by omega) h3 h4
          refine zs_aload_n hE 0 dX6_hearingAt_23 rfl rfl ?_
          refine zs_get hE fl_X6_23 q1 rfl dX6_hearingAt_24 ?_
          refine zs_iload_n hE 2 dX6_hearingAt_27 rfl rfl ?_
          refine zs_iconst (v := (nI 4)) hE dX6_hearingAt_28 (by decide) ?_
          refine zs_imulN hE dX6_hearingAt_29 ?_
          refine zs_iload_n hE 1 dX6_hearingAt_30 rfl rfl ?_
          refine zs_iaddN hE dX6_hearingAt_31 ?_
          refine zs_aald hE q2 rfl (by omega) (by decide) dX6_hearingAt_32 ?_
          refine zs_top (v' := va_rf (sp_ath (nI r) (nI i) n f)) (by rw [sp_ath, sp_i_in hr4 (by decide), Option.bind_some, sp_i_in hi6 (by omega), Option.bind_some]) ?_
          exact zs_aret hE hr (by first | exact Or.inl ⟨_, rfl⟩ | exact Or.inr ⟨_, rfl⟩) (⟨rfl, rfl⟩) (by decide) (by decide) dX6_hearingAt_33
        · refine zs_nullq hE dX6_hearingAt_21 ?_
          refine zs_top (v' := va_rf (sp_ath (nI r) w n f)) (by rw [sp_ath, sp_i_in hr4 (by decide), Option.bind_some, sp_i_hi (by omega) (sp_nlt_le h4)]; rfl) ?_
          exact zs_aret hE hr (by first | exact Or.inl ⟨_, rfl⟩ | exact Or.inr ⟨_, rfl⟩) (⟨rfl, rfl⟩) (by decide) (by decide) dX6_hearingAt_22

set_option maxHeartbeats 4000000 in
set_option maxRecDepth 100000 in
theorem m_X6_isEditor (D : va_G) (E : Nat → ClassId) (B : Nat) (l : Launch) (y : Int32) : zs_Ct D E B l yX6_isEditor cX6_isEditor 1 (some .boolean) ({ frames := 0, cells := 0, slots := 0, locals := 0 } : Room) [.int y] (fun _ => True) (zs_N) (zs_ro (.int (zs_b (sp_i y 6 ≠ none)))) := by
  refine zs_ct (by decide) (Nat.le_of_ble_eq_true rfl) (fun p e s m below meth c hE hr hin hp => ?_)
  refine zs_lo (lo' := [(0, .int y)]) rfl ?_
  refine zs_iload_n hE 0 dX6_isEditor_0 rfl rfl ?_
  refine zs_if_lt (tgt := 14) hE dX6_isEditor_1 (by decide) (fun h1 => ?_) (fun h1 => ?_)
  · refine zs_iconst (v := (nI 0)) hE dX6_isEditor_14 (by decide) ?_
    refine zs_top (v' := .int (zs_b (sp_i y 6 ≠ none))) (vb0 (fun w => w (sp_i_lo h1))) ?_
    exact zs_zret hE hr (zs_bnar _) (⟨rfl, rfl⟩) (by decide) (by decide) dX6_isEditor_15
  · refine zs_iload_n hE 0 dX6_isEditor_4 rfl rfl ?_
    refine zs_bipush (v := (nI 6)) hE dX6_isEditor_5 (by decide) ?_
    refine zs_icmp_ge (tgt := 14) hE dX6_isEditor_7 (by decide) (fun h2 => ?_) (fun h2 => ?_)
    · refine zs_iconst (v := (nI 0)) hE dX6_isEditor_14 (by decide) ?_
      refine zs_top (v' := .int (zs_b (sp_i y 6 ≠ none))) (vb0 (fun w => w (sp_i_hi (by decide) h2))) ?_
      exact zs_zret hE hr (zs_bnar _) (⟨rfl, rfl⟩) (by decide) (by decide) dX6_isEditor_15
    · obtain ⟨j, hj, rfl⟩ := sp_dec (n := 6) (by decide) h1 (sp_le_lt h2)
      refine zs_iconst (v := (nI 1)) hE dX6_isEditor_10 (by decide) ?_
      refine zs_goto (tgt := 15) hE dX6_isEditor_11 (by decide) ?_
      refine zs_top (v' := .int (zs_b (sp_i (nI j) 6 ≠ none))) (vb1 (by rw [sp_i_in hj (by decide)]; simp)) ?_
      exact zs_zret hE hr (zs_bnar _) (⟨rfl, rfl⟩) (by decide) (by decide) dX6_isEditor_15

set_option maxHeartbeats 4000000 in
set_option maxRecDepth 100000 in
theorem m_X6_isJuror (D : va_G) (E : Nat → ClassId) (B : Nat) (l : Launch) (y : Int32) : zs_Ct D E B l yX6_isJuror cX6_isJuror 1 (some .boolean) ({ frames := 0, cells := 0, slots := 0, locals := 0 } : Room) [.int y] (fun _ => True) (zs_N) (zs_ro (.int (zs_b (sp_i y 5 ≠ none)))) := by
  refine zs_ct (by decide) (Nat.le_of_ble_eq_true rfl) (fun p e s m below meth c hE hr hin hp => ?_)
  refine zs_lo (lo' := [(0, .int y)]) rfl ?_
  refine zs_iload_n hE 0 dX6_isJuror_0 rfl rfl ?_
  refine zs_if_lt (tgt := 13) hE dX6_isJuror_1 (by decide) (fun h1 => ?_) (fun h1 => ?_)
  · refine zs_iconst (v := (nI 0)) hE dX6_isJuror_13 (by decide) ?_
    refine zs_top (v' := .int (zs_b (sp_i y 5 ≠ none))) (vb0 (fun w => w (sp_i_lo h1))) ?_
    exact zs_zret hE hr (zs_bnar _) (⟨rfl, rfl⟩) (by decide) (by decide) dX6_isJuror_14
  · refine zs_iload_n hE 0 dX6_isJuror_4 rfl rfl ?_
    refine zs_iconst (v := (nI 5)) hE dX6_isJuror_5 (by decide) ?_
    refine zs_icmp_ge (tgt := 13) hE dX6_isJuror_6 (by decide) (fun h2 => ?_) (fun h2 => ?_)
    · refine zs_iconst (v := (nI 0)) hE dX6_isJuror_13 (by decide) ?_
      refine zs_top (v' := .int (zs_b (sp_i y 5 ≠ none))) (vb0 (fun w => w (sp_i_hi (by decide) h2))) ?_
      exact zs_zret hE hr (zs_bnar _) (⟨rfl, rfl⟩) (by decide) (by decide) dX6_isJuror_14
    · obtain ⟨j, hj, rfl⟩ := sp_dec (n := 5) (by decide) h1 (sp_le_lt h2)
      refine zs_iconst (v := (nI 1)) hE dX6_isJuror_9 (by decide) ?_
      refine zs_goto (tgt := 14) hE dX6_isJuror_10 (by decide) ?_
      refine zs_top (v' := .int (zs_b (sp_i (nI j) 5 ≠ none))) (vb1 (by rw [sp_i_in hj (by decide)]; simp)) ?_
      exact zs_zret hE hr (zs_bnar _) (⟨rfl, rfl⟩) (by decide) (by decide) dX6_isJuror_14

set_option maxHeartbeats 4000000 in
set_option maxRecDepth 100000 in
theorem m_X6_countOf (D : va_G) (E : Nat → ClassId) (B : Nat) (l : Launch) (a : Nat) (g : Nat → Nat) (hg : ∀ j, j < 5 → g j ≤ 21) : zs_Ct D E B l yX6_countOf cX6_countOf 6 (some .int) ({ frames := 0, cells := 0, slots := 0, locals := 0 } : Room) [.ref a] (fun H => zs_pt D a (.inl (E 0, 5, .inl (fun j => nI (g j) - 1))) H) (zs_N) (zs_ro (.int (nI (sc_n g 5)))) := by
  refine zs_ct (by decide) (Nat.le_of_ble_eq_true rfl) (fun p e s m below meth c hE hr hin hp => ?_)
  refine zs_lo (lo' := [(0, .ref a)]) rfl ?_
  refine zs_iconst (v := (nI 0)) hE dX6_countOf_0 (by decide) ?_
  refine zs_istore_n (lo' := [(1, .int (nI 0)), (0, .ref a)]) hE dX6_countOf_1 rfl (by decide) rfl ?_
  refine zs_aload_n hE 1 dX6_countOf_2 rfl rfl ?_
  refine zs_astore_n (lo' := [(2, .ref a), (1, .int (nI 0)), (0, .ref a)]) hE dX6_countOf_3 rfl (by decide) rfl ?_
  refine zs_aload_n hE 0 dX6_countOf_4 rfl rfl ?_
  refine zs_alen hE hp rfl dX6_countOf_5 ?_
  refine zs_istore_n (lo' := [(3, .int (nI 5)), (2, .ref a), (1, .int (nI 0)), (0, .ref a)]) hE dX6_countOf_6 rfl (by decide) rfl ?_
  refine zs_iconst (v := (nI 0)) hE dX6_countOf_7 (by decide) ?_
  refine zs_istore (lo' := [(4, .int (nI 0)), (3, .int (nI 5)), (2, .ref a), (1, .int (nI 0)), (0, .ref a)]) hE dX6_countOf_8 (by decide) rfl ?_
  refine zs_sub (lo' := [(4, .int (nI 0)), (1, .int (nI 0)), (2, .ref a), (3, .int (nI 5))]) [0, 3, 2, 1] rfl ?_
  refine zs_ind1 (Hs := fun (i : Nat) => s.heap) (ks := fun (i : Nat) => 0) (ns := fun (i : Nat) => 0) (los := fun (i : Nat) => [(4, .int (nI i)), (1, .int (nI (sc_n g (i)))), (2, .ref a), (3, .int (nI 5))]) (I := fun (i : Nat) => i ≤ 5) (μ := fun (i : Nat) => 5 - i) 0 (Nat.zero_le _) (fun i hi ih => ?_)
  try dsimp only at hi ih ⊢
  refine zs_iload hE 0 dX6_countOf_10 rfl ?_
  refine zs_iload_n hE 3 dX6_countOf_12 rfl rfl ?_
  refine zs_icmp_geN (tgt := 37) hE (by omega) (by decide) dX6_countOf_13 (by decide) (fun h3 => ?_) (fun h => ?_)
  · obtain rfl : i = 5 := by omega
    refine zs_iload_n hE 1 dX6_countOf_37 rfl rfl ?_
    exact zs_iret hE hr (⟨rfl, rfl⟩) (by decide) (by decide) dX6_countOf_38
  · have hgi := hg i h
    refine zs_aload_n hE 2 dX6_countOf_16 rfl rfl ?_
    refine zs_iload hE 0 dX6_countOf_17 rfl ?_
    refine zs_iald hE hp (by omega) (by decide) dX6_countOf_19 ?_
    refine zs_istore (lo' := [(5, .int (nI (g i) - 1)), (4, .int (nI i)), (1, .int (nI (sc_n g (i)))), (2, .ref a), (3, .int (nI 5))]) hE dX6_countOf_20 (by decide) rfl ?_
    refine zs_iload hE 0 dX6_countOf_22 rfl ?_
    refine zs_iconst (v := (-1)) hE dX6_countOf_24 (by decide) ?_
    refine zs_icmp_eq (tgt := 31) hE dX6_countOf_25 (by decide) (fun h4 => ?_) (fun h4 => ?_)
    · have z : g i = 0 := (nI_m1 (by omega)).mp h4
      refine zs_iincN (lo' := [(4, .int (nI (i + 1))), (5, .int (nI (g i) - 1)), (1, .int (nI (sc_n g (i)))), (2, .ref a), (3, .int (nI 5))]) hE 1 dX6_countOf_31 rfl (by decide) rfl ?_
      refine zs_goto (tgt := 10) hE dX6_countOf_34 (by decide) ?_
      refine zs_sub (lo' := [(4, .int (nI (i + 1))), (1, .int (nI (sc_n g (i)))), (2, .ref a), (3, .int (nI 5))]) [0, 2, 3, 4] rfl ?_
      refine zs_lo (lo' := [(4, .int (nI (i + 1))), (1, .int (nI (sc_n g (i + 1)))), (2, .ref a), (3, .int (nI 5))]) (by rw [sc_n0 z]) ?_
      refine zs_sub (lo' := [(4, .int (nI (i + 1))), (1, .int (nI (sc_n g (i + 1)))), (2, .ref a), (3, .int (nI 5))]) [0, 1, 2, 3] rfl ?_
      exact ih (i + 1) (by omega) (by omega)
    · have z : 0 < g i := Nat.pos_of_ne_zero (fun e => h4 ((nI_m1 (by omega)).mpr e))
      refine zs_lo (lo' := [(5, .int (nI (g i - 1))), (4, .int (nI i)), (1, .int (nI (sc_n g (i)))), (2, .ref a), (3, .int (nI 5))]) (by rw [nI_m2 z]) ?_
      refine zs_iincN (lo' := [(1, .int (nI (sc_n g (i) + 1))), (5, .int (nI (g i - 1))), (4, .int (nI i)), (2, .ref a), (3, .int (nI 5))]) hE 2 dX6_countOf_28 rfl (by decide) rfl ?_
      refine zs_iincN (lo' := [(4, .int (nI (i + 1))), (1, .int (nI (sc_n g (i) + 1))), (5, .int (nI (g i - 1))), (2, .ref a), (3, .int (nI 5))]) hE 2 dX6_countOf_31 rfl (by decide) rfl ?_
      refine zs_goto (tgt := 10) hE dX6_countOf_34 (by decide) ?_
      refine zs_sub (lo' := [(4, .int (nI (i + 1))), (1, .int (nI (sc_n g (i) + 1))), (2, .ref a), (3, .int (nI 5))]) [0, 1, 3, 4] rfl ?_
      refine zs_lo (lo' := [(4, .int (nI (i + 1))), (1, .int (nI (sc_n g (i + 1)))), (2, .ref a), (3, .int (nI 5))]) (by rw [sc_n1 z]) ?_
      refine zs_sub (lo' := [(4, .int (nI (i + 1))), (1, .int (nI (sc_n g (i + 1)))), (2, .ref a), (3, .int (nI 5))]) [0, 1, 2, 3] rfl ?_
      exact ih (i + 1) (by omega) (by omega)

set_option maxHeartbeats 4000000 in
set_option maxRecDepth 100000 in
theorem m_X6_sumOf (D : va_G) (E : Nat → ClassId) (B : Nat) (l : Launch) (a : Nat) (g : Nat → Nat) (hg : ∀ j, j < 5 → g j ≤ 21) : zs_Ct D E B l yX6_sumOf cX6_sumOf 6 (some .int) ({ frames := 0, cells := 0, slots := 0, locals := 0 } : Room) [.ref a] (fun H => zs_pt D a (.inl (E 0, 5, .inl (fun j => nI (g j) - 1))) H) (zs_N) (zs_ro (.int (nI (sc_s g 5)))) := by
  refine zs_ct (by decide) (Nat.le_of_ble_eq_true rfl) (fun p e s m below meth c hE hr hin hp => ?_)
  refine zs_lo (lo' := [(0, .ref a)]) rfl ?_
  refine zs_iconst (v := (nI 0)) hE dX6_sumOf_0 (by decide) ?_
  refine zs_istore_n (lo' := [(1, .int (nI 0)), (0, .ref a)]) hE dX6_sumOf_1 rfl (by decide) rfl ?_
  refine zs_aload_n hE 1 dX6_sumOf_2 rfl rfl ?_
  refine zs_astore_n (lo' := [(2, .ref a), (1, .int (nI 0)), (0, .ref a)]) hE dX6_sumOf_3 rfl (by decide) rfl ?_
  refine zs_aload_n hE 0 dX6_sumOf_4 rfl rfl ?_
  refine zs_alen hE hp rfl dX6_sumOf_5 ?_
  refine zs_istore_n (lo' := [(3, .int (nI 5)), (2, .ref a), (1, .int (nI 0)), (0, .ref a)]) hE dX6_sumOf_6 rfl (by decide) rfl ?_
  refine zs_iconst (v := (nI 0)) hE dX6_sumOf_7 (by decide) ?_
  refine zs_istore (lo' := [(4, .int (nI 0)), (3, .int (nI 5)), (2, .ref a), (1, .int (nI 0)), (0, .ref a)]) hE dX6_sumOf_8 (by decide) rfl ?_
  refine zs_sub (lo' := [(4, .int (nI 0)), (1, .int (nI 0)), (2, .ref a), (3, .int (nI 5))]) [0, 3, 2, 1] rfl ?_
  refine zs_ind1 (Hs := fun (i : Nat) => s.heap) (ks := fun (i : Nat) => 0) (ns := fun (i : Nat) => 0) (los := fun (i : Nat) => [(4, .int (nI i)), (1, .int (nI (sc_s g (i)))), (2, .ref a), (3, .int (nI 5))]) (I := fun (i : Nat) => i ≤ 5) (μ := fun (i : Nat) => 5 - i) 0 (Nat.zero_le _) (fun i hi ih => ?_)
  try dsimp only at hi ih ⊢
  refine zs_iload hE 0 dX6_sumOf_10 rfl ?_
  refine zs_iload_n hE 3 dX6_sumOf_12 rfl rfl ?_
  refine zs_icmp_geN (tgt := 39) hE (by omega) (by decide) dX6_sumOf_13 (by decide) (fun h3 => ?_) (fun h => ?_)
  · obtain rfl : i = 5 := by omega
    refine zs_iload_n hE 1 dX6_sumOf_39 rfl rfl ?_
    exact zs_iret hE hr (⟨rfl, rfl⟩) (by decide) (by decide) dX6_sumOf_40
  · have hgi := hg i h
    refine zs_aload_n hE 2 dX6_sumOf_16 rfl rfl ?_
    refine zs_iload hE 0 dX6_sumOf_17 rfl ?_
    refine zs_iald hE hp (by omega) (by decide) dX6_sumOf_19 ?_
    refine zs_istore (lo' := [(5, .int (nI (g i) - 1)), (4, .int (nI i)), (1, .int (nI (sc_s g (i)))), (2, .ref a), (3, .int (nI 5))]) hE dX6_sumOf_20 (by decide) rfl ?_
    refine zs_iload hE 0 dX6_sumOf_22 rfl ?_
    refine zs_iconst (v := (-1)) hE dX6_sumOf_24 (by decide) ?_
    refine zs_icmp_eq (tgt := 33) hE dX6_sumOf_25 (by decide) (fun h4 => ?_) (fun h4 => ?_)
    · have z : g i = 0 := (nI_m1 (by omega)).mp h4
      refine zs_iincN (lo' := [(4, .int (nI (i + 1))), (5, .int (nI (g i) - 1)), (1, .int (nI (sc_s g (i)))), (2, .ref a), (3, .int (nI 5))]) hE 1 dX6_sumOf_33 rfl (by decide) rfl ?_
      refine zs_goto (tgt := 10) hE dX6_sumOf_36 (by decide) ?_
      refine zs_sub (lo' := [(4, .int (nI (i + 1))), (1, .int (nI (sc_s g (i)))), (2, .ref a), (3, .int (nI 5))]) [0, 2, 3, 4] rfl ?_
      refine zs_lo (lo' := [(4, .int (nI (i + 1))), (1, .int (nI (sc_s g (i + 1)))), (2, .ref a), (3, .int (nI 5))]) (by rw [sc_s0 z]) ?_
      refine zs_sub (lo' := [(4, .int (nI (i + 1))), (1, .int (nI (sc_s g (i + 1)))), (2, .ref a), (3, .int (nI 5))]) [0, 1, 2, 3] rfl ?_
      exact ih (i + 1) (by omega) (by omega)
    · have z : 0 < g i := Nat.pos_of_ne_zero (fun e => h4 ((nI_m1 (by omega)).mpr e))
      refine zs_lo (lo' := [(5, .int (nI (g i - 1))), (4, .int (nI i)), (1, .int (nI (sc_s g (i)))), (2, .ref a), (3, .int (nI 5))]) (by rw [nI_m2 z]) ?_
      refine zs_iload_n hE 2 dX6_sumOf_28 rfl rfl ?_
      refine zs_iload hE 0 dX6_sumOf_29 rfl ?_
      refine zs_iaddN hE dX6_sumOf_31 ?_
      refine zs_istore_n (lo' := [(1, .int (nI (sc_s g (i) + (g i - 1)))), (5, .int (nI (g i - 1))), (4, .int (nI i)), (2, .ref a), (3, .int (nI 5))]) hE dX6_sumOf_32 rfl (by decide) rfl ?_
      refine zs_iincN (lo' := [(4, .int (nI (i + 1))), (1, .int (nI (sc_s g (i) + (g i - 1)))), (5, .int (nI (g i - 1))), (2, .ref a), (3, .int (nI 5))]) hE 2 dX6_sumOf_33 rfl (by decide) rfl ?_
      refine zs_goto (tgt := 10) hE dX6_sumOf_36 (by decide) ?_
      refine zs_sub (lo' := [(4, .int (nI (i + 1))), (1, .int (nI (sc_s g (i) + (g i - 1)))), (2, .ref a), (3, .int (nI 5))]) [0, 1, 3, 4] rfl ?_
      refine zs_lo (lo' := [(4, .int (nI (i + 1))), (1, .int (nI (sc_s g (i + 1)))), (2, .ref a), (3, .int (nI 5))]) (by rw [sc_s1]) ?_
      refine zs_sub (lo' := [(4, .int (nI (i + 1))), (1, .int (nI (sc_s g (i + 1)))), (2, .ref a), (3, .int (nI 5))]) [0, 1, 2, 3] rfl ?_
      exact ih (i + 1) (by omega) (by omega)


/-! the calls: each has a code (0: an answer; else the exception's number), an answer, a new state -/
abbrev sp_R3 : Type := Nat × Value × sp_S
def sp_e (k : Nat) (S : sp_S) : sp_R3 := (k, .null, S)
def sp_n (x : Int32) : Nat := x.toInt.toNat
theorem sp_n_nI {a : Nat} (h : a < 2 ^ 31) : sp_n (nI a) = a := by rw [sp_n, nI_toInt h]; rfl
/-- a piece and its first version -/
def s_piece (S : sp_S) (b p : Nat) : sp_S := ((sp_np S + 1, va_up (sp_ba S) (sp_np S) b, va_up (sp_pa S) (sp_np S) p, va_up (sp_fi S) (sp_np S) (sp_nv S), fun i q => if i = sp_np S then 98 else sp_ru S i q), (sp_nv S + 1, va_up (sp_vp S) (sp_nv S) (sp_np S), va_up (sp_q1 S) (sp_nv S) 0, va_up (sp_q2 S) (sp_nv S) 0, va_up (sp_am S) (sp_nv S) (2 ^ sp_nv S), va_up (sp_sv S) (sp_nv S) (fun _ => [(0, [])])), S.2.2)
def s_note (S : sp_S) (t : Nat) : sp_S := (S.1, S.2.1, S.2.2.1, S.2.2.2.1, sp_ty S ++ [t])
def s_wipe (S : sp_S) : sp_S := (S.1, S.2.1, S.2.2.1, S.2.2.2.1, [])
def s_write (S : sp_S) (v e b p : Nat) : sp_S := (S.1, (sp_nv S + 1, va_up (sp_vp S) (sp_nv S) (sp_vp S v), va_up (sp_q1 S) (sp_nv S) (v + 1), va_up (sp_q2 S) (sp_nv S) 0, va_up (sp_am S) (sp_nv S) (sp_am S v ||| 2 ^ sp_nv S), va_up (sp_sv S) (sp_nv S) (va_up (sp_sv S v) (sp_pa S (sp_vp S v) * b + p) [(e, sp_ty S)])), S.2.2.1, S.2.2.2.1, [])
def s_rule (S : sp_S) (i q r : Nat) : sp_S := ((sp_np S, sp_ba S, sp_pa S, sp_fi S, fun j k => if j = i ∧ k = q then r else sp_ru S j k), S.2)
noncomputable def sp_bs (S : sp_S) (v w : Nat) : Option Nat := gr (fun k => (sp_am S v).testBit k = true ∧ (sp_am S w).testBit k = true) (sp_nv S)
noncomputable def sp_bn (S : sp_S) (v w : Nat) : Nat := match sp_bs S v w with | some k => k | none => 0
noncomputable def s_merge0 (S : sp_S) (v w : Nat) : sp_S := (S.1, (sp_nv S + 1, va_up (sp_vp S) (sp_nv S) (sp_vp S v), va_up (sp_q1 S) (sp_nv S) (v + 1), va_up (sp_q2 S) (sp_nv S) (w + 1), va_up (sp_am S) (sp_nv S) (sp_am S v ||| sp_am S w ||| 2 ^ sp_nv S), va_up (sp_sv S) (sp_nv S) (fun k => sp_m1 (sp_ru S (sp_vp S v) (k % sp_pa S (sp_vp S v))) (w < v) (sp_sv S v k) (sp_sv S w k) (sp_sv S (sp_bn S v w) k))), S.2.2)
/-- the marks of those who marked version v: asked again -/
def s_ask1 (S : sp_S) (v n : Nat) : sp_S := (S.1, S.2.1, (sp_hv S, sp_mk S, fun i r j => if i = sp_vp S v ∧ r < n ∧ sp_hv S i r = v + 1 then 0 else sp_ct S i r j), S.2.2.2)
noncomputable def s_ask (S : sp_S) (m v : Nat) : sp_S := pI (sp_un (sp_sl S m) (sp_sl S v) 32 = 0) S (s_ask1 S v 4)
noncomputable def s_merge (S : sp_S) (v w : Nat) : sp_S := s_ask (s_ask (s_merge0 S v w) (sp_nv S) v) (sp_nv S) w
def s_hear0 (S : sp_S) (i r v : Nat) : sp_S := (S.1, S.2.1, (fun j q => if j = i ∧ q = r then v + 1 else sp_hv S j q, fun j q k => if j = i ∧ q = r then 0 else sp_mk S j q k, fun j q k => if j = i ∧ q = r then 0 else sp_ct S j q k), S.2.2.2)
def s_hear (S : sp_S) (i r v : Nat) : sp_S := if sp_hv S i r = v + 1 then S else s_hear0 S i r v
def s_mark (S : sp_S) (i r j t : Nat) : sp_S := (S.1, S.2.1, (sp_hv S, fun i2 r2 j2 => if i2 = i ∧ r2 = r ∧ j2 = j then t else sp_mk S i2 r2 j2, fun i2 r2 j2 => if i2 = i ∧ r2 = r ∧ j2 = j then t else sp_ct S i2 r2 j2), S.2.2.2)
noncomputable def s_give (S : sp_S) (v co : Nat) : sp_S := (S.1, S.2.1, S.2.2.1, (sp_nz S + 1, va_up (sp_zv S) (sp_nz S) v, va_up (sp_zc S) (sp_nz S) co, va_up (sp_zs S) (sp_nz S) (pz_sh (fun e => sp_w (sp_sl S v) (2 ^ e)) (sp_w (sp_sl S v) 63) co)), sp_ty S)
noncomputable def o_piece (S : sp_S) (x y : Int32) : sp_R3 := pI (x < 1 ∨ 8 < x ∨ y < 1 ∨ 4 < y) (sp_e 1 S) (pI (6 ≤ sp_np S ∨ 40 ≤ sp_nv S) (sp_e 2 S) (0, .int (nI (sp_np S)), s_piece S (sp_n x) (sp_n y)))
def o_firstOf (S : sp_S) (x : Int32) : sp_R3 := match sp_i x (sp_np S) with | none => sp_e 1 S | some i => (0, .int (nI (sp_fi S i)), S)
def o_pieceOf (S : sp_S) (x : Int32) : sp_R3 := match sp_i x (sp_nv S) with | none => sp_e 1 S | some v => (0, .int (nI (sp_vp S v)), S)
noncomputable def o_note (S : sp_S) (x : Int32) : sp_R3 := match sp_i x 100 with | none => sp_e 1 S | some t => pI (8 ≤ (sp_ty S).length) (sp_e 2 S) (0, .int (nI ((sp_ty S).length + 1)), s_note S t)
def o_wipe (S : sp_S) : sp_R3 := (0, .int (nI (sp_ty S).length), s_wipe S)
noncomputable def o_write (S : sp_S) (v e b p : Int32) : sp_R3 := match sp_sh S v b p with | none => sp_e 1 S | some _ => (match sp_i e 6 with | none => sp_e 2 S | some _ => pI (40 ≤ sp_nv S) (sp_e 3 S) (0, .int (nI (sp_nv S)), s_write S (sp_n v) (sp_n e) (sp_n b) (sp_n p)))
noncomputable def o_rule (S : sp_S) (i q r : Int32) : sp_R3 := match sp_i i (sp_np S) with | none => sp_e 1 S | some i => (match sp_i q (sp_pa S i) with | none => sp_e 1 S | some q => pI (r ≠ nI 108 ∧ r ≠ nI 110 ∧ r ≠ nI 98) (sp_e 2 S) (0, .int (nI (sp_ru S i q)), s_rule S i q (sp_n r)))
noncomputable def o_merge (S : sp_S) (x y e : Int32) : sp_R3 := match sp_i x (sp_nv S) with | none => sp_e 1 S | some v => (match sp_i y (sp_nv S) with | none => sp_e 1 S | some w => (match sp_i e 6 with | none => sp_e 2 S | some _ => pI (sp_vp S v ≠ sp_vp S w ∨ (sp_am S v).testBit w = true ∨ (sp_am S w).testBit v = true) (sp_e 3 S) (pI (40 ≤ sp_nv S) (sp_e 4 S) (0, .int (nI (sp_nv S)), s_merge S v w))))
noncomputable def o_base (S : sp_S) (x y : Int32) : sp_R3 := match sp_i x (sp_nv S) with | none => sp_e 1 S | some v => (match sp_i y (sp_nv S) with | none => sp_e 1 S | some w => pI (sp_vp S v = sp_vp S w) (0, .int (sp_oi (sp_bs S v w)), S) (sp_e 2 S))
noncomputable def o_isAbove (S : sp_S) (x y : Int32) : sp_R3 := match sp_i x (sp_nv S) with | none => sp_e 1 S | some v => (match sp_i y (sp_nv S) with | none => sp_e 1 S | some w => (0, .int (zs_b ((sp_am S w).testBit v = true)), S))
def o_rows (S : sp_S) (v b p : Int32) : sp_R3 := match sp_sh S v b p with | none => sp_e 1 S | some rs => (0, .int (nI rs.length), S)
def o_noteAt (S : sp_S) (v b p r q : Int32) : sp_R3 := match sp_sh S v b p with | none => sp_e 1 S | some rs => (match sp_i r rs.length with | none => sp_e 2 S | some k => (match sp_i q (rs.getD k sp_d0).2.length with | none => sp_e 2 S | some j => (0, .int (nI ((rs.getD k sp_d0).2.getD j 0)), S)))
def o_writer (S : sp_S) (v b p r : Int32) : sp_R3 := match sp_sh S v b p with | none => sp_e 1 S | some rs => (match sp_i r rs.length with | none => sp_e 2 S | some k => (0, .int (nI (rs.getD k sp_d0).1), S))
def o_doubts (S : sp_S) (x : Int32) : sp_R3 := match sp_i x (sp_nv S) with | none => sp_e 1 S | some v => (0, .int (nI (sp_f (sp_sl S v) (fun rs t => t + (if 1 < rs.length then 1 else 0)) 32 0)), S)
noncomputable def o_unlike (S : sp_S) (x y : Int32) : sp_R3 := match sp_i x (sp_nv S) with | none => sp_e 1 S | some v => (match sp_i y (sp_nv S) with | none => sp_e 1 S | some w => pI (sp_vp S v = sp_vp S w) (0, .int (nI (sp_un (sp_sl S v) (sp_sl S w) 32)), S) (sp_e 2 S))
def o_hear (S : sp_S) (x y : Int32) : sp_R3 := match sp_i y (sp_nv S) with | none => sp_e 1 S | some v => (match sp_i x 4 with | none => sp_e 1 S | some r => (0, .int (nI (sp_hv S (sp_vp S v) r) - 1), s_hear S (sp_vp S v) r v))
noncomputable def o_mark (S : sp_S) (x y z t : Int32) : sp_R3 := match sp_i y 4 with | none => sp_e 1 S | some r => (match sp_i z (sp_np S) with | none => sp_e 1 S | some i => (match sp_i x 5 with | none => sp_e 1 S | some j => (match sp_i t 21 with | none => sp_e 2 S | some u => pI (sp_hv S i r = 0) (sp_e 3 S) (0, .int (nI (sp_mk S i r j) - 1), s_mark S i r j (u + 1)))))
noncomputable def o_affirm (S : sp_S) (x y z : Int32) : sp_R3 := match sp_i y 4 with | none => sp_e 1 S | some r => (match sp_i z (sp_np S) with | none => sp_e 1 S | some i => (match sp_i x 5 with | none => sp_e 1 S | some j => pI (sp_mk S i r j = 0 ∨ sp_ct S i r j ≠ 0) (sp_e 2 S) (0, .int (nI (sp_mk S i r j) - 1), s_mark S i r j (sp_mk S i r j))))
def o_asked (S : sp_S) : sp_R3 := (0, .int (nI (sp_mt S) - nI (sp_mc S)), S)
def o_points (S : sp_S) (x y : Int32) : sp_R3 := match sp_i x 4 with | none => sp_e 1 S | some r => (match sp_i y (sp_np S) with | none => sp_e 1 S | some i => (0, .int (nI (sp_pt (sp_ct S i r))), S))
noncomputable def o_ranked (S : sp_S) (x : Int32) : sp_R3 := match sp_pr S x with | none => sp_e 1 S | some j => (0, .int (nI j), S)
noncomputable def o_isTied (S : sp_S) (x : Int32) : sp_R3 := match sp_i x (sp_np S) with | none => sp_e 1 S | some i => (0, .int (zs_b (∃ j, j < sp_np S ∧ j ≠ i ∧ sp_op S j = sp_op S i)), S)
noncomputable def o_give (S : sp_S) (x y : Int32) : sp_R3 := match sp_pr S x with | none => sp_e 1 S | some i => pI (y < 1 ∨ nI 9999 < y) (sp_e 2 S) (pI (sp_lh S i = 0) (sp_e 3 S) (pI (12 ≤ sp_nz S) (sp_e 4 S) (0, .int (nI (sp_nz S)), s_give S (sp_lh S i - 1) (sp_n y))))
def o_named (S : sp_S) (x : Int32) : sp_R3 := match sp_i x (sp_nz S) with | none => sp_e 1 S | some z => (0, .int (nI (sp_zv S z)), S)
def o_share (S : sp_S) (x y : Int32) : sp_R3 := match sp_i x (sp_nz S) with | none => sp_e 1 S | some z => (match sp_i y 6 with | none => sp_e 1 S | some e => (0, .int (nI (sp_zs S z e)), S))
def o_got (S : sp_S) (x : Int32) : sp_R3 := match sp_i x 6 with | none => sp_e 1 S | some e => (0, .int (nI (sm (fun z => sp_zs S z e) (sp_nz S))), S)
def o_partsOf (S : sp_S) (x y : Int32) : sp_R3 := match sp_i x (sp_nv S) with | none => sp_e 1 S | some v => (match sp_i y 64 with | none => sp_e 2 S | some e => (0, .int (nI (sp_w (sp_sl S v) e)), S))
def o_versions (S : sp_S) : sp_R3 := (0, .int (nI (sp_nv S)), S)
def o_checksum (S : sp_S) (x : Int32) : sp_R3 := match sp_i x (sp_nv S) with | none => sp_e 1 S | some v => (0, .long (sp_f (sp_sl S v) (fun rs t => sp_ss rs t rs.length) 32 7), S)
def o_isSound (S : sp_S) : sp_R3 := (0, .int (nI 1), S)
/-! how the class keeps its cells over a call -/
def cs_F (κ : Nat → Nat) : Nat → Prop := fun q => 0 < κ q ∧ κ q < 500
def cs_to (D : va_G) (E : Nat → ClassId) (κ : Nat → Nat) (S : sp_S) (x : Nat) (H H1 : Heap) : Prop := H.size ≤ H1.size ∧ ∃ κ' : Nat → Nat, cs_X D E κ' S x H1 ∧ ∀ q, q < H.size → κ' q = κ q
def op_Q (D : va_G) (E : Nat → ClassId) (κ : Nat → Nat) (x : Nat) (o : sp_R3) : Option Value → Heap → Heap → Prop := fun v H H1 => o.1 = 0 ∧ v = some o.2.1 ∧ cs_to D E κ o.2.2 x H H1
def op_X (D : va_G) (E : Nat → ClassId) (κ : Nat → Nat) (x : Nat) (S : sp_S) (o : sp_R3) (L : List String) : String → Heap → Heap → Prop := fun cls H H1 => ∃ k, L[k]? = some cls ∧ o = sp_e (k + 1) S ∧ cs_to D E κ S x H H1
theorem cs_P.mv {D : va_G} {E : Nat → ClassId} {κ : Nat → Nat} {H H1 : Heap} {lp : Nat → Option Nat} {S : sp_S} (h : cs_P D E κ H lp S) (hk : ∀ q, q < H.size → κ q < 500 → H1[q]? = H[q]?) (h6 : sp_np S ≤ 6) : cs_P D E κ H1 lp S := fun i hi => by
  obtain ⟨a, r, h1, h2, h3, h4, h5⟩ := h i hi
  exact ⟨a, r, h1, h2, h3, h4.kept (hk _ h4.lt (by omega)), h5.kept (hk _ h5.lt (by omega))⟩
theorem cs_V.mv {D : va_G} {E : Nat → ClassId} {κ : Nat → Nat} {H H1 : Heap} {lv : Nat → Option Nat} {S : sp_S} (h : cs_V D E κ H lv S) (hk : ∀ q, q < H.size → κ q = 0 → H1[q]? = H[q]?) : cs_V D E κ H1 lv S := fun v hv => (h v hv).imp fun a z => ⟨z.1, z.2.kept hk⟩
theorem cs_h.mv {D : va_G} {E : Nat → ClassId} {κ : Nat → Nat} {H H1 : Heap} {k a t g hv : Nat} {mk ct : Nat → Nat} (h : cs_h D E κ H k a t g hv mk ct) (hk : ∀ q, q < H.size → (q = a ∨ q = t ∨ q = g) → H1[q]? = H[q]?) : cs_h D E κ H1 k a t g hv mk ct := by
  obtain ⟨h1, h2, h3, h4, h5, h6⟩ := h
  exact ⟨h1, h2, h3, h4.kept (hk _ h4.lt (Or.inl rfl)), h5.kept (hk _ h5.lt (Or.inr (Or.inl rfl))), h6.kept (hk _ h6.lt (Or.inr (Or.inr rfl)))⟩
theorem cs_G.mv {D : va_G} {E : Nat → ClassId} {κ : Nat → Nat} {H H1 : Heap} {lh : Nat → Option Nat} {S : sp_S} (h : cs_G D E κ H lh S) (hk : ∀ q, q < H.size → 200 ≤ κ q → κ q < 500 → H1[q]? = H[q]?) (h6 : sp_np S ≤ 6) : cs_G D E κ H1 lh S := ⟨h.1, fun k hk4 => by
  obtain ⟨a, t, g, h1, h2⟩ := h.2 k hk4
  have h3 := h2
  obtain ⟨e1, e2, e3, -⟩ := h3
  exact ⟨a, t, g, h1, h2.mv (fun q z w => hk q z (by rcases w with rfl | rfl | rfl <;> omega) (by rcases w with rfl | rfl | rfl <;> omega))⟩⟩
theorem cs_Z.mv {D : va_G} {E : Nat → ClassId} {κ : Nat → Nat} {H H1 : Heap} {lz : Nat → Option Nat} {S : sp_S} (h : cs_Z D E κ H lz S) (hk : ∀ q, q < H.size → κ q = 0 → H1[q]? = H[q]?) : cs_Z D E κ H1 lz S := fun z hz => by
  obtain ⟨a, g, h1, h2, h3, h4, h5⟩ := h z hz
  exact ⟨a, g, h1, h2, h3, h4.kept (hk _ h4.lt h2), h5.kept (hk _ h5.lt h3)⟩
theorem cs_X.mv {D : va_G} {E : Nat → ClassId} {κ : Nat → Nat} {S : sp_S} {x : Nat} {H H1 : Heap} (h : cs_X D E κ S x H) (hz : H.size ≤ H1.size) (hk : ∀ q, q < H.size → κ q < 500 → H1[q]? = H[q]?) (h6 : sp_np S ≤ 6) : cs_X D E κ S x H1 := by
  obtain ⟨a1, a2, a3, a4, a5, lp, lv, lh, lz, tg, ⟨t0, t1, t2, t3, t4, t5, hx, r1, r2, r3, r4, r5⟩, htg, hP, hV, hG, hZ, hκ⟩ := h
  exact ⟨a1, a2, a3, a4, a5, lp, lv, lh, lz, tg, ⟨t0, t1, t2, t3, t4, t5, hx.kept (hk _ hx.lt (by omega)), r1.kept (hk _ r1.lt (by omega)), r2.kept (hk _ r2.lt (by omega)), r3.kept (hk _ r3.lt (by omega)), r4.kept (hk _ r4.lt (by omega)), r5.kept (hk _ r5.lt (by omega))⟩, htg, hP.mv hk h6, hV.mv (fun q z w => hk q z (by omega)), hG.mv (fun q z _ w => hk q z w) h6, hZ.mv (fun q z w => hk q z (by omega)), fun q hq => hκ q (by omega)⟩
theorem cs_to.rf {D : va_G} {E : Nat → ClassId} {κ : Nat → Nat} {S : sp_S} {x : Nat} {H : Heap} (h : cs_X D E κ S x H) : cs_to D E κ S x H H := ⟨Nat.le_refl _, κ, h, fun _ _ => rfl⟩
theorem op_ro {D : va_G} {E : Nat → ClassId} {κ : Nat → Nat} {S : sp_S} {x : Nat} {H : Heap} {o : sp_R3} {v : Value} (h : cs_X D E κ S x H) (ho : o = (0, v, S)) : op_Q D E κ x o (some v) H H := by
  subst ho
  exact ⟨rfl, rfl, cs_to.rf h⟩
theorem op_th {D : va_G} {E : Nat → ClassId} {κ : Nat → Nat} {S : sp_S} {x : Nat} {H : Heap} {o : sp_R3} {L : List String} {cls : String} (h : cs_W D E κ S x H) (k : Nat) (hL : L[k]? = some cls) (ho : o = sp_e (k + 1) S) : ∀ H1 : Heap, H.size ≤ H1.size → (∀ q, q < H.size → H1[q]? = H[q]?) → op_X D E κ x S o L cls H H1 := fun H1 hz hk => ⟨k, hL, ho, hz, κ, h.1.mv hz (fun q z _ => hk q z) h.2.1.1, fun _ _ => rfl⟩

set_option maxHeartbeats 4000000 in
set_option maxRecDepth 100000 in
theorem m_X6_firstOf (D : va_G) (E : Nat → ClassId) (B : Nat) (l : Launch) (hl : l.stackTraces = false) (κ : Nat → Nat) (S : sp_S) (x : Nat) (y : Int32) : zs_Cx D E B l yX6_firstOf cX6_firstOf 3 (some .int) ({ frames := 6, cells := 1, slots := 6, locals := 90 } : Room) [.ref x, .int y] (fun H => cs_W D E κ S x H) (cs_F κ) (op_Q D E κ x (o_firstOf S y)) (op_X D E κ x S (o_firstOf S y) ["java/lang/IndexOutOfBoundsException"]) := by
  refine zs_cx (by decide) (Nat.le_of_ble_eq_true rfl) (fun p e s m below meth c hE hr htab hp => ?_)
  refine zs_lo (lo' := [(0, .ref x), (1, .int y)]) rfl ?_
  obtain ⟨hX0, hw⟩ := id hp
  obtain ⟨a1, a2, a3, a4, a5, lp, lv, lh, lz, tg, ⟨t0, t1, t2, t3, t4, t5, hx, r1, r2, r3, r4, r5⟩, htg, hP, hV, hG, hZ, hκ⟩ := hX0
  obtain ⟨wN, wP, wV, wA, wH, wZ, wF⟩ := id hw
  obtain ⟨n6, n40, n12, n8, n99⟩ := id wN
  refine zs_aload_n hE 0 dX6_firstOf_0 rfl rfl ?_
  refine zs_iload_n hE 1 dX6_firstOf_1 rfl rfl ?_
  refine zs_callVR (av := [.int y]) (st := []) (b := x) hE (m_X6_pieceAt D E B l x a1 (sp_np S) lp y .null .null (.ref a2) (.int (nI (sp_nv S))) (.ref a3) (.ref a4) (.int (nI (sp_nz S))) (.ref a5) (.int (nI (sp_ty S).length)) n6) rfl rfl sV_X6_70 hx rfl rfl (⟨hx, r1⟩) ⟨by decide, by decide⟩ ⟨by decide, by decide⟩ (Nat.le_of_ble_eq_true rfl) dX6_firstOf_2 ?_
  refine zs_astore_nq (lo' := [(2, va_rf (sp_at y (sp_np S) lp)), (0, .ref x), (1, .int y)]) hE dX6_firstOf_5 rfl (by decide) rfl ?_
  refine zs_aload_nq hE 0 dX6_firstOf_6 rfl rfl ?_
  refine zs_ifnonnull (tgt := 20) hE dX6_firstOf_7 (by decide) (fun o1 h1 => ?_) (fun h1 => ?_)
  · obtain ⟨i, ei⟩ : ∃ i, sp_i y (sp_np S) = some i := by cases w : sp_i y (sp_np S) with | none => (rw [sp_at_no w] at h1; cases h1) | some j => exact ⟨j, rfl⟩
    obtain ⟨pa, pr, pe, -, -, ph, pq⟩ := hP i (sp_i_lt ei).1
    refine zs_lo (lo' := [(2, .ref pa), (0, .ref x), (1, .int y)]) (by rw [sp_at_yes ei, pe]; rfl) ?_
    refine zs_aload_n hE 0 dX6_firstOf_20 rfl rfl ?_
    refine zs_get hE fl_X6_79 ph rfl dX6_firstOf_21 ?_
    exact zs_iretX hE hr (op_ro hp.1 (by rw [o_firstOf, ei])) (by decide) (by decide) dX6_firstOf_24
  · exact zs_throw hE hl htab th_X6_74_76_78 dX6_firstOf_10 dX6_firstOf_13 dX6_firstOf_14 dX6_firstOf_16 dX6_firstOf_19 (by decide) (Nat.le_of_ble_eq_true rfl) (by decide) (by decide) (op_th hp 0 rfl (by rw [o_firstOf]; cases e : sp_i y (sp_np S) with | none => rfl | some i => (obtain ⟨a, r, e1, -⟩ := hP i (sp_i_lt e).1; rw [sp_at_yes e, e1] at h1; cases h1))) (by decide) (by decide)

set_option maxHeartbeats 4000000 in
set_option maxRecDepth 100000 in
theorem m_X6_pieceOf (D : va_G) (E : Nat → ClassId) (B : Nat) (l : Launch) (hl : l.stackTraces = false) (κ : Nat → Nat) (S : sp_S) (x : Nat) (y : Int32) : zs_Cx D E B l yX6_pieceOf cX6_pieceOf 3 (some .int) ({ frames := 6, cells := 1, slots := 6, locals := 90 } : Room) [.ref x, .int y] (fun H => cs_W D E κ S x H) (cs_F κ) (op_Q D E κ x (o_pieceOf S y)) (op_X D E κ x S (o_pieceOf S y) ["java/lang/IndexOutOfBoundsException"]) := by
  refine zs_cx (by decide) (Nat.le_of_ble_eq_true rfl) (fun p e s m below meth c hE hr htab hp => ?_)
  refine zs_lo (lo' := [(0, .ref x), (1, .int y)]) rfl ?_
  obtain ⟨hX0, hw⟩ := id hp
  obtain ⟨a1, a2, a3, a4, a5, lp, lv, lh, lz, tg, ⟨t0, t1, t2, t3, t4, t5, hx, r1, r2, r3, r4, r5⟩, htg, hP, hV, hG, hZ, hκ⟩ := hX0
  obtain ⟨wN, wP, wV, wA, wH, wZ, wF⟩ := id hw
  obtain ⟨n6, n40, n12, n8, n99⟩ := id wN
  refine zs_aload_n hE 0 dX6_pieceOf_0 rfl rfl ?_
  refine zs_iload_n hE 1 dX6_pieceOf_1 rfl rfl ?_
  refine zs_callVR (av := [.int y]) (st := []) (b := x) hE (m_X6_versionAt D E B l x a2 (sp_nv S) lv y (.ref a1) (.int (nI (sp_np S))) .null .null (.ref a3) (.ref a4) (.int (nI (sp_nz S))) (.ref a5) (.int (nI (sp_ty S).length)) n40) rfl rfl sV_X6_82 hx rfl rfl (⟨hx, r2⟩) ⟨by decide, by decide⟩ ⟨by decide, by decide⟩ (Nat.le_of_ble_eq_true rfl) dX6_pieceOf_2 ?_
  refine zs_astore_nq (lo' := [(2, va_rf (sp_at y (sp_nv S) lv)), (0, .ref x), (1, .int y)]) hE dX6_pieceOf_5 rfl (by decide) rfl ?_
  refine zs_aload_nq hE 0 dX6_pieceOf_6 rfl rfl ?_
  refine zs_ifnonnull (tgt := 20) hE dX6_pieceOf_7 (by decide) (fun o1 h1 => ?_) (fun h1 => ?_)
  · obtain ⟨v, ev⟩ : ∃ i0, sp_i y (sp_nv S) = some i0 := by cases w : sp_i y (sp_nv S) with | none => (rw [sp_at_no w] at h1; cases h1) | some j0 => exact ⟨j0, rfl⟩
    obtain ⟨va, vae, vav⟩ := hV.yes ev
    obtain ⟨y0, y1, y2, y3, yh, yf, y4, ⟨y5, y6⟩, y7⟩ := id vav
    refine zs_lo (lo' := [(2, .ref va), (0, .ref x), (1, .int y)]) (by rw [vae]; rfl) ?_
    refine zs_aload_n hE 0 dX6_pieceOf_20 rfl rfl ?_
    refine zs_get hE fl_X6_88 y5 rfl dX6_pieceOf_21 ?_
    exact zs_iretX hE hr (op_ro hp.1 (by rw [o_pieceOf, ev])) (by decide) (by decide) dX6_pieceOf_24
  · exact zs_throw hE hl htab th_X6_74_86_78 dX6_pieceOf_10 dX6_pieceOf_13 dX6_pieceOf_14 dX6_pieceOf_16 dX6_pieceOf_19 (by decide) (Nat.le_of_ble_eq_true rfl) (by decide) (by decide) (op_th hp 0 rfl (by rw [o_pieceOf]; cases e : sp_i y (sp_nv S) with | none => rfl | some i => (obtain ⟨a, e1, -⟩ := hV.yes e; rw [e1] at h1; cases h1))) (by decide) (by decide)

set_option maxHeartbeats 4000000 in
set_option maxRecDepth 100000 in
theorem m_X6_doubts (D : va_G) (E : Nat → ClassId) (B : Nat) (l : Launch) (hl : l.stackTraces = false) (κ : Nat → Nat) (S : sp_S) (x : Nat) (y : Int32) : zs_Cx D E B l yX6_doubts cX6_doubts 3 (some .int) ({ frames := 6, cells := 1, slots := 6, locals := 90 } : Room) [.ref x, .int y] (fun H => cs_W D E κ S x H) (cs_F κ) (op_Q D E κ x (o_doubts S y)) (op_X D E κ x S (o_doubts S y) ["java/lang/IndexOutOfBoundsException"]) := by
  refine zs_cx (by decide) (Nat.le_of_ble_eq_true rfl) (fun p e s m below meth c hE hr htab hp => ?_)
  refine zs_lo (lo' := [(0, .ref x), (1, .int y)]) rfl ?_
  obtain ⟨hX0, hw⟩ := id hp
  obtain ⟨a1, a2, a3, a4, a5, lp, lv, lh, lz, tg, ⟨t0, t1, t2, t3, t4, t5, hx, r1, r2, r3, r4, r5⟩, htg, hP, hV, hG, hZ, hκ⟩ := hX0
  obtain ⟨wN, wP, wV, wA, wH, wZ, wF⟩ := id hw
  obtain ⟨n6, n40, n12, n8, n99⟩ := id wN
  refine zs_aload_n hE 0 dX6_doubts_0 rfl rfl ?_
  refine zs_iload_n hE 1 dX6_doubts_1 rfl rfl ?_
  refine zs_callVR (av := [.int y]) (st := []) (b := x) hE (m_X6_versionAt D E B l x a2 (sp_nv S) lv y (.ref a1) (.int (nI (sp_np S))) .null .null (.ref a3) (.ref a4) (.int (nI (sp_nz S))) (.ref a5) (.int (nI (sp_ty S).length)) n40) rfl rfl sV_X6_82 hx rfl rfl (⟨hx, r2⟩) ⟨by decide, by decide⟩ ⟨by decide, by decide⟩ (Nat.le_of_ble_eq_true rfl) dX6_doubts_2 ?_
  refine zs_astore_nq (lo' := [(2, va_rf (sp_at y (sp_nv S) lv)), (0, .ref x), (1, .int y)]) hE dX6_doubts_5 rfl (by decide) rfl ?_
  refine zs_aload_nq hE 0 dX6_doubts_6 rfl rfl ?_
  refine zs_ifnonnull (tgt := 20) hE dX6_doubts_7 (by decide) (fun o1 h1 => ?_) (fun h1 => ?_)
  · obtain ⟨v, ev⟩ : ∃ i0, sp_i y (sp_nv S) = some i0 := by cases w : sp_i y (sp_nv S) with | none => (rw [sp_at_no w] at h1; cases h1) | some j0 => exact ⟨j0, rfl⟩
    obtain ⟨va, vae, vav⟩ := hV.yes ev
    obtain ⟨y0, y1, y2, y3, yh, yf, y4, ⟨y5, y6⟩, y7⟩ := id vav
    refine zs_lo (lo' := [(2, .ref va), (0, .ref x), (1, .int y)]) (by rw [vae]; rfl) ?_
    refine zs_aload_n hE 0 dX6_doubts_20 rfl rfl ?_
    refine zs_callVR (av := []) (st := []) (b := va) hE (m_X5_sheavesInDoubt D E B l κ va v (sp_vp S v) (sp_am S v) (sp_wfr S v) (sp_sl S v)) rfl rfl sV_X6_200 y5 rfl rfl (vav) ⟨by decide, by decide⟩ ⟨by decide, by decide⟩ (Nat.le_of_ble_eq_true rfl) dX6_doubts_21 ?_
    exact zs_iretX hE hr (op_ro hp.1 (by rw [o_doubts, ev])) (by decide) (by decide) dX6_doubts_24
  · exact zs_throw hE hl htab th_X6_74_86_78 dX6_doubts_10 dX6_doubts_13 dX6_doubts_14 dX6_doubts_16 dX6_doubts_19 (by decide) (Nat.le_of_ble_eq_true rfl) (by decide) (by decide) (op_th hp 0 rfl (by rw [o_doubts]; cases e : sp_i y (sp_nv S) with | none => rfl | some i => (obtain ⟨a, e1, -⟩ := hV.yes e; rw [e1] at h1; cases h1))) (by decide) (by decide)

set_option maxHeartbeats 4000000 in
set_option maxRecDepth 100000 in
theorem m_X6_checksum (D : va_G) (E : Nat → ClassId) (B : Nat) (l : Launch) (hl : l.stackTraces = false) (κ : Nat → Nat) (S : sp_S) (x : Nat) (y : Int32) : zs_Cx D E B l yX6_checksum cX6_checksum 3 (some .long) ({ frames := 6, cells := 1, slots := 6, locals := 90 } : Room) [.ref x, .int y] (fun H => cs_W D E κ S x H) (cs_F κ) (op_Q D E κ x (o_checksum S y)) (op_X D E κ x S (o_checksum S y) ["java/lang/IndexOutOfBoundsException"]) := by
  refine zs_cx (by decide) (Nat.le_of_ble_eq_true rfl) (fun p e s m below meth c hE hr htab hp => ?_)
  refine zs_lo (lo' := [(0, .ref x), (1, .int y)]) rfl ?_
  obtain ⟨hX0, hw⟩ := id hp
  obtain ⟨a1, a2, a3, a4, a5, lp, lv, lh, lz, tg, ⟨t0, t1, t2, t3, t4, t5, hx, r1, r2, r3, r4, r5⟩, htg, hP, hV, hG, hZ, hκ⟩ := hX0
  obtain ⟨wN, wP, wV, wA, wH, wZ, wF⟩ := id hw
  obtain ⟨n6, n40, n12, n8, n99⟩ := id wN
  refine zs_aload_n hE 0 dX6_checksum_0 rfl rfl ?_
  refine zs_iload_n hE 1 dX6_checksum_1 rfl rfl ?_
  refine zs_callVR (av := [.int y]) (st := []) (b := x) hE (m_X6_versionAt D E B l x a2 (sp_nv S) lv y (.ref a1) (.int (nI (sp_np S))) .null .null (.ref a3) (.ref a4) (.int (nI (sp_nz S))) (.ref a5) (.int (nI (sp_ty S).length)) n40) rfl rfl sV_X6_82 hx rfl rfl (⟨hx, r2⟩) ⟨by decide, by decide⟩ ⟨by decide, by decide⟩ (Nat.le_of_ble_eq_true rfl) dX6_checksum_2 ?_
  refine zs_astore_nq (lo' := [(2, va_rf (sp_at y (sp_nv S) lv)), (0, .ref x), (1, .int y)]) hE dX6_checksum_5 rfl (by decide) rfl ?_
  refine zs_aload_nq hE 0 dX6_checksum_6 rfl rfl ?_
  refine zs_ifnonnull (tgt := 20) hE dX6_checksum_7 (by decide) (fun o1 h1 => ?_) (fun h1 => ?_)
  · obtain ⟨v, ev⟩ : ∃ i0, sp_i y (sp_nv S) = some i0 := by cases w : sp_i y (sp_nv S) with | none => (rw [sp_at_no w] at h1; cases h1) | some j0 => exact ⟨j0, rfl⟩
    obtain ⟨va, vae, vav⟩ := hV.yes ev
    obtain ⟨y0, y1, y2, y3, yh, yf, y4, ⟨y5, y6⟩, y7⟩ := id vav
    refine zs_lo (lo' := [(2, .ref va), (0, .ref x), (1, .int y)]) (by rw [vae]; rfl) ?_
    refine zs_aload_n hE 0 dX6_checksum_20 rfl rfl ?_
    refine zs_callVR (av := []) (st := []) (b := va) hE (m_X5_sum D E B l κ va v (sp_vp S v) (sp_am S v) (sp_wfr S v) (sp_sl S v)) rfl rfl sV_X6_303 y5 rfl rfl (vav) ⟨by decide, by decide⟩ ⟨by decide, by decide⟩ (Nat.le_of_ble_eq_true rfl) dX6_checksum_21 ?_
    exact zs_lretX hE hr (op_ro hp.1 (by rw [o_checksum, ev])) (by decide) (by decide) dX6_checksum_24
  · exact zs_throw hE hl htab th_X6_74_86_78 dX6_checksum_10 dX6_checksum_13 dX6_checksum_14 dX6_checksum_16 dX6_checksum_19 (by decide) (Nat.le_of_ble_eq_true rfl) (by decide) (by decide) (op_th hp 0 rfl (by rw [o_checksum]; cases e : sp_i y (sp_nv S) with | none => rfl | some i => (obtain ⟨a, e1, -⟩ := hV.yes e; rw [e1] at h1; cases h1))) (by decide) (by decide)

set_option maxHeartbeats 4000000 in
set_option maxRecDepth 100000 in
theorem m_X6_versions (D : va_G) (E : Nat → ClassId) (B : Nat) (l : Launch) (κ : Nat → Nat) (S : sp_S) (x : Nat) : zs_Ct D E B l yX6_versions cX6_versions 1 (some .int) ({ frames := 0, cells := 0, slots := 0, locals := 0 } : Room) [.ref x] (fun H => cs_W D E κ S x H) (cs_F κ) (op_Q D E κ x (o_versions S)) := by
  refine zs_ct (by decide) (Nat.le_of_ble_eq_true rfl) (fun p e s m below meth c hE hr hin hp => ?_)
  refine zs_lo (lo' := [(0, .ref x)]) rfl ?_
  obtain ⟨hX0, hw⟩ := id hp
  obtain ⟨a1, a2, a3, a4, a5, lp, lv, lh, lz, tg, ⟨t0, t1, t2, t3, t4, t5, hx, r1, r2, r3, r4, r5⟩, htg, hP, hV, hG, hZ, hκ⟩ := hX0
  obtain ⟨wN, wP, wV, wA, wH, wZ, wF⟩ := id hw
  obtain ⟨n6, n40, n12, n8, n99⟩ := id wN
  refine zs_aload_n hE 0 dX6_versions_0 rfl rfl ?_
  refine zs_get hE fl_X6_48 hx rfl dX6_versions_1 ?_
  exact zs_iret hE hr (op_ro hp.1 (rfl)) (by decide) (by decide) dX6_versions_4

set_option maxHeartbeats 4000000 in
set_option maxRecDepth 100000 in
theorem m_X6_partsOf (D : va_G) (E : Nat → ClassId) (B : Nat) (l : Launch) (hl : l.stackTraces = false) (κ : Nat → Nat) (S : sp_S) (x : Nat) (y z : Int32) : zs_Cx D E B l yX6_partsOf cX6_partsOf 4 (some .int) ({ frames := 6, cells := 1, slots := 6, locals := 90 } : Room) [.ref x, .int y, .int z] (fun H => cs_W D E κ S x H) (cs_F κ) (op_Q D E κ x (o_partsOf S y z)) (op_X D E κ x S (o_partsOf S y z) ["java/lang/IndexOutOfBoundsException", "java/lang/IllegalArgumentException"]) := by
  refine zs_cx (by decide) (Nat.le_of_ble_eq_true rfl) (fun p e s m below meth c hE hr htab hp => ?_)
  refine zs_lo (lo' := [(0, .ref x), (1, .int y), (2, .int z)]) rfl ?_
  obtain ⟨hX0, hw⟩ := id hp
  obtain ⟨a1, a2, a3, a4, a5, lp, lv, lh, lz, tg, ⟨t0, t1, t2, t3, t4, t5, hx, r1, r2, r3, r4, r5⟩, htg, hP, hV, hG, hZ, hκ⟩ := hX0
  obtain ⟨wN, wP, wV, wA, wH, wZ, wF⟩ := id hw
  obtain ⟨n6, n40, n12, n8, n99⟩ := id wN
  refine zs_aload_n hE 0 dX6_partsOf_0 rfl rfl ?_
  refine zs_iload_n hE 1 dX6_partsOf_1 rfl rfl ?_
  refine zs_callVR (av := [.int y]) (st := []) (b := x) hE (m_X6_versionAt D E B l x a2 (sp_nv S) lv y (.ref a1) (.int (nI (sp_np S))) .null .null (.ref a3) (.ref a4) (.int (nI (sp_nz S))) (.ref a5) (.int (nI (sp_ty S).length)) n40) rfl rfl sV_X6_82 hx rfl rfl (⟨hx, r2⟩) ⟨by decide, by decide⟩ ⟨by decide, by decide⟩ (Nat.le_of_ble_eq_true rfl) dX6_partsOf_2 ?_
  refine zs_astore_nq (lo' := [(3, va_rf (sp_at y (sp_nv S) lv)), (0, .ref x), (1, .int y), (2, .int z)]) hE dX6_partsOf_5 rfl (by decide) rfl ?_
  refine zs_aload_nq hE 0 dX6_partsOf_6 rfl rfl ?_
  refine zs_ifnonnull (tgt := 20) hE dX6_partsOf_7 (by decide) (fun o1 h1 => ?_) (fun h1 => ?_)
  · obtain ⟨v, ev⟩ : ∃ i0, sp_i y (sp_nv S) = some i0 := by cases w : sp_i y (sp_nv S) with | none => (rw [sp_at_no w] at h1; cases h1) | some j0 => exact ⟨j0, rfl⟩
    obtain ⟨va, vae, vav⟩ := hV.yes ev
    obtain ⟨y0, y1, y2, y3, yh, yf, y4, ⟨y5, y6⟩, y7⟩ := id vav
    refine zs_lo (lo' := [(3, .ref va), (0, .ref x), (1, .int y), (2, .int z)]) (by rw [vae]; rfl) ?_
    refine zs_iload_n hE 3 dX6_partsOf_20 rfl rfl ?_
    refine zs_if_lt (tgt := 30) hE dX6_partsOf_21 (by decide) (fun h2 => ?_) (fun h2 => ?_)
    · exact zs_throwW hE hl htab th_X6_37_288_41 dX6_partsOf_30 dX6_partsOf_33 dX6_partsOf_34 dX6_partsOf_37 dX6_partsOf_40 (by decide) (Nat.le_of_ble_eq_true rfl) (by decide) (by decide) (op_th hp 1 rfl (by rw [o_partsOf, ev]; simp only []; rw [sp_i_lo h2])) (by decide) (by decide)
    · refine zs_iload_n hE 3 dX6_partsOf_24 rfl rfl ?_
      refine zs_bipush (v := (nI 63)) hE dX6_partsOf_25 (by decide) ?_
      refine zs_icmp_le (tgt := 41) hE dX6_partsOf_27 (by decide) (fun h3 => ?_) (fun h3 => ?_)
      · obtain ⟨ed, he, rfl⟩ := sp_dec (n := 64) (by decide) h2 (by rw [Int32.lt_iff_toInt_lt]; rw [Int32.le_iff_toInt_le] at h3; have e63 : (nI 63).toInt = 63 := rfl; have e64 : (nI 64).toInt = 64 := rfl; omega)
        refine zs_aload_n hE 0 dX6_partsOf_41 rfl rfl ?_
        refine zs_iload_n hE 3 dX6_partsOf_42 rfl rfl ?_
        refine zs_callVR (av := [.int (nI ed)]) (st := []) (b := va) hE (m_X5_partsBy D E B l κ va v (sp_vp S v) (sp_am S v) ed (sp_wfr S v) (sp_sl S v) he) rfl rfl sV_X6_290 y5 rfl rfl (vav) ⟨by decide, by decide⟩ ⟨by decide, by decide⟩ (Nat.le_of_ble_eq_true rfl) dX6_partsOf_43 ?_
        exact zs_iretX hE hr (op_ro hp.1 (by rw [o_partsOf, ev]; simp only []; rw [sp_i_in he (by decide)]; rfl)) (by decide) (by decide) dX6_partsOf_46
      · exact zs_throwW hE hl htab th_X6_37_288_41 dX6_partsOf_30 dX6_partsOf_33 dX6_partsOf_34 dX6_partsOf_37 dX6_partsOf_40 (by decide) (Nat.le_of_ble_eq_true rfl) (by decide) (by decide) (op_th hp 1 rfl (by rw [o_partsOf, ev]; simp only []; rw [sp_i_hi (by decide) (by rw [Int32.le_iff_toInt_le]; rw [Int32.le_iff_toInt_le] at h3; have e63 : (nI 63).toInt = 63 := rfl; have e64 : (nI 64).toInt = 64 := rfl; omega)])) (by decide) (by decide)
  · exact zs_throw hE hl htab th_X6_74_86_78 dX6_partsOf_10 dX6_partsOf_13 dX6_partsOf_14 dX6_partsOf_16 dX6_partsOf_19 (by decide) (Nat.le_of_ble_eq_true rfl) (by decide) (by decide) (op_th hp 0 rfl (by rw [o_partsOf]; cases e : sp_i y (sp_nv S) with | none => rfl | some i => (obtain ⟨a, e1, -⟩ := hV.yes e; rw [e1] at h1; cases h1))) (by decide) (by decide)


/-! the law's methods with handlers: each calls a method of the class and tells what it threw -/
theorem zs_widen9 {A : Nat → Prop} {p : Program} {l : Launch} {e : Env} {R : Room} {s : State} {m : MethodId} {args : Array Value} {below : List Frame} {meth : Method} {c : Code} {nL : Nat} {Q : State → Prop} {H : Heap} {k n k' n' pc : Nat} {lo : List (Nat × Value)} {st : List Value} (h1 : k = k') (h2 : n = n') (K : zs_W A p l e R s m args below meth c nL Q H k' n' pc lo st) : zs_W A p l e R s m args below meth c nL Q H k n pc lo st := by
  subst h1; subst h2; exact K
def lw_c : Value → Int64
  | .int w => w.toInt64
  | .long w => w
  | _ => 0
def lw_d : Value → UInt64
  | .float r => FP.f2d r
  | .double r => r
  | _ => 0
def lw_L (D : va_G) (E : Nat → ClassId) (κ : Nat → Nat) (x u : Nat) (o : sp_R3) : Option Value → Heap → Heap → Prop := fun v H H1 => v = some (.int (nI o.1)) ∧ H.size ≤ H1.size ∧ (∃ κ' : Nat → Nat, cs_X D E κ' o.2.2 x H1 ∧ ∀ q, q < H.size → κ' q = κ q) ∧ ∃ f, zs_pt D u (.inl (E 3, 1, .inr (.inl f))) H1 ∧ (o.1 = 0 → lw_c o.2.1 = f 0)
def lw_D (D : va_G) (E : Nat → ClassId) (κ : Nat → Nat) (x u : Nat) (o : sp_R3) : Option Value → Heap → Heap → Prop := fun v H H1 => v = some (.int (nI o.1)) ∧ H.size ≤ H1.size ∧ (∃ κ' : Nat → Nat, cs_X D E κ' o.2.2 x H1 ∧ ∀ q, q < H.size → κ' q = κ q) ∧ ∃ f, zs_pt D u (.inl (E 4, 1, .inr (.inr (.inr (.inl f))))) H1 ∧ (o.1 = 0 → lw_d o.2.1 = f 0)
def vi_R (o : sp_R3) : Prop := o.1 = 0 → ∃ w, o.2.1 = .int w
def vl_R (o : sp_R3) : Prop := o.1 = 0 → ∃ w, o.2.1 = .long w
def vb_R (o : sp_R3) : Prop := o.1 = 0 → ∃ P : Prop, o.2.1 = .int (zs_b P)
def wf_R (o : sp_R3) : Prop := sp_wf o.2.2
theorem vi_e (k : Nat) (S : sp_S) : vi_R (sp_e (k + 1) S) := fun h => absurd h (Nat.succ_ne_zero k)
theorem vl_e (k : Nat) (S : sp_S) : vl_R (sp_e (k + 1) S) := fun h => absurd h (Nat.succ_ne_zero k)
theorem vb_e (k : Nat) (S : sp_S) : vb_R (sp_e (k + 1) S) := fun h => absurd h (Nat.succ_ne_zero k)
theorem fl_d32 {n : Nat} (h : n % 2 ^ 31 ≤ 2139095040) : FP.Core.decode FP.Core.b32 n ≠ .nan := by
  have e1 : FP.Core.b32.tails = 8388608 := by decide
  have e2 : FP.Core.b32.exps = 256 := by decide
  unfold FP.Core.decode FP.Core.fieldE FP.Core.fieldT
  simp only [e1, e2]
  by_cases z : n / 8388608 % 256 = 256 - 1
  · rw [if_pos z, if_pos (by omega)]; intro w; cases w
  · rw [if_neg z]
    split <;> (intro w; cases w)
theorem fl_d64 {n : Nat} (h : n % 2 ^ 63 ≤ 9218868437227405312) : FP.Core.decode FP.Core.b64 n ≠ .nan := by
  have e1 : FP.Core.b64.tails = 4503599627370496 := by decide
  have e2 : FP.Core.b64.exps = 2048 := by decide
  unfold FP.Core.decode FP.Core.fieldE FP.Core.fieldT
  simp only [e1, e2]
  by_cases z : n / 4503599627370496 % 2048 = 2048 - 1
  · rw [if_pos z, if_pos (by omega)]; intro w; cases w
  · rw [if_neg z]
    split <;> (intro w; cases w)
theorem fl_v32 {r : UInt32} (h : vf_n32 r) : r.toNat % 2 ^ 31 ≤ 2139095040 := by
  unfold vf_n32 at h
  rw [UInt32.le_iff_toNat_le, UInt32.toNat_and] at h
  have h1 : (0x7fffffff : UInt32).toNat = 2 ^ 31 - 1 := by decide
  have h3 : (0x7f800000 : UInt32).toNat = 2139095040 := by decide
  rw [h1, h3, Nat.and_two_pow_sub_one_eq_mod] at h
  exact h
theorem fl_v64 {r : UInt64} (h : vf_n64 r) : r.toNat % 2 ^ 63 ≤ 9218868437227405312 := by
  unfold vf_n64 at h
  rw [UInt64.le_iff_toNat_le, UInt64.toNat_and] at h
  have h1 : (0x7fffffffffffffff : UInt64).toNat = 2 ^ 63 - 1 := by decide
  have h3 : (0x7ff0000000000000 : UInt64).toNat = 9218868437227405312 := by decide
  rw [h1, h3, Nat.and_two_pow_sub_one_eq_mod] at h
  exact h
theorem fl_s64 (r : UInt32) (h : vf_n32 r) : vf_n64 (FP.f2d r) := by
  have hd := fl_d32 (fl_v32 h)
  have e : FP.f2d r = UInt64.ofNat (FP.Core.encode FP.Core.b64 (FP.Core.round FP.Core.b64 (FP.Core.decode FP.Core.b32 r.toNat))) := by
    show (if FP.Core.fIsNaN r = true then _ else FP.Core.f2d r) = _
    rw [if_neg (show ¬ (FP.Core.fIsNaN r = true) from fun w => hd (of_decide_eq_true w))]; rfl
  rw [e]
  cases q : FP.Core.decode FP.Core.b32 r.toNat with
  | nan => exact absurd q hd
  | inf s => cases s <;> exact fl_n64 (by decide) (by decide)
  | fin s c q2 => exact fl_n64 (fl_r64 s c 1 q2).1 (fl_r64 s c 1 q2).2

theorem lc_L_13 : Cond.classLink RL 13 "java/lang/IllegalArgumentException" ∈ aw := aw_i 221 (by decide +kernel) (by decide +kernel)
theorem lc_L_15 : Cond.classLink RL 15 "java/lang/IllegalStateException" ∈ aw := aw_i 222 (by decide +kernel) (by decide +kernel)
theorem lc_L_21 : Cond.classLink RL 21 "java/lang/IndexOutOfBoundsException" ∈ aw := aw_i 436 (by decide +kernel) (by decide +kernel)
theorem lc_L_41 : Cond.classLink RL 41 "java/lang/UnsupportedOperationException" ∈ aw := aw_i 555 (by decide +kernel) (by decide +kernel)
theorem lc_L_57 : Cond.classLink RL 57 "java/util/NoSuchElementException" ∈ aw := aw_i 652 (by decide +kernel) (by decide +kernel)
theorem lc_L_106 : Cond.classLink RL 106 "java/lang/ArithmeticException" ∈ aw := aw_i 840 (by decide +kernel) (by decide +kernel)
theorem sW_L_120 : zw_sS RL 120 yL_piece cL_piece 5 [(0, 10, 13, 13), (0, 10, 17, 15)] 4 := ⟨aw_i 218 (by decide +kernel) (by decide +kernel), aw_i 219 (by decide +kernel) (by decide +kernel), aw_i 49 (by decide +kernel) (by decide +kernel), aw_i 220 (by decide +kernel) (by decide +kernel), ⟨by decide +kernel, by decide +kernel, by decide +kernel⟩⟩
theorem sW_L_130 : zw_sS RL 130 yL_firstOf cL_firstOf 4 [(0, 9, 12, 21)] 3 := ⟨aw_i 433 (by decide +kernel) (by decide +kernel), aw_i 434 (by decide +kernel) (by decide +kernel), aw_i 49 (by decide +kernel) (by decide +kernel), aw_i 435 (by decide +kernel) (by decide +kernel), ⟨by decide +kernel, by decide +kernel, by decide +kernel⟩⟩
theorem sW_L_134 : zw_sS RL 134 yL_pieceOf cL_pieceOf 4 [(0, 9, 12, 21)] 3 := ⟨aw_i 481 (by decide +kernel) (by decide +kernel), aw_i 482 (by decide +kernel) (by decide +kernel), aw_i 49 (by decide +kernel) (by decide +kernel), aw_i 483 (by decide +kernel) (by decide +kernel), ⟨by decide +kernel, by decide +kernel, by decide +kernel⟩⟩
theorem sW_L_137 : zw_sS RL 137 yL_note cL_note 4 [(0, 9, 12, 13), (0, 9, 15, 15)] 3 := ⟨aw_i 489 (by decide +kernel) (by decide +kernel), aw_i 490 (by decide +kernel) (by decide +kernel), aw_i 49 (by decide +kernel) (by decide +kernel), aw_i 491 (by decide +kernel) (by decide +kernel), ⟨by decide +kernel, by decide +kernel, by decide +kernel⟩⟩
theorem sW_L_144 : zw_sS RL 144 yL_write cL_write 7 [(0, 14, 17, 21), (0, 14, 21, 13), (0, 14, 25, 15)] 6 := ⟨aw_i 498 (by decide +kernel) (by decide +kernel), aw_i 499 (by decide +kernel) (by decide +kernel), aw_i 49 (by decide +kernel) (by decide +kernel), aw_i 500 (by decide +kernel) (by decide +kernel), ⟨by decide +kernel, by decide +kernel, by decide +kernel⟩⟩
theorem sW_L_148 : zw_sS RL 148 yL_rule cL_rule 6 [(0, 12, 15, 21), (0, 12, 19, 13)] 5 := ⟨aw_i 539 (by decide +kernel) (by decide +kernel), aw_i 540 (by decide +kernel) (by decide +kernel), aw_i 49 (by decide +kernel) (by decide +kernel), aw_i 541 (by decide +kernel) (by decide +kernel), ⟨by decide +kernel, by decide +kernel, by decide +kernel⟩⟩
theorem sW_L_152 : zw_sS RL 152 yL_merge cL_merge 6 [(0, 12, 15, 21), (0, 12, 19, 13), (0, 12, 23, 41), (0, 12, 27, 15)] 5 := ⟨aw_i 552 (by decide +kernel) (by decide +kernel), aw_i 553 (by decide +kernel) (by decide +kernel), aw_i 49 (by decide +kernel) (by decide +kernel), aw_i 554 (by decide +kernel) (by decide +kernel), ⟨by decide +kernel, by decide +kernel, by decide +kernel⟩⟩
theorem sW_L_156 : zw_sS RL 156 yL_base cL_base 5 [(0, 10, 13, 21), (0, 10, 17, 41)] 4 := ⟨aw_i 623 (by decide +kernel) (by decide +kernel), aw_i 624 (by decide +kernel) (by decide +kernel), aw_i 49 (by decide +kernel) (by decide +kernel), aw_i 625 (by decide +kernel) (by decide +kernel), ⟨by decide +kernel, by decide +kernel, by decide +kernel⟩⟩
theorem sW_L_159 : zw_sS RL 159 yL_isAbove cL_isAbove 5 [(0, 17, 20, 21)] 4 := ⟨aw_i 631 (by decide +kernel) (by decide +kernel), aw_i 632 (by decide +kernel) (by decide +kernel), aw_i 49 (by decide +kernel) (by decide +kernel), aw_i 633 (by decide +kernel) (by decide +kernel), ⟨by decide +kernel, by decide +kernel, by decide +kernel⟩⟩
theorem sW_L_162 : zw_sS RL 162 yL_rows cL_rows 6 [(0, 12, 15, 21)] 5 := ⟨aw_i 638 (by decide +kernel) (by decide +kernel), aw_i 639 (by decide +kernel) (by decide +kernel), aw_i 49 (by decide +kernel) (by decide +kernel), aw_i 640 (by decide +kernel) (by decide +kernel), ⟨by decide +kernel, by decide +kernel, by decide +kernel⟩⟩
theorem sW_L_165 : zw_sS RL 165 yL_noteAt cL_noteAt 8 [(0, 16, 19, 21), (0, 16, 23, 57)] 7 := ⟨aw_i 649 (by decide +kernel) (by decide +kernel), aw_i 650 (by decide +kernel) (by decide +kernel), aw_i 49 (by decide +kernel) (by decide +kernel), aw_i 651 (by decide +kernel) (by decide +kernel), ⟨by decide +kernel, by decide +kernel, by decide +kernel⟩⟩
theorem sW_L_169 : zw_sS RL 169 yL_writer cL_writer 7 [(0, 14, 17, 21), (0, 14, 21, 57)] 6 := ⟨aw_i 674 (by decide +kernel) (by decide +kernel), aw_i 675 (by decide +kernel) (by decide +kernel), aw_i 49 (by decide +kernel) (by decide +kernel), aw_i 676 (by decide +kernel) (by decide +kernel), ⟨by decide +kernel, by decide +kernel, by decide +kernel⟩⟩
theorem sW_L_172 : zw_sS RL 172 yL_doubts cL_doubts 4 [(0, 9, 12, 21)] 3 := ⟨aw_i 682 (by decide +kernel) (by decide +kernel), aw_i 683 (by decide +kernel) (by decide +kernel), aw_i 49 (by decide +kernel) (by decide +kernel), aw_i 684 (by decide +kernel) (by decide +kernel), ⟨by decide +kernel, by decide +kernel, by decide +kernel⟩⟩
theorem sW_L_175 : zw_sS RL 175 yL_unlike cL_unlike 5 [(0, 10, 13, 21), (0, 10, 17, 41)] 4 := ⟨aw_i 693 (by decide +kernel) (by decide +kernel), aw_i 694 (by decide +kernel) (by decide +kernel), aw_i 49 (by decide +kernel) (by decide +kernel), aw_i 695 (by decide +kernel) (by decide +kernel), ⟨by decide +kernel, by decide +kernel, by decide +kernel⟩⟩
theorem sW_L_178 : zw_sS RL 178 yL_hear cL_hear 5 [(0, 10, 13, 21)] 4 := ⟨aw_i 700 (by decide +kernel) (by decide +kernel), aw_i 701 (by decide +kernel) (by decide +kernel), aw_i 49 (by decide +kernel) (by decide +kernel), aw_i 702 (by decide +kernel) (by decide +kernel), ⟨by decide +kernel, by decide +kernel, by decide +kernel⟩⟩
theorem sW_L_181 : zw_sS RL 181 yL_mark cL_mark 7 [(0, 14, 17, 21), (0, 14, 21, 13), (0, 14, 25, 41)] 6 := ⟨aw_i 712 (by decide +kernel) (by decide +kernel), aw_i 713 (by decide +kernel) (by decide +kernel), aw_i 49 (by decide +kernel) (by decide +kernel), aw_i 714 (by decide +kernel) (by decide +kernel), ⟨by decide +kernel, by decide +kernel, by decide +kernel⟩⟩
theorem sW_L_184 : zw_sS RL 184 yL_affirm cL_affirm 6 [(0, 12, 15, 21), (0, 12, 19, 57)] 5 := ⟨aw_i 725 (by decide +kernel) (by decide +kernel), aw_i 726 (by decide +kernel) (by decide +kernel), aw_i 49 (by decide +kernel) (by decide +kernel), aw_i 727 (by decide +kernel) (by decide +kernel), ⟨by decide +kernel, by decide +kernel, by decide +kernel⟩⟩
theorem sW_L_191 : zw_sS RL 191 yL_points cL_points 5 [(0, 10, 13, 21)] 4 := ⟨aw_i 733 (by decide +kernel) (by decide +kernel), aw_i 734 (by decide +kernel) (by decide +kernel), aw_i 49 (by decide +kernel) (by decide +kernel), aw_i 735 (by decide +kernel) (by decide +kernel), ⟨by decide +kernel, by decide +kernel, by decide +kernel⟩⟩
theorem sW_L_194 : zw_sS RL 194 yL_ranked cL_ranked 4 [(0, 9, 12, 21)] 3 := ⟨aw_i 741 (by decide +kernel) (by decide +kernel), aw_i 742 (by decide +kernel) (by decide +kernel), aw_i 49 (by decide +kernel) (by decide +kernel), aw_i 743 (by decide +kernel) (by decide +kernel), ⟨by decide +kernel, by decide +kernel, by decide +kernel⟩⟩
theorem sW_L_197 : zw_sS RL 197 yL_isTied cL_isTied 4 [(0, 16, 19, 21)] 3 := ⟨aw_i 753 (by decide +kernel) (by decide +kernel), aw_i 754 (by decide +kernel) (by decide +kernel), aw_i 49 (by decide +kernel) (by decide +kernel), aw_i 755 (by decide +kernel) (by decide +kernel), ⟨by decide +kernel, by decide +kernel, by decide +kernel⟩⟩
theorem sW_L_200 : zw_sS RL 200 yL_give cL_give 5 [(0, 10, 13, 21), (0, 10, 17, 13), (0, 10, 21, 41), (0, 10, 25, 15)] 4 := ⟨aw_i 760 (by decide +kernel) (by decide +kernel), aw_i 761 (by decide +kernel) (by decide +kernel), aw_i 49 (by decide +kernel) (by decide +kernel), aw_i 762 (by decide +kernel) (by decide +kernel), ⟨by decide +kernel, by decide +kernel, by decide +kernel⟩⟩
theorem sW_L_203 : zw_sS RL 203 yL_named cL_named 4 [(0, 9, 12, 21)] 3 := ⟨aw_i 804 (by decide +kernel) (by decide +kernel), aw_i 805 (by decide +kernel) (by decide +kernel), aw_i 49 (by decide +kernel) (by decide +kernel), aw_i 806 (by decide +kernel) (by decide +kernel), ⟨by decide +kernel, by decide +kernel, by decide +kernel⟩⟩
theorem sW_L_206 : zw_sS RL 206 yL_share cL_share 5 [(0, 10, 13, 21)] 4 := ⟨aw_i 812 (by decide +kernel) (by decide +kernel), aw_i 813 (by decide +kernel) (by decide +kernel), aw_i 49 (by decide +kernel) (by decide +kernel), aw_i 814 (by decide +kernel) (by decide +kernel), ⟨by decide +kernel, by decide +kernel, by decide +kernel⟩⟩
theorem sW_L_209 : zw_sS RL 209 yL_got cL_got 4 [(0, 9, 12, 21)] 3 := ⟨aw_i 820 (by decide +kernel) (by decide +kernel), aw_i 821 (by decide +kernel) (by decide +kernel), aw_i 49 (by decide +kernel) (by decide +kernel), aw_i 822 (by decide +kernel) (by decide +kernel), ⟨by decide +kernel, by decide +kernel, by decide +kernel⟩⟩
theorem sW_L_212 : zw_sS RL 212 yL_partsOf cL_partsOf 5 [(0, 10, 13, 21), (0, 10, 17, 13)] 4 := ⟨aw_i 828 (by decide +kernel) (by decide +kernel), aw_i 829 (by decide +kernel) (by decide +kernel), aw_i 49 (by decide +kernel) (by decide +kernel), aw_i 830 (by decide +kernel) (by decide +kernel), ⟨by decide +kernel, by decide +kernel, by decide +kernel⟩⟩
theorem sW_L_219 : zw_sS RL 219 yL_countShare cL_countShare 3 [(0, 8, 11, 106)] 2 := ⟨aw_i 837 (by decide +kernel) (by decide +kernel), aw_i 838 (by decide +kernel) (by decide +kernel), aw_i 49 (by decide +kernel) (by decide +kernel), aw_i 839 (by decide +kernel) (by decide +kernel), ⟨by decide +kernel, by decide +kernel, by decide +kernel⟩⟩
theorem sW_L_223 : zw_sS RL 223 yL_meanMark cL_meanMark 3 [(0, 7, 10, 106)] 2 := ⟨aw_i 861 (by decide +kernel) (by decide +kernel), aw_i 862 (by decide +kernel) (by decide +kernel), aw_i 49 (by decide +kernel) (by decide +kernel), aw_i 863 (by decide +kernel) (by decide +kernel), ⟨by decide +kernel, by decide +kernel, by decide +kernel⟩⟩
theorem sW_L_226 : zw_sS RL 226 yL_checksum cL_checksum 4 [(0, 8, 11, 21)] 3 := ⟨aw_i 873 (by decide +kernel) (by decide +kernel), aw_i 874 (by decide +kernel) (by decide +kernel), aw_i 49 (by decide +kernel) (by decide +kernel), aw_i 875 (by decide +kernel) (by decide +kernel), ⟨by decide +kernel, by decide +kernel, by decide +kernel⟩⟩
theorem vi_piece (S : sp_S) (y z : Int32) : vi_R (o_piece S y z) := by
  unfold o_piece
  repeat' first | refine pI_p (R := vi_R) ?_ ?_ | split
  all_goals first | exact vi_e _ _ | exact fun _ => ⟨_, rfl⟩
theorem wfo_piece {S : sp_S} (h : sp_wf S) (y z : Int32) : sp_wf (o_piece S y z).2.2 := wo_piece h y z
theorem vi_firstOf (S : sp_S) (y : Int32) : vi_R (o_firstOf S y) := by
  unfold o_firstOf
  repeat' first | refine pI_p (R := vi_R) ?_ ?_ | split
  all_goals first | exact vi_e _ _ | exact fun _ => ⟨_, rfl⟩
theorem wfo_firstOf {S : sp_S} (h : sp_wf S) (y : Int32) : wf_R (o_firstOf S y) := by
  unfold o_firstOf
  repeat' first | refine pI_p (R := wf_R) ?_ ?_ | split
  all_goals exact h
theorem vi_pieceOf (S : sp_S) (y : Int32) : vi_R (o_pieceOf S y) := by
  unfold o_pieceOf
  repeat' first | refine pI_p (R := vi_R) ?_ ?_ | split
  all_goals first | exact vi_e _ _ | exact fun _ => ⟨_, rfl⟩
theorem wfo_pieceOf {S : sp_S} (h : sp_wf S) (y : Int32) : wf_R (o_pieceOf S y) := by
  unfold o_pieceOf
  repeat' first | refine pI_p (R := wf_R) ?_ ?_ | split
  all_goals exact h
theorem vi_note (S : sp_S) (y : Int32) : vi_R (o_note S y) := by
  unfold o_note
  repeat' first | refine pI_p (R := vi_R) ?_ ?_ | split
  all_goals first | exact vi_e _ _ | exact fun _ => ⟨_, rfl⟩
theorem wfo_note {S : sp_S} (h : sp_wf S) (y : Int32) : sp_wf (o_note S y).2.2 := wo_note h y
theorem vi_write (S : sp_S) (y w b q : Int32) : vi_R (o_write S y w b q) := by
  unfold o_write
  repeat' first | refine pI_p (R := vi_R) ?_ ?_ | split
  all_goals first | exact vi_e _ _ | exact fun _ => ⟨_, rfl⟩
theorem wfo_write {S : sp_S} (h : sp_wf S) (y w b q : Int32) : sp_wf (o_write S y w b q).2.2 := wo_write h y w b q
theorem vi_rule (S : sp_S) (y z w : Int32) : vi_R (o_rule S y z w) := by
  unfold o_rule
  repeat' first | refine pI_p (R := vi_R) ?_ ?_ | split
  all_goals first | exact vi_e _ _ | exact fun _ => ⟨_, rfl⟩
theorem wfo_rule {S : sp_S} (h : sp_wf S) (y z w : Int32) : sp_wf (o_rule S y z w).2.2 := wo_rule h y z w
theorem vi_merge (S : sp_S) (y z ed : Int32) : vi_R (o_merge S y z ed) := by
  unfold o_merge
  repeat' first | refine pI_p (R := vi_R) ?_ ?_ | split
  all_goals first | exact vi_e _ _ | exact fun _ => ⟨_, rfl⟩
theorem wfo_merge {S : sp_S} (h : sp_wf S) (y z ed : Int32) : sp_wf (o_merge S y z ed).2.2 := wo_merge h y z ed
theorem vi_base (S : sp_S) (y z : Int32) : vi_R (o_base S y z) := by
  unfold o_base
  repeat' first | refine pI_p (R := vi_R) ?_ ?_ | split
  all_goals first | exact vi_e _ _ | exact fun _ => ⟨_, rfl⟩
theorem wfo_base {S : sp_S} (h : sp_wf S) (y z : Int32) : wf_R (o_base S y z) := by
  unfold o_base
  repeat' first | refine pI_p (R := wf_R) ?_ ?_ | split
  all_goals exact h
theorem vb_isAbove (S : sp_S) (y z : Int32) : vb_R (o_isAbove S y z) := by
  unfold o_isAbove
  repeat' first | refine pI_p (R := vb_R) ?_ ?_ | split
  all_goals first | exact vb_e _ _ | exact fun _ => ⟨_, rfl⟩
theorem wfo_isAbove {S : sp_S} (h : sp_wf S) (y z : Int32) : wf_R (o_isAbove S y z) := by
  unfold o_isAbove
  repeat' first | refine pI_p (R := wf_R) ?_ ?_ | split
  all_goals exact h
theorem vi_rows (S : sp_S) (y b q : Int32) : vi_R (o_rows S y b q) := by
  unfold o_rows
  repeat' first | refine pI_p (R := vi_R) ?_ ?_ | split
  all_goals first | exact vi_e _ _ | exact fun _ => ⟨_, rfl⟩
theorem wfo_rows {S : sp_S} (h : sp_wf S) (y b q : Int32) : wf_R (o_rows S y b q) := by
  unfold o_rows
  repeat' first | refine pI_p (R := wf_R) ?_ ?_ | split
  all_goals exact h
theorem vi_noteAt (S : sp_S) (y b q w uu : Int32) : vi_R (o_noteAt S y b q w uu) := by
  unfold o_noteAt
  repeat' first | refine pI_p (R := vi_R) ?_ ?_ | split
  all_goals first | exact vi_e _ _ | exact fun _ => ⟨_, rfl⟩
theorem wfo_noteAt {S : sp_S} (h : sp_wf S) (y b q w uu : Int32) : wf_R (o_noteAt S y b q w uu) := by
  unfold o_noteAt
  repeat' first | refine pI_p (R := wf_R) ?_ ?_ | split
  all_goals exact h
theorem vi_writer (S : sp_S) (y b q w : Int32) : vi_R (o_writer S y b q w) := by
  unfold o_writer
  repeat' first | refine pI_p (R := vi_R) ?_ ?_ | split
  all_goals first | exact vi_e _ _ | exact fun _ => ⟨_, rfl⟩
theorem wfo_writer {S : sp_S} (h : sp_wf S) (y b q w : Int32) : wf_R (o_writer S y b q w) := by
  unfold o_writer
  repeat' first | refine pI_p (R := wf_R) ?_ ?_ | split
  all_goals exact h
theorem vi_doubts (S : sp_S) (y : Int32) : vi_R (o_doubts S y) := by
  unfold o_doubts
  repeat' first | refine pI_p (R := vi_R) ?_ ?_ | split
  all_goals first | exact vi_e _ _ | exact fun _ => ⟨_, rfl⟩
theorem wfo_doubts {S : sp_S} (h : sp_wf S) (y : Int32) : wf_R (o_doubts S y) := by
  unfold o_doubts
  repeat' first | refine pI_p (R := wf_R) ?_ ?_ | split
  all_goals exact h
theorem vi_unlike (S : sp_S) (y z : Int32) : vi_R (o_unlike S y z) := by
  unfold o_unlike
  repeat' first | refine pI_p (R := vi_R) ?_ ?_ | split
  all_goals first | exact vi_e _ _ | exact fun _ => ⟨_, rfl⟩
theorem wfo_unlike {S : sp_S} (h : sp_wf S) (y z : Int32) : wf_R (o_unlike S y z) := by
  unfold o_unlike
  repeat' first | refine pI_p (R := wf_R) ?_ ?_ | split
  all_goals exact h
theorem vi_hear (S : sp_S) (y z : Int32) : vi_R (o_hear S y z) := by
  unfold o_hear
  repeat' first | refine pI_p (R := vi_R) ?_ ?_ | split
  all_goals first | exact vi_e _ _ | exact fun _ => ⟨_, rfl⟩
theorem wfo_hear {S : sp_S} (h : sp_wf S) (y z : Int32) : sp_wf (o_hear S y z).2.2 := wo_hear h y z
theorem vi_mark (S : sp_S) (y z w t : Int32) : vi_R (o_mark S y z w t) := by
  unfold o_mark
  repeat' first | refine pI_p (R := vi_R) ?_ ?_ | split
  all_goals first | exact vi_e _ _ | exact fun _ => ⟨_, rfl⟩
theorem wfo_mark {S : sp_S} (h : sp_wf S) (y z w t : Int32) : sp_wf (o_mark S y z w t).2.2 := wo_mark h y z w t
theorem vi_affirm (S : sp_S) (y z w : Int32) : vi_R (o_affirm S y z w) := by
  unfold o_affirm
  repeat' first | refine pI_p (R := vi_R) ?_ ?_ | split
  all_goals first | exact vi_e _ _ | exact fun _ => ⟨_, rfl⟩
theorem wfo_affirm {S : sp_S} (h : sp_wf S) (y z w : Int32) : sp_wf (o_affirm S y z w).2.2 := wo_affirm h y z w
theorem vi_points (S : sp_S) (y z : Int32) : vi_R (o_points S y z) := by
  unfold o_points
  repeat' first | refine pI_p (R := vi_R) ?_ ?_ | split
  all_goals first | exact vi_e _ _ | exact fun _ => ⟨_, rfl⟩
theorem wfo_points {S : sp_S} (h : sp_wf S) (y z : Int32) : wf_R (o_points S y z) := by
  unfold o_points
  repeat' first | refine pI_p (R := wf_R) ?_ ?_ | split
  all_goals exact h
theorem vi_ranked (S : sp_S) (y : Int32) : vi_R (o_ranked S y) := by
  unfold o_ranked
  repeat' first | refine pI_p (R := vi_R) ?_ ?_ | split
  all_goals first | exact vi_e _ _ | exact fun _ => ⟨_, rfl⟩
theorem wfo_ranked {S : sp_S} (h : sp_wf S) (y : Int32) : wf_R (o_ranked S y) := by
  unfold o_ranked
  repeat' first | refine pI_p (R := wf_R) ?_ ?_ | split
  all_goals exact h
theorem vb_isTied (S : sp_S) (y : Int32) : vb_R (o_isTied S y) := by
  unfold o_isTied
  repeat' first | refine pI_p (R := vb_R) ?_ ?_ | split
  all_goals first | exact vb_e _ _ | exact fun _ => ⟨_, rfl⟩
theorem wfo_isTied {S : sp_S} (h : sp_wf S) (y : Int32) : wf_R (o_isTied S y) := by
  unfold o_isTied
  repeat' first | refine pI_p (R := wf_R) ?_ ?_ | split
  all_goals exact h
theorem vi_give (S : sp_S) (y z : Int32) : vi_R (o_give S y z) := by
  unfold o_give
  repeat' first | refine pI_p (R := vi_R) ?_ ?_ | split
  all_goals first | exact vi_e _ _ | exact fun _ => ⟨_, rfl⟩
theorem wfo_give {S : sp_S} (h : sp_wf S) (y z : Int32) : sp_wf (o_give S y z).2.2 := wo_give h y z
theorem vi_named (S : sp_S) (y : Int32) : vi_R (o_named S y) := by
  unfold o_named
  repeat' first | refine pI_p (R := vi_R) ?_ ?_ | split
  all_goals first | exact vi_e _ _ | exact fun _ => ⟨_, rfl⟩
theorem wfo_named {S : sp_S} (h : sp_wf S) (y : Int32) : wf_R (o_named S y) := by
  unfold o_named
  repeat' first | refine pI_p (R := wf_R) ?_ ?_ | split
  all_goals exact h
theorem vi_share (S : sp_S) (y w : Int32) : vi_R (o_share S y w) := by
  unfold o_share
  repeat' first | refine pI_p (R := vi_R) ?_ ?_ | split
  all_goals first | exact vi_e _ _ | exact fun _ => ⟨_, rfl⟩
theorem wfo_share {S : sp_S} (h : sp_wf S) (y w : Int32) : wf_R (o_share S y w) := by
  unfold o_share
  repeat' first | refine pI_p (R := wf_R) ?_ ?_ | split
  all_goals exact h
theorem vi_got (S : sp_S) (w : Int32) : vi_R (o_got S w) := by
  unfold o_got
  repeat' first | refine pI_p (R := vi_R) ?_ ?_ | split
  all_goals first | exact vi_e _ _ | exact fun _ => ⟨_, rfl⟩
theorem wfo_got {S : sp_S} (h : sp_wf S) (w : Int32) : wf_R (o_got S w) := by
  unfold o_got
  repeat' first | refine pI_p (R := wf_R) ?_ ?_ | split
  all_goals exact h
theorem vi_partsOf (S : sp_S) (y z : Int32) : vi_R (o_partsOf S y z) := by
  unfold o_partsOf
  repeat' first | refine pI_p (R := vi_R) ?_ ?_ | split
  all_goals first | exact vi_e _ _ | exact fun _ => ⟨_, rfl⟩
theorem wfo_partsOf {S : sp_S} (h : sp_wf S) (y z : Int32) : wf_R (o_partsOf S y z) := by
  unfold o_partsOf
  repeat' first | refine pI_p (R := wf_R) ?_ ?_ | split
  all_goals exact h
theorem wfo_countShare {S : sp_S} (h : sp_wf S)  : wf_R (o_countShare S) := by
  unfold o_countShare
  repeat' first | refine pI_p (R := wf_R) ?_ ?_ | split
  all_goals exact h
theorem wfo_meanMark {S : sp_S} (h : sp_wf S)  : wf_R (o_meanMark S) := by
  unfold o_meanMark
  repeat' first | refine pI_p (R := wf_R) ?_ ?_ | split
  all_goals exact h
theorem vl_checksum (S : sp_S) (y : Int32) : vl_R (o_checksum S y) := by
  unfold o_checksum
  repeat' first | refine pI_p (R := vl_R) ?_ ?_ | split
  all_goals first | exact vl_e _ _ | exact fun _ => ⟨_, rfl⟩
theorem wfo_checksum {S : sp_S} (h : sp_wf S) (y : Int32) : wf_R (o_checksum S y) := by
  unfold o_checksum
  repeat' first | refine pI_p (R := wf_R) ?_ ?_ | split
  all_goals exact h
theorem vf_countShare {S : sp_S} (hw : sp_wf S) : (o_countShare S).1 = 0 → ∃ r, (o_countShare S).2.1 = .float r ∧ vf_n64 (FP.f2d r) := by
  unfold o_countShare
  by_cases z : sp_mt S = 0
  · rw [pI_t z]; intro h; exact absurd h (Nat.succ_ne_zero 0)
  · rw [pI_f z]
    have b1 := sp_mt_le hw.2.2.2.2.1
    have b2 := sp_mc_le hw.2.2.2.2.1
    exact fun _ => ⟨_, rfl, fl_s64 _ (fl_share (by omega) (by omega) z)⟩
theorem vd_meanMark {S : sp_S} (hw : sp_wf S) : (o_meanMark S).1 = 0 → ∃ r, (o_meanMark S).2.1 = .double r ∧ vf_n64 r := by
  unfold o_meanMark
  by_cases z : sp_mc S = 0
  · rw [pI_t z]; intro h; exact absurd h (Nat.succ_ne_zero 0)
  · rw [pI_f z]
    have b1 := sp_ms_le hw.2.2.2.2.1
    have b2 := sp_mc_le hw.2.2.2.2.1
    exact fun _ => ⟨_, rfl, fl_mean (by omega) (by omega) z⟩
set_option maxHeartbeats 4000000 in
set_option maxRecDepth 100000 in
theorem m_L_piece (D : va_G) (E : Nat → ClassId) (B : Nat) (l : Launch) (hl : l.stackTraces = false) (κ : Nat → Nat) (S : sp_S) (x u : Nat) (y z : Int32) (hu : 500 ≤ κ u) : zw_Ct D E B l yL_piece cL_piece 5 [(0, 10, 13, 13), (0, 10, 17, 15)] ({ frames := 7, cells := 24, slots := 128, locals := 131 } : Room) [.ref x, .int y, .int z, .ref u] (fun H => cs_W D E κ S x H ∧ ∃ f, zs_pt D u (.inl (E 3, 1, .inr (.inl f))) H) (fun q => cs_F κ q ∨ q = u) (lw_L D E κ x u (o_piece S y z)) := by
  refine zw_ct (by decide) (Nat.le_of_ble_eq_true rfl) (fun p e s m below meth c hE hr htab hN hp => ?_)
  refine zs_lo (lo' := [(0, .ref x), (1, .int y), (2, .int z), (3, .ref u)]) rfl ?_
  obtain ⟨hW, f, ru⟩ := id hp
  obtain ⟨hX0, hw⟩ := id hW
  obtain ⟨a1, a2, a3, a4, a5, lp, lv, lh, lz, tg, ⟨t0, t1, t2, t3, t4, t5, hx, r1, r2, r3, r4, r5⟩, htg, hP, hV, hG, hZ, hκ⟩ := hX0
  have lu := ru.lt
  refine zs_aload_n hE 3 dL_piece_0 rfl rfl ?_
  refine zs_iconst (v := (nI 0)) hE dL_piece_1 (by decide) ?_
  refine zs_aload_n hE 0 dL_piece_2 rfl rfl ?_
  refine zs_iload_n hE 1 dL_piece_3 rfl rfl ?_
  refine zs_iload_n hE 2 dL_piece_4 rfl rfl ?_
  refine zw_callX (av := [.int y, .int z]) (st := [.int (nI 0), .ref u]) hE (m_X6_piece D E B l hl κ S x y z) sV_L_7 hx rfl rfl hW ⟨by decide, by decide⟩ ⟨by decide, by decide⟩ (fun q h => Or.inl (Or.inl h)) (Nat.le_of_ble_eq_true rfl) dL_piece_5 (fun cls H1 ce q9 hx1 z1 k1 hce hcv hcl ls locs1 g1 g2 => ?_) (fun v H1 hv z1 k1 => ?_)
  · obtain ⟨i, hi, ho, hz, κ1, hX1, hk1⟩ := hx1
    have ru1 := ru.kept (k1 u lu (fun w => by have := w.2; omega))
    rcases i with _ | i
    · cases hi
      refine zw_catch hE htab [] ⟨0, 10, 13, 13⟩ [⟨0, 10, 17, 15⟩] rfl (fun z hz9 => by cases hz9) (by decide) (by decide) lc_L_13 (by decide +kernel) hce hcv hcl g1 g2 ?_
      refine zs_widen9 (k' := 24) (n' := 128) (by decide) (by decide) ?_
      refine zs_astore (lo' := [(4, .ref q9), (0, .ref x), (1, .int y), (2, .int z), (3, .ref u)]) hE dL_piece_13 (by decide) rfl ?_
      refine zs_iconst (v := (nI 1)) hE dL_piece_15 (by decide) ?_
      exact zs_iret hE hr (by rw [ho]; exact ⟨rfl, z1, ⟨κ1, hX1, hk1⟩, f, ru1, fun w => absurd w (Nat.succ_ne_zero _)⟩) (by decide) (by decide) dL_piece_16
    rcases i with _ | i
    · cases hi
      refine zw_catch hE htab [⟨0, 10, 13, 13⟩] ⟨0, 10, 17, 15⟩ [] rfl (fun z hz9 => by simp only [List.mem_cons, List.not_mem_nil, or_false] at hz9; rcases hz9 with rfl; exact ⟨by decide, _, lc_L_13, hN ("java/lang/IllegalStateException", "java/lang/IllegalArgumentException") (by decide)⟩) (by decide) (by decide) lc_L_15 (by decide +kernel) hce hcv hcl g1 g2 ?_
      refine zs_widen9 (k' := 24) (n' := 128) (by decide) (by decide) ?_
      refine zs_astore (lo' := [(4, .ref q9), (0, .ref x), (1, .int y), (2, .int z), (3, .ref u)]) hE dL_piece_17 (by decide) rfl ?_
      refine zs_iconst (v := (nI 2)) hE dL_piece_19 (by decide) ?_
      exact zs_iret hE hr (by rw [ho]; exact ⟨rfl, z1, ⟨κ1, hX1, hk1⟩, f, ru1, fun w => absurd w (Nat.succ_ne_zero _)⟩) (by decide) (by decide) dL_piece_20
    simp at hi
  · obtain ⟨o0, rfl, hz, κ1, hX1, hk1⟩ := hv
    have ru1 := ru.kept (k1 u lu (fun w => by have := w.2; omega))
    refine zs_widen9 (k' := 24) (n' := 128) (by decide) (by decide) ?_
    have hwf : sp_wf (o_piece S y z).2.2 := wfo_piece hw y z
    have h6 := hwf.1.1
    obtain ⟨w9, hw9⟩ := vi_piece S y z o0
    rw [hw9]
    refine zs_i2l hE dL_piece_8 ?_
    refine zs_last hE ru1 (Or.inl (Or.inr rfl)) (by decide) (by decide) dL_piece_9 (fun H1 hp1 hz1 ho1 => ?_)
    refine zs_goto (tgt := 21) hE dL_piece_10 (by decide) ?_
    refine zs_iconst (v := (nI 0)) hE dL_piece_21 (by decide) ?_
    exact zs_iret hE hr (⟨by rw [o0], by omega, ⟨κ1, hX1.mv (by omega) (fun q w1 w2 => ho1 q (fun e9 => by subst e9; rw [hk1 _ lu] at w2; omega)) h6, hk1⟩, _, hp1, fun _ => by rw [va_up_self]; exact (by rw [hw9]; rfl)⟩) (by decide) (by decide) dL_piece_22

set_option maxHeartbeats 4000000 in
set_option maxRecDepth 100000 in
theorem m_L_firstOf (D : va_G) (E : Nat → ClassId) (B : Nat) (l : Launch) (hl : l.stackTraces = false) (κ : Nat → Nat) (S : sp_S) (x u : Nat) (y : Int32) (hu : 500 ≤ κ u) : zw_Ct D E B l yL_firstOf cL_firstOf 4 [(0, 9, 12, 21)] ({ frames := 7, cells := 1, slots := 6, locals := 112 } : Room) [.ref x, .int y, .ref u] (fun H => cs_W D E κ S x H ∧ ∃ f, zs_pt D u (.inl (E 3, 1, .inr (.inl f))) H) (fun q => cs_F κ q ∨ q = u) (lw_L D E κ x u (o_firstOf S y)) := by
  refine zw_ct (by decide) (Nat.le_of_ble_eq_true rfl) (fun p e s m below meth c hE hr htab hN hp => ?_)
  refine zs_lo (lo' := [(0, .ref x), (1, .int y), (2, .ref u)]) rfl ?_
  obtain ⟨hW, f, ru⟩ := id hp
  obtain ⟨hX0, hw⟩ := id hW
  obtain ⟨a1, a2, a3, a4, a5, lp, lv, lh, lz, tg, ⟨t0, t1, t2, t3, t4, t5, hx, r1, r2, r3, r4, r5⟩, htg, hP, hV, hG, hZ, hκ⟩ := hX0
  have lu := ru.lt
  refine zs_aload_n hE 2 dL_firstOf_0 rfl rfl ?_
  refine zs_iconst (v := (nI 0)) hE dL_firstOf_1 (by decide) ?_
  refine zs_aload_n hE 0 dL_firstOf_2 rfl rfl ?_
  refine zs_iload_n hE 1 dL_firstOf_3 rfl rfl ?_
  refine zw_callX (av := [.int y]) (st := [.int (nI 0), .ref u]) hE (m_X6_firstOf D E B l hl κ S x y) sV_L_17 hx rfl rfl hW ⟨by decide, by decide⟩ ⟨by decide, by decide⟩ (fun q h => Or.inl (Or.inl h)) (Nat.le_of_ble_eq_true rfl) dL_firstOf_4 (fun cls H1 ce q9 hx1 z1 k1 hce hcv hcl ls locs1 g1 g2 => ?_) (fun v H1 hv z1 k1 => ?_)
  · obtain ⟨i, hi, ho, hz, κ1, hX1, hk1⟩ := hx1
    have ru1 := ru.kept (k1 u lu (fun w => by have := w.2; omega))
    rcases i with _ | i
    · cases hi
      refine zw_catch hE htab [] ⟨0, 9, 12, 21⟩ [] rfl (fun z hz9 => by cases hz9) (by decide) (by decide) lc_L_21 (by decide +kernel) hce hcv hcl g1 g2 ?_
      refine zs_widen9 (k' := 1) (n' := 6) (by decide) (by decide) ?_
      refine zs_astore_n (lo' := [(3, .ref q9), (0, .ref x), (1, .int y), (2, .ref u)]) hE dL_firstOf_12 rfl (by decide) rfl ?_
      refine zs_iconst (v := (nI 1)) hE dL_firstOf_13 (by decide) ?_
      exact zs_iret hE hr (by rw [ho]; exact ⟨rfl, z1, ⟨κ1, hX1, hk1⟩, f, ru1, fun w => absurd w (Nat.succ_ne_zero _)⟩) (by decide) (by decide) dL_firstOf_14
    simp at hi
  · obtain ⟨o0, rfl, hz, κ1, hX1, hk1⟩ := hv
    have ru1 := ru.kept (k1 u lu (fun w => by have := w.2; omega))
    refine zs_widen9 (k' := 1) (n' := 6) (by decide) (by decide) ?_
    have hwf : sp_wf (o_firstOf S y).2.2 := wfo_firstOf hw y
    have h6 := hwf.1.1
    obtain ⟨w9, hw9⟩ := vi_firstOf S y o0
    rw [hw9]
    refine zs_i2l hE dL_firstOf_7 ?_
    refine zs_last hE ru1 (Or.inl (Or.inr rfl)) (by decide) (by decide) dL_firstOf_8 (fun H1 hp1 hz1 ho1 => ?_)
    refine zs_goto (tgt := 15) hE dL_firstOf_9 (by decide) ?_
    refine zs_iconst (v := (nI 0)) hE dL_firstOf_15 (by decide) ?_
    exact zs_iret hE hr (⟨by rw [o0], by omega, ⟨κ1, hX1.mv (by omega) (fun q w1 w2 => ho1 q (fun e9 => by subst e9; rw [hk1 _ lu] at w2; omega)) h6, hk1⟩, _, hp1, fun _ => by rw [va_up_self]; exact (by rw [hw9]; rfl)⟩) (by decide) (by decide) dL_firstOf_16

set_option maxHeartbeats 4000000 in
set_option maxRecDepth 100000 in
theorem m_L_pieceOf (D : va_G) (E : Nat → ClassId) (B : Nat) (l : Launch) (hl : l.stackTraces = false) (κ : Nat → Nat) (S : sp_S) (x u : Nat) (y : Int32) (hu : 500 ≤ κ u) : zw_Ct D E B l yL_pieceOf cL_pieceOf 4 [(0, 9, 12, 21)] ({ frames := 7, cells := 1, slots := 6, locals := 112 } : Room) [.ref x, .int y, .ref u] (fun H => cs_W D E κ S x H ∧ ∃ f, zs_pt D u (.inl (E 3, 1, .inr (.inl f))) H) (fun q => cs_F κ q ∨ q = u) (lw_L D E κ x u (o_pieceOf S y)) := by
  refine zw_ct (by decide) (Nat.le_of_ble_eq_true rfl) (fun p e s m below meth c hE hr htab hN hp => ?_)
  refine zs_lo (lo' := [(0, .ref x), (1, .int y), (2, .ref u)]) rfl ?_
  obtain ⟨hW, f, ru⟩ := id hp
  obtain ⟨hX0, hw⟩ := id hW
  obtain ⟨a1, a2, a3, a4, a5, lp, lv, lh, lz, tg, ⟨t0, t1, t2, t3, t4, t5, hx, r1, r2, r3, r4, r5⟩, htg, hP, hV, hG, hZ, hκ⟩ := hX0
  have lu := ru.lt
  refine zs_aload_n hE 2 dL_pieceOf_0 rfl rfl ?_
  refine zs_iconst (v := (nI 0)) hE dL_pieceOf_1 (by decide) ?_
  refine zs_aload_n hE 0 dL_pieceOf_2 rfl rfl ?_
  refine zs_iload_n hE 1 dL_pieceOf_3 rfl rfl ?_
  refine zw_callX (av := [.int y]) (st := [.int (nI 0), .ref u]) hE (m_X6_pieceOf D E B l hl κ S x y) sV_L_23 hx rfl rfl hW ⟨by decide, by decide⟩ ⟨by decide, by decide⟩ (fun q h => Or.inl (Or.inl h)) (Nat.le_of_ble_eq_true rfl) dL_pieceOf_4 (fun cls H1 ce q9 hx1 z1 k1 hce hcv hcl ls locs1 g1 g2 => ?_) (fun v H1 hv z1 k1 => ?_)
  · obtain ⟨i, hi, ho, hz, κ1, hX1, hk1⟩ := hx1
    have ru1 := ru.kept (k1 u lu (fun w => by have := w.2; omega))
    rcases i with _ | i
    · cases hi
      refine zw_catch hE htab [] ⟨0, 9, 12, 21⟩ [] rfl (fun z hz9 => by cases hz9) (by decide) (by decide) lc_L_21 (by decide +kernel) hce hcv hcl g1 g2 ?_
      refine zs_widen9 (k' := 1) (n' := 6) (by decide) (by decide) ?_
      refine zs_astore_n (lo' := [(3, .ref q9), (0, .ref x), (1, .int y), (2, .ref u)]) hE dL_pieceOf_12 rfl (by decide) rfl ?_
      refine zs_iconst (v := (nI 1)) hE dL_pieceOf_13 (by decide) ?_
      exact zs_iret hE hr (by rw [ho]; exact ⟨rfl, z1, ⟨κ1, hX1, hk1⟩, f, ru1, fun w => absurd w (Nat.succ_ne_zero _)⟩) (by decide) (by decide) dL_pieceOf_14
    simp at hi
  · obtain ⟨o0, rfl, hz, κ1, hX1, hk1⟩ := hv
    have ru1 := ru.kept (k1 u lu (fun w => by have := w.2; omega))
    refine zs_widen9 (k' := 1) (n' := 6) (by decide) (by decide) ?_
    have hwf : sp_wf (o_pieceOf S y).2.2 := wfo_pieceOf hw y
    have h6 := hwf.1.1
    obtain ⟨w9, hw9⟩ := vi_pieceOf S y o0
    rw [hw9]
    refine zs_i2l hE dL_pieceOf_7 ?_
    refine zs_last hE ru1 (Or.inl (Or.inr rfl)) (by decide) (by decide) dL_pieceOf_8 (fun H1 hp1 hz1 ho1 => ?_)
    refine zs_goto (tgt := 15) hE dL_pieceOf_9 (by decide) ?_
    refine zs_iconst (v := (nI 0)) hE dL_pieceOf_15 (by decide) ?_
    exact zs_iret hE hr (⟨by rw [o0], by omega, ⟨κ1, hX1.mv (by omega) (fun q w1 w2 => ho1 q (fun e9 => by subst e9; rw [hk1 _ lu] at w2; omega)) h6, hk1⟩, _, hp1, fun _ => by rw [va_up_self]; exact (by rw [hw9]; rfl)⟩) (by decide) (by decide) dL_pieceOf_16

set_option maxHeartbeats 4000000 in
set_option maxRecDepth 100000 in
theorem m_L_note (D : va_G) (E : Nat → ClassId) (B : Nat) (l : Launch) (hl : l.stackTraces = false) (κ : Nat → Nat) (S : sp_S) (x u : Nat) (y : Int32) (hu : 500 ≤ κ u) : zw_Ct D E B l yL_note cL_note 4 [(0, 9, 12, 13), (0, 9, 15, 15)] ({ frames := 7, cells := 1, slots := 6, locals := 111 } : Room) [.ref x, .int y, .ref u] (fun H => cs_W D E κ S x H ∧ ∃ f, zs_pt D u (.inl (E 3, 1, .inr (.inl f))) H) (fun q => cs_F κ q ∨ q = u) (lw_L D E κ x u (o_note S y)) := by
  refine zw_ct (by decide) (Nat.le_of_ble_eq_true rfl) (fun p e s m below meth c hE hr htab hN hp => ?_)
  refine zs_lo (lo' := [(0, .ref x), (1, .int y), (2, .ref u)]) rfl ?_
  obtain ⟨hW, f, ru⟩ := id hp
  obtain ⟨hX0, hw⟩ := id hW
  obtain ⟨a1, a2, a3, a4, a5, lp, lv, lh, lz, tg, ⟨t0, t1, t2, t3, t4, t5, hx, r1, r2, r3, r4, r5⟩, htg, hP, hV, hG, hZ, hκ⟩ := hX0
  have lu := ru.lt
  refine zs_aload_n hE 2 dL_note_0 rfl rfl ?_
  refine zs_iconst (v := (nI 0)) hE dL_note_1 (by decide) ?_
  refine zs_aload_n hE 0 dL_note_2 rfl rfl ?_
  refine zs_iload_n hE 1 dL_note_3 rfl rfl ?_
  refine zw_callX (av := [.int y]) (st := [.int (nI 0), .ref u]) hE (m_X6_note D E B l hl κ S x y) sV_L_26 hx rfl rfl hW ⟨by decide, by decide⟩ ⟨by decide, by decide⟩ (fun q h => Or.inl (Or.inl h)) (Nat.le_of_ble_eq_true rfl) dL_note_4 (fun cls H1 ce q9 hx1 z1 k1 hce hcv hcl ls locs1 g1 g2 => ?_) (fun v H1 hv z1 k1 => ?_)
  · obtain ⟨i, hi, ho, hz, κ1, hX1, hk1⟩ := hx1
    have ru1 := ru.kept (k1 u lu (fun w => by have := w.2; omega))
    rcases i with _ | i
    · cases hi
      refine zw_catch hE htab [] ⟨0, 9, 12, 13⟩ [⟨0, 9, 15, 15⟩] rfl (fun z hz9 => by cases hz9) (by decide) (by decide) lc_L_13 (by decide +kernel) hce hcv hcl g1 g2 ?_
      refine zs_widen9 (k' := 1) (n' := 6) (by decide) (by decide) ?_
      refine zs_astore_n (lo' := [(3, .ref q9), (0, .ref x), (1, .int y), (2, .ref u)]) hE dL_note_12 rfl (by decide) rfl ?_
      refine zs_iconst (v := (nI 1)) hE dL_note_13 (by decide) ?_
      exact zs_iret hE hr (by rw [ho]; exact ⟨rfl, z1, ⟨κ1, hX1, hk1⟩, f, ru1, fun w => absurd w (Nat.succ_ne_zero _)⟩) (by decide) (by decide) dL_note_14
    rcases i with _ | i
    · cases hi
      refine zw_catch hE htab [⟨0, 9, 12, 13⟩] ⟨0, 9, 15, 15⟩ [] rfl (fun z hz9 => by simp only [List.mem_cons, List.not_mem_nil, or_false] at hz9; rcases hz9 with rfl; exact ⟨by decide, _, lc_L_13, hN ("java/lang/IllegalStateException", "java/lang/IllegalArgumentException") (by decide)⟩) (by decide) (by decide) lc_L_15 (by decide +kernel) hce hcv hcl g1 g2 ?_
      refine zs_widen9 (k' := 1) (n' := 6) (by decide) (by decide) ?_
      refine zs_astore_n (lo' := [(3, .ref q9), (0, .ref x), (1, .int y), (2, .ref u)]) hE dL_note_15 rfl (by decide) rfl ?_
      refine zs_iconst (v := (nI 2)) hE dL_note_16 (by decide) ?_
      exact zs_iret hE hr (by rw [ho]; exact ⟨rfl, z1, ⟨κ1, hX1, hk1⟩, f, ru1, fun w => absurd w (Nat.succ_ne_zero _)⟩) (by decide) (by decide) dL_note_17
    simp at hi
  · obtain ⟨o0, rfl, hz, κ1, hX1, hk1⟩ := hv
    have ru1 := ru.kept (k1 u lu (fun w => by have := w.2; omega))
    refine zs_widen9 (k' := 1) (n' := 6) (by decide) (by decide) ?_
    have hwf : sp_wf (o_note S y).2.2 := wfo_note hw y
    have h6 := hwf.1.1
    obtain ⟨w9, hw9⟩ := vi_note S y o0
    rw [hw9]
    refine zs_i2l hE dL_note_7 ?_
    refine zs_last hE ru1 (Or.inl (Or.inr rfl)) (by decide) (by decide) dL_note_8 (fun H1 hp1 hz1 ho1 => ?_)
    refine zs_goto (tgt := 18) hE dL_note_9 (by decide) ?_
    refine zs_iconst (v := (nI 0)) hE dL_note_18 (by decide) ?_
    exact zs_iret hE hr (⟨by rw [o0], by omega, ⟨κ1, hX1.mv (by omega) (fun q w1 w2 => ho1 q (fun e9 => by subst e9; rw [hk1 _ lu] at w2; omega)) h6, hk1⟩, _, hp1, fun _ => by rw [va_up_self]; exact (by rw [hw9]; rfl)⟩) (by decide) (by decide) dL_note_19

set_option maxHeartbeats 4000000 in
set_option maxRecDepth 100000 in
theorem m_L_write (D : va_G) (E : Nat → ClassId) (B : Nat) (l : Launch) (hl : l.stackTraces = false) (κ : Nat → Nat) (S : sp_S) (x u : Nat) (y w b q : Int32) (hu : 500 ≤ κ u) : zw_Ct D E B l yL_write cL_write 7 [(0, 14, 17, 21), (0, 14, 21, 13), (0, 14, 25, 15)] ({ frames := 7, cells := 8, slots := 64, locals := 128 } : Room) [.ref x, .int y, .int w, .int b, .int q, .ref u] (fun H => cs_W D E κ S x H ∧ ∃ f, zs_pt D u (.inl (E 3, 1, .inr (.inl f))) H) (fun q => cs_F κ q ∨ q = u) (lw_L D E κ x u (o_write S y w b q)) := by
  refine zw_ct (by decide) (Nat.le_of_ble_eq_true rfl) (fun p e s m below meth c hE hr htab hN hp => ?_)
  refine zs_lo (lo' := [(0, .ref x), (1, .int y), (2, .int w), (3, .int b), (4, .int q), (5, .ref u)]) rfl ?_
  obtain ⟨hW, f, ru⟩ := id hp
  obtain ⟨hX0, hw⟩ := id hW
  obtain ⟨a1, a2, a3, a4, a5, lp, lv, lh, lz, tg, ⟨t0, t1, t2, t3, t4, t5, hx, r1, r2, r3, r4, r5⟩, htg, hP, hV, hG, hZ, hκ⟩ := hX0
  have lu := ru.lt
  refine zs_aload hE 5 dL_write_0 rfl ?_
  refine zs_iconst (v := (nI 0)) hE dL_write_2 (by decide) ?_
  refine zs_aload_n hE 0 dL_write_3 rfl rfl ?_
  refine zs_iload_n hE 1 dL_write_4 rfl rfl ?_
  refine zs_iload_n hE 2 dL_write_5 rfl rfl ?_
  refine zs_iload_n hE 3 dL_write_6 rfl rfl ?_
  refine zs_iload hE 4 dL_write_7 rfl ?_
  refine zw_callX (av := [.int y, .int w, .int b, .int q]) (st := [.int (nI 0), .ref u]) hE (m_X6_write D E B l hl κ S x y w b q) sV_L_29 hx rfl rfl hW ⟨by decide, by decide⟩ ⟨by decide, by decide⟩ (fun q h => Or.inl (Or.inl h)) (Nat.le_of_ble_eq_true rfl) dL_write_9 (fun cls H1 ce q9 hx1 z1 k1 hce hcv hcl ls locs1 g1 g2 => ?_) (fun v H1 hv z1 k1 => ?_)
  · obtain ⟨i, hi, ho, hz, κ1, hX1, hk1⟩ := hx1
    have ru1 := ru.kept (k1 u lu (fun w => by have := w.2; omega))
    rcases i with _ | i
    · cases hi
      refine zw_catch hE htab [] ⟨0, 14, 17, 21⟩ [⟨0, 14, 21, 13⟩, ⟨0, 14, 25, 15⟩] rfl (fun z hz9 => by cases hz9) (by decide) (by decide) lc_L_21 (by decide +kernel) hce hcv hcl g1 g2 ?_
      refine zs_widen9 (k' := 8) (n' := 64) (by decide) (by decide) ?_
      refine zs_astore (lo' := [(6, .ref q9), (0, .ref x), (1, .int y), (2, .int w), (3, .int b), (4, .int q), (5, .ref u)]) hE dL_write_17 (by decide) rfl ?_
      refine zs_iconst (v := (nI 1)) hE dL_write_19 (by decide) ?_
      exact zs_iret hE hr (by rw [ho]; exact ⟨rfl, z1, ⟨κ1, hX1, hk1⟩, f, ru1, fun w => absurd w (Nat.succ_ne_zero _)⟩) (by decide) (by decide) dL_write_20
    rcases i with _ | i
    · cases hi
      refine zw_catch hE htab [⟨0, 14, 17, 21⟩] ⟨0, 14, 21, 13⟩ [⟨0, 14, 25, 15⟩] rfl (fun z hz9 => by simp only [List.mem_cons, List.not_mem_nil, or_false] at hz9; rcases hz9 with rfl; exact ⟨by decide, _, lc_L_21, hN ("java/lang/IllegalArgumentException", "java/lang/IndexOutOfBoundsException") (by decide)⟩) (by decide) (by decide) lc_L_13 (by decide +kernel) hce hcv hcl g1 g2 ?_
      refine zs_widen9 (k' := 8) (n' := 64) (by decide) (by decide) ?_
      refine zs_astore (lo' := [(6, .ref q9), (0, .ref x), (1, .int y), (2, .int w), (3, .int b), (4, .int q), (5, .ref u)]) hE dL_write_21 (by decide) rfl ?_
      refine zs_iconst (v := (nI 2)) hE dL_write_23 (by decide) ?_
      exact zs_iret hE hr (by rw [ho]; exact ⟨rfl, z1, ⟨κ1, hX1, hk1⟩, f, ru1, fun w => absurd w (Nat.succ_ne_zero _)⟩) (by decide) (by decide) dL_write_24
    rcases i with _ | i
    · cases hi
      refine zw_catch hE htab [⟨0, 14, 17, 21⟩, ⟨0, 14, 21, 13⟩] ⟨0, 14, 25, 15⟩ [] rfl (fun z hz9 => by simp only [List.mem_cons, List.not_mem_nil, or_false] at hz9; rcases hz9 with rfl | rfl; exact ⟨by decide, _, lc_L_21, hN ("java/lang/IllegalStateException", "java/lang/IndexOutOfBoundsException") (by decide)⟩; exact ⟨by decide, _, lc_L_13, hN ("java/lang/IllegalStateException", "java/lang/IllegalArgumentException") (by decide)⟩) (by decide) (by decide) lc_L_15 (by decide +kernel) hce hcv hcl g1 g2 ?_
      refine zs_widen9 (k' := 8) (n' := 64) (by decide) (by decide) ?_
      refine zs_astore (lo' := [(6, .ref q9), (0, .ref x), (1, .int y), (2, .int w), (3, .int b), (4, .int q), (5, .ref u)]) hE dL_write_25 (by decide) rfl ?_
      refine zs_iconst (v := (nI 3)) hE dL_write_27 (by decide) ?_
      exact zs_iret hE hr (by rw [ho]; exact ⟨rfl, z1, ⟨κ1, hX1, hk1⟩, f, ru1, fun w => absurd w (Nat.succ_ne_zero _)⟩) (by decide) (by decide) dL_write_28
    simp at hi
  · obtain ⟨o0, rfl, hz, κ1, hX1, hk1⟩ := hv
    have ru1 := ru.kept (k1 u lu (fun w => by have := w.2; omega))
    refine zs_widen9 (k' := 8) (n' := 64) (by decide) (by decide) ?_
    have hwf : sp_wf (o_write S y w b q).2.2 := wfo_write hw y w b q
    have h6 := hwf.1.1
    obtain ⟨w9, hw9⟩ := vi_write S y w b q o0
    rw [hw9]
    refine zs_i2l hE dL_write_12 ?_
    refine zs_last hE ru1 (Or.inl (Or.inr rfl)) (by decide) (by decide) dL_write_13 (fun H1 hp1 hz1 ho1 => ?_)
    refine zs_goto (tgt := 29) hE dL_write_14 (by decide) ?_
    refine zs_iconst (v := (nI 0)) hE dL_write_29 (by decide) ?_
    exact zs_iret hE hr (⟨by rw [o0], by omega, ⟨κ1, hX1.mv (by omega) (fun q w1 w2 => ho1 q (fun e9 => by subst e9; rw [hk1 _ lu] at w2; omega)) h6, hk1⟩, _, hp1, fun _ => by rw [va_up_self]; exact (by rw [hw9]; rfl)⟩) (by decide) (by decide) dL_write_30

set_option maxHeartbeats 4000000 in
set_option maxRecDepth 100000 in
theorem m_L_rule (D : va_G) (E : Nat → ClassId) (B : Nat) (l : Launch) (hl : l.stackTraces = false) (κ : Nat → Nat) (S : sp_S) (x u : Nat) (y z w : Int32) (hu : 500 ≤ κ u) : zw_Ct D E B l yL_rule cL_rule 6 [(0, 12, 15, 21), (0, 12, 19, 13)] ({ frames := 7, cells := 1, slots := 6, locals := 115 } : Room) [.ref x, .int y, .int z, .int w, .ref u] (fun H => cs_W D E κ S x H ∧ ∃ f, zs_pt D u (.inl (E 3, 1, .inr (.inl f))) H) (fun q => cs_F κ q ∨ q = u) (lw_L D E κ x u (o_rule S y z w)) := by
  refine zw_ct (by decide) (Nat.le_of_ble_eq_true rfl) (fun p e s m below meth c hE hr htab hN hp => ?_)
  refine zs_lo (lo' := [(0, .ref x), (1, .int y), (2, .int z), (3, .int w), (4, .ref u)]) rfl ?_
  obtain ⟨hW, f, ru⟩ := id hp
  obtain ⟨hX0, hw⟩ := id hW
  obtain ⟨a1, a2, a3, a4, a5, lp, lv, lh, lz, tg, ⟨t0, t1, t2, t3, t4, t5, hx, r1, r2, r3, r4, r5⟩, htg, hP, hV, hG, hZ, hκ⟩ := hX0
  have lu := ru.lt
  refine zs_aload hE 4 dL_rule_0 rfl ?_
  refine zs_iconst (v := (nI 0)) hE dL_rule_2 (by decide) ?_
  refine zs_aload_n hE 0 dL_rule_3 rfl rfl ?_
  refine zs_iload_n hE 1 dL_rule_4 rfl rfl ?_
  refine zs_iload_n hE 2 dL_rule_5 rfl rfl ?_
  refine zs_iload_n hE 3 dL_rule_6 rfl rfl ?_
  refine zw_callX (av := [.int y, .int z, .int w]) (st := [.int (nI 0), .ref u]) hE (m_X6_rule D E B l hl κ S x y z w) sV_L_33 hx rfl rfl hW ⟨by decide, by decide⟩ ⟨by decide, by decide⟩ (fun q h => Or.inl (Or.inl h)) (Nat.le_of_ble_eq_true rfl) dL_rule_7 (fun cls H1 ce q9 hx1 z1 k1 hce hcv hcl ls locs1 g1 g2 => ?_) (fun v H1 hv z1 k1 => ?_)
  · obtain ⟨i, hi, ho, hz, κ1, hX1, hk1⟩ := hx1
    have ru1 := ru.kept (k1 u lu (fun w => by have := w.2; omega))
    rcases i with _ | i
    · cases hi
      refine zw_catch hE htab [] ⟨0, 12, 15, 21⟩ [⟨0, 12, 19, 13⟩] rfl (fun z hz9 => by cases hz9) (by decide) (by decide) lc_L_21 (by decide +kernel) hce hcv hcl g1 g2 ?_
      refine zs_widen9 (k' := 1) (n' := 6) (by decide) (by decide) ?_
      refine zs_astore (lo' := [(5, .ref q9), (0, .ref x), (1, .int y), (2, .int z), (3, .int w), (4, .ref u)]) hE dL_rule_15 (by decide) rfl ?_
      refine zs_iconst (v := (nI 1)) hE dL_rule_17 (by decide) ?_
      exact zs_iret hE hr (by rw [ho]; exact ⟨rfl, z1, ⟨κ1, hX1, hk1⟩, f, ru1, fun w => absurd w (Nat.succ_ne_zero _)⟩) (by decide) (by decide) dL_rule_18
    rcases i with _ | i
    · cases hi
      refine zw_catch hE htab [⟨0, 12, 15, 21⟩] ⟨0, 12, 19, 13⟩ [] rfl (fun z hz9 => by simp only [List.mem_cons, List.not_mem_nil, or_false] at hz9; rcases hz9 with rfl; exact ⟨by decide, _, lc_L_21, hN ("java/lang/IllegalArgumentException", "java/lang/IndexOutOfBoundsException") (by decide)⟩) (by decide) (by decide) lc_L_13 (by decide +kernel) hce hcv hcl g1 g2 ?_
      refine zs_widen9 (k' := 1) (n' := 6) (by decide) (by decide) ?_
      refine zs_astore (lo' := [(5, .ref q9), (0, .ref x), (1, .int y), (2, .int z), (3, .int w), (4, .ref u)]) hE dL_rule_19 (by decide) rfl ?_
      refine zs_iconst (v := (nI 2)) hE dL_rule_21 (by decide) ?_
      exact zs_iret hE hr (by rw [ho]; exact ⟨rfl, z1, ⟨κ1, hX1, hk1⟩, f, ru1, fun w => absurd w (Nat.succ_ne_zero _)⟩) (by decide) (by decide) dL_rule_22
    simp at hi
  · obtain ⟨o0, rfl, hz, κ1, hX1, hk1⟩ := hv
    have ru1 := ru.kept (k1 u lu (fun w => by have := w.2; omega))
    refine zs_widen9 (k' := 1) (n' := 6) (by decide) (by decide) ?_
    have hwf : sp_wf (o_rule S y z w).2.2 := wfo_rule hw y z w
    have h6 := hwf.1.1
    obtain ⟨w9, hw9⟩ := vi_rule S y z w o0
    rw [hw9]
    refine zs_i2l hE dL_rule_10 ?_
    refine zs_last hE ru1 (Or.inl (Or.inr rfl)) (by decide) (by decide) dL_rule_11 (fun H1 hp1 hz1 ho1 => ?_)
    refine zs_goto (tgt := 23) hE dL_rule_12 (by decide) ?_
    refine zs_iconst (v := (nI 0)) hE dL_rule_23 (by decide) ?_
    exact zs_iret hE hr (⟨by rw [o0], by omega, ⟨κ1, hX1.mv (by omega) (fun q w1 w2 => ho1 q (fun e9 => by subst e9; rw [hk1 _ lu] at w2; omega)) h6, hk1⟩, _, hp1, fun _ => by rw [va_up_self]; exact (by rw [hw9]; rfl)⟩) (by decide) (by decide) dL_rule_24

set_option maxHeartbeats 4000000 in
set_option maxRecDepth 100000 in
theorem m_L_merge (D : va_G) (E : Nat → ClassId) (B : Nat) (l : Launch) (hl : l.stackTraces = false) (κ : Nat → Nat) (S : sp_S) (x u : Nat) (y z ed : Int32) (hu : 500 ≤ κ u) : zw_Ct D E B l yL_merge cL_merge 6 [(0, 12, 15, 21), (0, 12, 19, 13), (0, 12, 23, 41), (0, 12, 27, 15)] ({ frames := 7, cells := 70, slots := 240, locals := 147 } : Room) [.ref x, .int y, .int z, .int ed, .ref u] (fun H => cs_W D E κ S x H ∧ ∃ f, zs_pt D u (.inl (E 3, 1, .inr (.inl f))) H) (fun q => cs_F κ q ∨ q = u) (lw_L D E κ x u (o_merge S y z ed)) := by
  refine zw_ct (by decide) (Nat.le_of_ble_eq_true rfl) (fun p e s m below meth c hE hr htab hN hp => ?_)
  refine zs_lo (lo' := [(0, .ref x), (1, .int y), (2, .int z), (3, .int ed), (4, .ref u)]) rfl ?_
  obtain ⟨hW, f, ru⟩ := id hp
  obtain ⟨hX0, hw⟩ := id hW
  obtain ⟨a1, a2, a3, a4, a5, lp, lv, lh, lz, tg, ⟨t0, t1, t2, t3, t4, t5, hx, r1, r2, r3, r4, r5⟩, htg, hP, hV, hG, hZ, hκ⟩ := hX0
  have lu := ru.lt
  refine zs_aload hE 4 dL_merge_0 rfl ?_
  refine zs_iconst (v := (nI 0)) hE dL_merge_2 (by decide) ?_
  refine zs_aload_n hE 0 dL_merge_3 rfl rfl ?_
  refine zs_iload_n hE 1 dL_merge_4 rfl rfl ?_
  refine zs_iload_n hE 2 dL_merge_5 rfl rfl ?_
  refine zs_iload_n hE 3 dL_merge_6 rfl rfl ?_
  refine zw_callX (av := [.int y, .int z, .int ed]) (st := [.int (nI 0), .ref u]) hE (m_X6_merge D E B l hl κ S x y z ed) sV_L_37 hx rfl rfl hW ⟨by decide, by decide⟩ ⟨by decide, by decide⟩ (fun q h => Or.inl (Or.inl h)) (Nat.le_of_ble_eq_true rfl) dL_merge_7 (fun cls H1 ce q9 hx1 z1 k1 hce hcv hcl ls locs1 g1 g2 => ?_) (fun v H1 hv z1 k1 => ?_)
  · obtain ⟨i, hi, ho, hz, κ1, hX1, hk1⟩ := hx1
    have ru1 := ru.kept (k1 u lu (fun w => by have := w.2; omega))
    rcases i with _ | i
    · cases hi
      refine zw_catch hE htab [] ⟨0, 12, 15, 21⟩ [⟨0, 12, 19, 13⟩, ⟨0, 12, 23, 41⟩, ⟨0, 12, 27, 15⟩] rfl (fun z hz9 => by cases hz9) (by decide) (by decide) lc_L_21 (by decide +kernel) hce hcv hcl g1 g2 ?_
      refine zs_widen9 (k' := 70) (n' := 240) (by decide) (by decide) ?_
      refine zs_astore (lo' := [(5, .ref q9), (0, .ref x), (1, .int y), (2, .int z), (3, .int ed), (4, .ref u)]) hE dL_merge_15 (by decide) rfl ?_
      refine zs_iconst (v := (nI 1)) hE dL_merge_17 (by decide) ?_
      exact zs_iret hE hr (by rw [ho]; exact ⟨rfl, z1, ⟨κ1, hX1, hk1⟩, f, ru1, fun w => absurd w (Nat.succ_ne_zero _)⟩) (by decide) (by decide) dL_merge_18
    rcases i with _ | i
    · cases hi
      refine zw_catch hE htab [⟨0, 12, 15, 21⟩] ⟨0, 12, 19, 13⟩ [⟨0, 12, 23, 41⟩, ⟨0, 12, 27, 15⟩] rfl (fun z hz9 => by simp only [List.mem_cons, List.not_mem_nil, or_false] at hz9; rcases hz9 with rfl; exact ⟨by decide, _, lc_L_21, hN ("java/lang/IllegalArgumentException", "java/lang/IndexOutOfBoundsException") (by decide)⟩) (by decide) (by decide) lc_L_13 (by decide +kernel) hce hcv hcl g1 g2 ?_
      refine zs_widen9 (k' := 70) (n' := 240) (by decide) (by decide) ?_
      refine zs_astore (lo' := [(5, .ref q9), (0, .ref x), (1, .int y), (2, .int z), (3, .int ed), (4, .ref u)]) hE dL_merge_19 (by decide) rfl ?_
      refine zs_iconst (v := (nI 2)) hE dL_merge_21 (by decide) ?_
      exact zs_iret hE hr (by rw [ho]; exact ⟨rfl, z1, ⟨κ1, hX1, hk1⟩, f, ru1, fun w => absurd w (Nat.succ_ne_zero _)⟩) (by decide) (by decide) dL_merge_22
    rcases i with _ | i
    · cases hi
      refine zw_catch hE htab [⟨0, 12, 15, 21⟩, ⟨0, 12, 19, 13⟩] ⟨0, 12, 23, 41⟩ [⟨0, 12, 27, 15⟩] rfl (fun z hz9 => by simp only [List.mem_cons, List.not_mem_nil, or_false] at hz9; rcases hz9 with rfl | rfl; exact ⟨by decide, _, lc_L_21, hN ("java/lang/UnsupportedOperationException", "java/lang/IndexOutOfBoundsException") (by decide)⟩; exact ⟨by decide, _, lc_L_13, hN ("java/lang/UnsupportedOperationException", "java/lang/IllegalArgumentException") (by decide)⟩) (by decide) (by decide) lc_L_41 (by decide +kernel) hce hcv hcl g1 g2 ?_
      refine zs_widen9 (k' := 70) (n' := 240) (by decide) (by decide) ?_
      refine zs_astore (lo' := [(5, .ref q9), (0, .ref x), (1, .int y), (2, .int z), (3, .int ed), (4, .ref u)]) hE dL_merge_23 (by decide) rfl ?_
      refine zs_iconst (v := (nI 3)) hE dL_merge_25 (by decide) ?_
      exact zs_iret hE hr (by rw [ho]; exact ⟨rfl, z1, ⟨κ1, hX1, hk1⟩, f, ru1, fun w => absurd w (Nat.succ_ne_zero _)⟩) (by decide) (by decide) dL_merge_26
    rcases i with _ | i
    · cases hi
      refine zw_catch hE htab [⟨0, 12, 15, 21⟩, ⟨0, 12, 19, 13⟩, ⟨0, 12, 23, 41⟩] ⟨0, 12, 27, 15⟩ [] rfl (fun z hz9 => by simp only [List.mem_cons, List.not_mem_nil, or_false] at hz9; rcases hz9 with rfl | rfl | rfl; exact ⟨by decide, _, lc_L_21, hN ("java/lang/IllegalStateException", "java/lang/IndexOutOfBoundsException") (by decide)⟩; exact ⟨by decide, _, lc_L_13, hN ("java/lang/IllegalStateException", "java/lang/IllegalArgumentException") (by decide)⟩; exact ⟨by decide, _, lc_L_41, hN ("java/lang/IllegalStateException", "java/lang/UnsupportedOperationException") (by decide)⟩) (by decide) (by decide) lc_L_15 (by decide +kernel) hce hcv hcl g1 g2 ?_
      refine zs_widen9 (k' := 70) (n' := 240) (by decide) (by decide) ?_
      refine zs_astore (lo' := [(5, .ref q9), (0, .ref x), (1, .int y), (2, .int z), (3, .int ed), (4, .ref u)]) hE dL_merge_27 (by decide) rfl ?_
      refine zs_iconst (v := (nI 4)) hE dL_merge_29 (by decide) ?_
      exact zs_iret hE hr (by rw [ho]; exact ⟨rfl, z1, ⟨κ1, hX1, hk1⟩, f, ru1, fun w => absurd w (Nat.succ_ne_zero _)⟩) (by decide) (by decide) dL_merge_30
    simp at hi
  · obtain ⟨o0, rfl, hz, κ1, hX1, hk1⟩ := hv
    have ru1 := ru.kept (k1 u lu (fun w => by have := w.2; omega))
    refine zs_widen9 (k' := 70) (n' := 240) (by decide) (by decide) ?_
    have hwf : sp_wf (o_merge S y z ed).2.2 := wfo_merge hw y z ed
    have h6 := hwf.1.1
    obtain ⟨w9, hw9⟩ := vi_merge S y z ed o0
    rw [hw9]
    refine zs_i2l hE dL_merge_10 ?_
    refine zs_last hE ru1 (Or.inl (Or.inr rfl)) (by decide) (by decide) dL_merge_11 (fun H1 hp1 hz1 ho1 => ?_)
    refine zs_goto (tgt := 31) hE dL_merge_12 (by decide) ?_
    refine zs_iconst (v := (nI 0)) hE dL_merge_31 (by decide) ?_
    exact zs_iret hE hr (⟨by rw [o0], by omega, ⟨κ1, hX1.mv (by omega) (fun q w1 w2 => ho1 q (fun e9 => by subst e9; rw [hk1 _ lu] at w2; omega)) h6, hk1⟩, _, hp1, fun _ => by rw [va_up_self]; exact (by rw [hw9]; rfl)⟩) (by decide) (by decide) dL_merge_32

set_option maxHeartbeats 4000000 in
set_option maxRecDepth 100000 in
theorem m_L_base (D : va_G) (E : Nat → ClassId) (B : Nat) (l : Launch) (hl : l.stackTraces = false) (κ : Nat → Nat) (S : sp_S) (x u : Nat) (y z : Int32) (hu : 500 ≤ κ u) : zw_Ct D E B l yL_base cL_base 5 [(0, 10, 13, 21), (0, 10, 17, 41)] ({ frames := 7, cells := 1, slots := 6, locals := 114 } : Room) [.ref x, .int y, .int z, .ref u] (fun H => cs_W D E κ S x H ∧ ∃ f, zs_pt D u (.inl (E 3, 1, .inr (.inl f))) H) (fun q => cs_F κ q ∨ q = u) (lw_L D E κ x u (o_base S y z)) := by
  refine zw_ct (by decide) (Nat.le_of_ble_eq_true rfl) (fun p e s m below meth c hE hr htab hN hp => ?_)
  refine zs_lo (lo' := [(0, .ref x), (1, .int y), (2, .int z), (3, .ref u)]) rfl ?_
  obtain ⟨hW, f, ru⟩ := id hp
  obtain ⟨hX0, hw⟩ := id hW
  obtain ⟨a1, a2, a3, a4, a5, lp, lv, lh, lz, tg, ⟨t0, t1, t2, t3, t4, t5, hx, r1, r2, r3, r4, r5⟩, htg, hP, hV, hG, hZ, hκ⟩ := hX0
  have lu := ru.lt
  refine zs_aload_n hE 3 dL_base_0 rfl rfl ?_
  refine zs_iconst (v := (nI 0)) hE dL_base_1 (by decide) ?_
  refine zs_aload_n hE 0 dL_base_2 rfl rfl ?_
  refine zs_iload_n hE 1 dL_base_3 rfl rfl ?_
  refine zs_iload_n hE 2 dL_base_4 rfl rfl ?_
  refine zw_callX (av := [.int y, .int z]) (st := [.int (nI 0), .ref u]) hE (m_X6_base D E B l hl κ S x y z) sV_L_43 hx rfl rfl hW ⟨by decide, by decide⟩ ⟨by decide, by decide⟩ (fun q h => Or.inl (Or.inl h)) (Nat.le_of_ble_eq_true rfl) dL_base_5 (fun cls H1 ce q9 hx1 z1 k1 hce hcv hcl ls locs1 g1 g2 => ?_) (fun v H1 hv z1 k1 => ?_)
  · obtain ⟨i, hi, ho, hz, κ1, hX1, hk1⟩ := hx1
    have ru1 := ru.kept (k1 u lu (fun w => by have := w.2; omega))
    rcases i with _ | i
    · cases hi
      refine zw_catch hE htab [] ⟨0, 10, 13, 21⟩ [⟨0, 10, 17, 41⟩] rfl (fun z hz9 => by cases hz9) (by decide) (by decide) lc_L_21 (by decide +kernel) hce hcv hcl g1 g2 ?_
      refine zs_widen9 (k' := 1) (n' := 6) (by decide) (by decide) ?_
      refine zs_astore (lo' := [(4, .ref q9), (0, .ref x), (1, .int y), (2, .int z), (3, .ref u)]) hE dL_base_13 (by decide) rfl ?_
      refine zs_iconst (v := (nI 1)) hE dL_base_15 (by decide) ?_
      exact zs_iret hE hr (by rw [ho]; exact ⟨rfl, z1, ⟨κ1, hX1, hk1⟩, f, ru1, fun w => absurd w (Nat.succ_ne_zero _)⟩) (by decide) (by decide) dL_base_16
    rcases i with _ | i
    · cases hi
      refine zw_catch hE htab [⟨0, 10, 13, 21⟩] ⟨0, 10, 17, 41⟩ [] rfl (fun z hz9 => by simp only [List.mem_cons, List.not_mem_nil, or_false] at hz9; rcases hz9 with rfl; exact ⟨by decide, _, lc_L_21, hN ("java/lang/UnsupportedOperationException", "java/lang/IndexOutOfBoundsException") (by decide)⟩) (by decide) (by decide) lc_L_41 (by decide +kernel) hce hcv hcl g1 g2 ?_
      refine zs_widen9 (k' := 1) (n' := 6) (by decide) (by decide) ?_
      refine zs_astore (lo' := [(4, .ref q9), (0, .ref x), (1, .int y), (2, .int z), (3, .ref u)]) hE dL_base_17 (by decide) rfl ?_
      refine zs_iconst (v := (nI 2)) hE dL_base_19 (by decide) ?_
      exact zs_iret hE hr (by rw [ho]; exact ⟨rfl, z1, ⟨κ1, hX1, hk1⟩, f, ru1, fun w => absurd w (Nat.succ_ne_zero _)⟩) (by decide) (by decide) dL_base_20
    simp at hi
  · obtain ⟨o0, rfl, hz, κ1, hX1, hk1⟩ := hv
    have ru1 := ru.kept (k1 u lu (fun w => by have := w.2; omega))
    refine zs_widen9 (k' := 1) (n' := 6) (by decide) (by decide) ?_
    have hwf : sp_wf (o_base S y z).2.2 := wfo_base hw y z
    have h6 := hwf.1.1
    obtain ⟨w9, hw9⟩ := vi_base S y z o0
    rw [hw9]
    refine zs_i2l hE dL_base_8 ?_
    refine zs_last hE ru1 (Or.inl (Or.inr rfl)) (by decide) (by decide) dL_base_9 (fun H1 hp1 hz1 ho1 => ?_)
    refine zs_goto (tgt := 21) hE dL_base_10 (by decide) ?_
    refine zs_iconst (v := (nI 0)) hE dL_base_21 (by decide) ?_
    exact zs_iret hE hr (⟨by rw [o0], by omega, ⟨κ1, hX1.mv (by omega) (fun q w1 w2 => ho1 q (fun e9 => by subst e9; rw [hk1 _ lu] at w2; omega)) h6, hk1⟩, _, hp1, fun _ => by rw [va_up_self]; exact (by rw [hw9]; rfl)⟩) (by decide) (by decide) dL_base_22

set_option maxHeartbeats 4000000 in
set_option maxRecDepth 100000 in
theorem m_L_isAbove (D : va_G) (E : Nat → ClassId) (B : Nat) (l : Launch) (hl : l.stackTraces = false) (κ : Nat → Nat) (S : sp_S) (x u : Nat) (y z : Int32) (hu : 500 ≤ κ u) : zw_Ct D E B l yL_isAbove cL_isAbove 5 [(0, 17, 20, 21)] ({ frames := 7, cells := 1, slots := 6, locals := 114 } : Room) [.ref x, .int y, .int z, .ref u] (fun H => cs_W D E κ S x H ∧ ∃ f, zs_pt D u (.inl (E 3, 1, .inr (.inl f))) H) (fun q => cs_F κ q ∨ q = u) (lw_L D E κ x u (o_isAbove S y z)) := by
  refine zw_ct (by decide) (Nat.le_of_ble_eq_true rfl) (fun p e s m below meth c hE hr htab hN hp => ?_)
  refine zs_lo (lo' := [(0, .ref x), (1, .int y), (2, .int z), (3, .ref u)]) rfl ?_
  obtain ⟨hW, f, ru⟩ := id hp
  obtain ⟨hX0, hw⟩ := id hW
  obtain ⟨a1, a2, a3, a4, a5, lp, lv, lh, lz, tg, ⟨t0, t1, t2, t3, t4, t5, hx, r1, r2, r3, r4, r5⟩, htg, hP, hV, hG, hZ, hκ⟩ := hX0
  have lu := ru.lt
  refine zs_aload_n hE 3 dL_isAbove_0 rfl rfl ?_
  refine zs_iconst (v := (nI 0)) hE dL_isAbove_1 (by decide) ?_
  refine zs_aload_n hE 0 dL_isAbove_2 rfl rfl ?_
  refine zs_iload_n hE 1 dL_isAbove_3 rfl rfl ?_
  refine zs_iload_n hE 2 dL_isAbove_4 rfl rfl ?_
  refine zw_callX (av := [.int y, .int z]) (st := [.int (nI 0), .ref u]) hE (m_X6_isAbove D E B l hl κ S x y z) sV_L_46 hx rfl rfl hW ⟨by decide, by decide⟩ ⟨by decide, by decide⟩ (fun q h => Or.inl (Or.inl h)) (Nat.le_of_ble_eq_true rfl) dL_isAbove_5 (fun cls H1 ce q9 hx1 z1 k1 hce hcv hcl ls locs1 g1 g2 => ?_) (fun v H1 hv z1 k1 => ?_)
  · obtain ⟨i, hi, ho, hz, κ1, hX1, hk1⟩ := hx1
    have ru1 := ru.kept (k1 u lu (fun w => by have := w.2; omega))
    rcases i with _ | i
    · cases hi
      refine zw_catch hE htab [] ⟨0, 17, 20, 21⟩ [] rfl (fun z hz9 => by cases hz9) (by decide) (by decide) lc_L_21 (by decide +kernel) hce hcv hcl g1 g2 ?_
      refine zs_widen9 (k' := 1) (n' := 6) (by decide) (by decide) ?_
      refine zs_astore (lo' := [(4, .ref q9), (0, .ref x), (1, .int y), (2, .int z), (3, .ref u)]) hE dL_isAbove_20 (by decide) rfl ?_
      refine zs_iconst (v := (nI 1)) hE dL_isAbove_22 (by decide) ?_
      exact zs_iret hE hr (by rw [ho]; exact ⟨rfl, z1, ⟨κ1, hX1, hk1⟩, f, ru1, fun w => absurd w (Nat.succ_ne_zero _)⟩) (by decide) (by decide) dL_isAbove_23
    simp at hi
  · obtain ⟨o0, rfl, hz, κ1, hX1, hk1⟩ := hv
    have ru1 := ru.kept (k1 u lu (fun w => by have := w.2; omega))
    refine zs_widen9 (k' := 1) (n' := 6) (by decide) (by decide) ?_
    have hwf : sp_wf (o_isAbove S y z).2.2 := wfo_isAbove hw y z
    have h6 := hwf.1.1
    obtain ⟨P9, hw9⟩ := vb_isAbove S y z o0
    rw [hw9]
    refine zs_if_eqB (tgt := 15) hE dL_isAbove_8 (by decide) (fun h9 => ?_) (fun h9 => ?_)
    · refine zs_lconst (v := (0 : Int64)) hE dL_isAbove_15 (by decide) ?_
      refine zs_last hE ru1 (Or.inl (Or.inr rfl)) (by decide) (by decide) dL_isAbove_16 (fun H1 hp1 hz1 ho1 => ?_)
      refine zs_goto (tgt := 24) hE dL_isAbove_17 (by decide) ?_
      refine zs_iconst (v := (nI 0)) hE dL_isAbove_24 (by decide) ?_
      exact zs_iret hE hr (⟨by rw [o0], by omega, ⟨κ1, hX1.mv (by omega) (fun q w1 w2 => ho1 q (fun e9 => by subst e9; rw [hk1 _ lu] at w2; omega)) h6, hk1⟩, _, hp1, fun _ => by rw [va_up_self]; exact (by rw [hw9, zs_b0 h9]; rfl)⟩) (by decide) (by decide) dL_isAbove_25
    · refine zs_lconst (v := (1 : Int64)) hE dL_isAbove_11 (by decide) ?_
      refine zs_goto (tgt := 16) hE dL_isAbove_12 (by decide) ?_
      refine zs_last hE ru1 (Or.inl (Or.inr rfl)) (by decide) (by decide) dL_isAbove_16 (fun H2 hp2 hz2 ho2 => ?_)
      refine zs_goto (tgt := 24) hE dL_isAbove_17 (by decide) ?_
      refine zs_iconst (v := (nI 0)) hE dL_isAbove_24 (by decide) ?_
      exact zs_iret hE hr (⟨by rw [o0], by omega, ⟨κ1, hX1.mv (by omega) (fun q w1 w2 => ho2 q (fun e9 => by subst e9; rw [hk1 _ lu] at w2; omega)) h6, hk1⟩, _, hp2, fun _ => by rw [va_up_self]; exact (by rw [hw9, zs_b1 h9]; rfl)⟩) (by decide) (by decide) dL_isAbove_25

set_option maxHeartbeats 4000000 in
set_option maxRecDepth 100000 in
theorem m_L_rows (D : va_G) (E : Nat → ClassId) (B : Nat) (l : Launch) (hl : l.stackTraces = false) (κ : Nat → Nat) (S : sp_S) (x u : Nat) (y b q : Int32) (hu : 500 ≤ κ u) : zw_Ct D E B l yL_rows cL_rows 6 [(0, 12, 15, 21)] ({ frames := 7, cells := 1, slots := 6, locals := 114 } : Room) [.ref x, .int y, .int b, .int q, .ref u] (fun H => cs_W D E κ S x H ∧ ∃ f, zs_pt D u (.inl (E 3, 1, .inr (.inl f))) H) (fun q => cs_F κ q ∨ q = u) (lw_L D E κ x u (o_rows S y b q)) := by
  refine zw_ct (by decide) (Nat.le_of_ble_eq_true rfl) (fun p e s m below meth c hE hr htab hN hp => ?_)
  refine zs_lo (lo' := [(0, .ref x), (1, .int y), (2, .int b), (3, .int q), (4, .ref u)]) rfl ?_
  obtain ⟨hW, f, ru⟩ := id hp
  obtain ⟨hX0, hw⟩ := id hW
  obtain ⟨a1, a2, a3, a4, a5, lp, lv, lh, lz, tg, ⟨t0, t1, t2, t3, t4, t5, hx, r1, r2, r3, r4, r5⟩, htg, hP, hV, hG, hZ, hκ⟩ := hX0
  have lu := ru.lt
  refine zs_aload hE 4 dL_rows_0 rfl ?_
  refine zs_iconst (v := (nI 0)) hE dL_rows_2 (by decide) ?_
  refine zs_aload_n hE 0 dL_rows_3 rfl rfl ?_
  refine zs_iload_n hE 1 dL_rows_4 rfl rfl ?_
  refine zs_iload_n hE 2 dL_rows_5 rfl rfl ?_
  refine zs_iload_n hE 3 dL_rows_6 rfl rfl ?_
  refine zw_callX (av := [.int y, .int b, .int q]) (st := [.int (nI 0), .ref u]) hE (m_X6_rows D E B l hl κ S x y b q) sV_L_50 hx rfl rfl hW ⟨by decide, by decide⟩ ⟨by decide, by decide⟩ (fun q h => Or.inl (Or.inl h)) (Nat.le_of_ble_eq_true rfl) dL_rows_7 (fun cls H1 ce q9 hx1 z1 k1 hce hcv hcl ls locs1 g1 g2 => ?_) (fun v H1 hv z1 k1 => ?_)
  · obtain ⟨i, hi, ho, hz, κ1, hX1, hk1⟩ := hx1
    have ru1 := ru.kept (k1 u lu (fun w => by have := w.2; omega))
    rcases i with _ | i
    · cases hi
      refine zw_catch hE htab [] ⟨0, 12, 15, 21⟩ [] rfl (fun z hz9 => by cases hz9) (by decide) (by decide) lc_L_21 (by decide +kernel) hce hcv hcl g1 g2 ?_
      refine zs_widen9 (k' := 1) (n' := 6) (by decide) (by decide) ?_
      refine zs_astore (lo' := [(5, .ref q9), (0, .ref x), (1, .int y), (2, .int b), (3, .int q), (4, .ref u)]) hE dL_rows_15 (by decide) rfl ?_
      refine zs_iconst (v := (nI 1)) hE dL_rows_17 (by decide) ?_
      exact zs_iret hE hr (by rw [ho]; exact ⟨rfl, z1, ⟨κ1, hX1, hk1⟩, f, ru1, fun w => absurd w (Nat.succ_ne_zero _)⟩) (by decide) (by decide) dL_rows_18
    simp at hi
  · obtain ⟨o0, rfl, hz, κ1, hX1, hk1⟩ := hv
    have ru1 := ru.kept (k1 u lu (fun w => by have := w.2; omega))
    refine zs_widen9 (k' := 1) (n' := 6) (by decide) (by decide) ?_
    have hwf : sp_wf (o_rows S y b q).2.2 := wfo_rows hw y b q
    have h6 := hwf.1.1
    obtain ⟨w9, hw9⟩ := vi_rows S y b q o0
    rw [hw9]
    refine zs_i2l hE dL_rows_10 ?_
    refine zs_last hE ru1 (Or.inl (Or.inr rfl)) (by decide) (by decide) dL_rows_11 (fun H1 hp1 hz1 ho1 => ?_)
    refine zs_goto (tgt := 19) hE dL_rows_12 (by decide) ?_
    refine zs_iconst (v := (nI 0)) hE dL_rows_19 (by decide) ?_
    exact zs_iret hE hr (⟨by rw [o0], by omega, ⟨κ1, hX1.mv (by omega) (fun q w1 w2 => ho1 q (fun e9 => by subst e9; rw [hk1 _ lu] at w2; omega)) h6, hk1⟩, _, hp1, fun _ => by rw [va_up_self]; exact (by rw [hw9]; rfl)⟩) (by decide) (by decide) dL_rows_20

set_option maxHeartbeats 4000000 in
set_option maxRecDepth 100000 in
theorem m_L_noteAt (D : va_G) (E : Nat → ClassId) (B : Nat) (l : Launch) (hl : l.stackTraces = false) (κ : Nat → Nat) (S : sp_S) (x u : Nat) (y b q w uu : Int32) (hu : 500 ≤ κ u) : zw_Ct D E B l yL_noteAt cL_noteAt 8 [(0, 16, 19, 21), (0, 16, 23, 57)] ({ frames := 7, cells := 1, slots := 6, locals := 117 } : Room) [.ref x, .int y, .int b, .int q, .int w, .int uu, .ref u] (fun H => cs_W D E κ S x H ∧ ∃ f, zs_pt D u (.inl (E 3, 1, .inr (.inl f))) H) (fun q => cs_F κ q ∨ q = u) (lw_L D E κ x u (o_noteAt S y b q w uu)) := by
  refine zw_ct (by decide) (Nat.le_of_ble_eq_true rfl) (fun p e s m below meth c hE hr htab hN hp => ?_)
  refine zs_lo (lo' := [(0, .ref x), (1, .int y), (2, .int b), (3, .int q), (4, .int w), (5, .int uu), (6, .ref u)]) rfl ?_
  obtain ⟨hW, f, ru⟩ := id hp
  obtain ⟨hX0, hw⟩ := id hW
  obtain ⟨a1, a2, a3, a4, a5, lp, lv, lh, lz, tg, ⟨t0, t1, t2, t3, t4, t5, hx, r1, r2, r3, r4, r5⟩, htg, hP, hV, hG, hZ, hκ⟩ := hX0
  have lu := ru.lt
  refine zs_aload hE 6 dL_noteAt_0 rfl ?_
  refine zs_iconst (v := (nI 0)) hE dL_noteAt_2 (by decide) ?_
  refine zs_aload_n hE 0 dL_noteAt_3 rfl rfl ?_
  refine zs_iload_n hE 1 dL_noteAt_4 rfl rfl ?_
  refine zs_iload_n hE 2 dL_noteAt_5 rfl rfl ?_
  refine zs_iload_n hE 3 dL_noteAt_6 rfl rfl ?_
  refine zs_iload hE 4 dL_noteAt_7 rfl ?_
  refine zs_iload hE 5 dL_noteAt_9 rfl ?_
  refine zw_callX (av := [.int y, .int b, .int q, .int w, .int uu]) (st := [.int (nI 0), .ref u]) hE (m_X6_noteAt D E B l hl κ S x y b q w uu) sV_L_53 hx rfl rfl hW ⟨by decide, by decide⟩ ⟨by decide, by decide⟩ (fun q h => Or.inl (Or.inl h)) (Nat.le_of_ble_eq_true rfl) dL_noteAt_11 (fun cls H1 ce q9 hx1 z1 k1 hce hcv hcl ls locs1 g1 g2 => ?_) (fun v H1 hv z1 k1 => ?_)
  · obtain ⟨i, hi, ho, hz, κ1, hX1, hk1⟩ := hx1
    have ru1 := ru.kept (k1 u lu (fun w => by have := w.2; omega))
    rcases i with _ | i
    · cases hi
      refine zw_catch hE htab [] ⟨0, 16, 19, 21⟩ [⟨0, 16, 23, 57⟩] rfl (fun z hz9 => by cases hz9) (by decide) (by decide) lc_L_21 (by decide +kernel) hce hcv hcl g1 g2 ?_
      refine zs_widen9 (k' := 1) (n' := 6) (by decide) (by decide) ?_
      refine zs_astore (lo' := [(7, .ref q9), (0, .ref x), (1, .int y), (2, .int b), (3, .int q), (4, .int w), (5, .int uu), (6, .ref u)]) hE dL_noteAt_19 (by decide) rfl ?_
      refine zs_iconst (v := (nI 1)) hE dL_noteAt_21 (by decide) ?_
      exact zs_iret hE hr (by rw [ho]; exact ⟨rfl, z1, ⟨κ1, hX1, hk1⟩, f, ru1, fun w => absurd w (Nat.succ_ne_zero _)⟩) (by decide) (by decide) dL_noteAt_22
    rcases i with _ | i
    · cases hi
      refine zw_catch hE htab [⟨0, 16, 19, 21⟩] ⟨0, 16, 23, 57⟩ [] rfl (fun z hz9 => by simp only [List.mem_cons, List.not_mem_nil, or_false] at hz9; rcases hz9 with rfl; exact ⟨by decide, _, lc_L_21, hN ("java/util/NoSuchElementException", "java/lang/IndexOutOfBoundsException") (by decide)⟩) (by decide) (by decide) lc_L_57 (by decide +kernel) hce hcv hcl g1 g2 ?_
      refine zs_widen9 (k' := 1) (n' := 6) (by decide) (by decide) ?_
      refine zs_astore (lo' := [(7, .ref q9), (0, .ref x), (1, .int y), (2, .int b), (3, .int q), (4, .int w), (5, .int uu), (6, .ref u)]) hE dL_noteAt_23 (by decide) rfl ?_
      refine zs_iconst (v := (nI 2)) hE dL_noteAt_25 (by decide) ?_
      exact zs_iret hE hr (by rw [ho]; exact ⟨rfl, z1, ⟨κ1, hX1, hk1⟩, f, ru1, fun w => absurd w (Nat.succ_ne_zero _)⟩) (by decide) (by decide) dL_noteAt_26
    simp at hi
  · obtain ⟨o0, rfl, hz, κ1, hX1, hk1⟩ := hv
    have ru1 := ru.kept (k1 u lu (fun w => by have := w.2; omega))
    refine zs_widen9 (k' := 1) (n' := 6) (by decide) (by decide) ?_
    have hwf : sp_wf (o_noteAt S y b q w uu).2.2 := wfo_noteAt hw y b q w uu
    have h6 := hwf.1.1
    obtain ⟨w9, hw9⟩ := vi_noteAt S y b q w uu o0
    rw [hw9]
    refine zs_i2l hE dL_noteAt_14 ?_
    refine zs_last hE ru1 (Or.inl (Or.inr rfl)) (by decide) (by decide) dL_noteAt_15 (fun H1 hp1 hz1 ho1 => ?_)
    refine zs_goto (tgt := 27) hE dL_noteAt_16 (by decide) ?_
    refine zs_iconst (v := (nI 0)) hE dL_noteAt_27 (by decide) ?_
    exact zs_iret hE hr (⟨by rw [o0], by omega, ⟨κ1, hX1.mv (by omega) (fun q w1 w2 => ho1 q (fun e9 => by subst e9; rw [hk1 _ lu] at w2; omega)) h6, hk1⟩, _, hp1, fun _ => by rw [va_up_self]; exact (by rw [hw9]; rfl)⟩) (by decide) (by decide) dL_noteAt_28

set_option maxHeartbeats 4000000 in
set_option maxRecDepth 100000 in
theorem m_L_writer (D : va_G) (E : Nat → ClassId) (B : Nat) (l : Launch) (hl : l.stackTraces = false) (κ : Nat → Nat) (S : sp_S) (x u : Nat) (y b q w : Int32) (hu : 500 ≤ κ u) : zw_Ct D E B l yL_writer cL_writer 7 [(0, 14, 17, 21), (0, 14, 21, 57)] ({ frames := 7, cells := 1, slots := 6, locals := 116 } : Room) [.ref x, .int y, .int b, .int q, .int w, .ref u] (fun H => cs_W D E κ S x H ∧ ∃ f, zs_pt D u (.inl (E 3, 1, .inr (.inl f))) H) (fun q => cs_F κ q ∨ q = u) (lw_L D E κ x u (o_writer S y b q w)) := by
  refine zw_ct (by decide) (Nat.le_of_ble_eq_true rfl) (fun p e s m below meth c hE hr htab hN hp => ?_)
  refine zs_lo (lo' := [(0, .ref x), (1, .int y), (2, .int b), (3, .int q), (4, .int w), (5, .ref u)]) rfl ?_
  obtain ⟨hW, f, ru⟩ := id hp
  obtain ⟨hX0, hw⟩ := id hW
  obtain ⟨a1, a2, a3, a4, a5, lp, lv, lh, lz, tg, ⟨t0, t1, t2, t3, t4, t5, hx, r1, r2, r3, r4, r5⟩, htg, hP, hV, hG, hZ, hκ⟩ := hX0
  have lu := ru.lt
  refine zs_aload hE 5 dL_writer_0 rfl ?_
  refine zs_iconst (v := (nI 0)) hE dL_writer_2 (by decide) ?_
  refine zs_aload_n hE 0 dL_writer_3 rfl rfl ?_
  refine zs_iload_n hE 1 dL_writer_4 rfl rfl ?_
  refine zs_iload_n hE 2 dL_writer_5 rfl rfl ?_
  refine zs_iload_n hE 3 dL_writer_6 rfl rfl ?_
  refine zs_iload hE 4 dL_writer_7 rfl ?_
  refine zw_callX (av := [.int y, .int b, .int q, .int w]) (st := [.int (nI 0), .ref u]) hE (m_X6_writer D E B l hl κ S x y b q w) sV_L_59 hx rfl rfl hW ⟨by decide, by decide⟩ ⟨by decide, by decide⟩ (fun q h => Or.inl (Or.inl h)) (Nat.le_of_ble_eq_true rfl) dL_writer_9 (fun cls H1 ce q9 hx1 z1 k1 hce hcv hcl ls locs1 g1 g2 => ?_) (fun v H1 hv z1 k1 => ?_)
  · obtain ⟨i, hi, ho, hz, κ1, hX1, hk1⟩ := hx1
    have ru1 := ru.kept (k1 u lu (fun w => by have := w.2; omega))
    rcases i with _ | i
    · cases hi
      refine zw_catch hE htab [] ⟨0, 14, 17, 21⟩ [⟨0, 14, 21, 57⟩] rfl (fun z hz9 => by cases hz9) (by decide) (by decide) lc_L_21 (by decide +kernel) hce hcv hcl g1 g2 ?_
      refine zs_widen9 (k' := 1) (n' := 6) (by decide) (by decide) ?_
      refine zs_astore (lo' := [(6, .ref q9), (0, .ref x), (1, .int y), (2, .int b), (3, .int q), (4, .int w), (5, .ref u)]) hE dL_writer_17 (by decide) rfl ?_
      refine zs_iconst (v := (nI 1)) hE dL_writer_19 (by decide) ?_
      exact zs_iret hE hr (by rw [ho]; exact ⟨rfl, z1, ⟨κ1, hX1, hk1⟩, f, ru1, fun w => absurd w (Nat.succ_ne_zero _)⟩) (by decide) (by decide) dL_writer_20
    rcases i with _ | i
    · cases hi
      refine zw_catch hE htab [⟨0, 14, 17, 21⟩] ⟨0, 14, 21, 57⟩ [] rfl (fun z hz9 => by simp only [List.mem_cons, List.not_mem_nil, or_false] at hz9; rcases hz9 with rfl; exact ⟨by decide, _, lc_L_21, hN ("java/util/NoSuchElementException", "java/lang/IndexOutOfBoundsException") (by decide)⟩) (by decide) (by decide) lc_L_57 (by decide +kernel) hce hcv hcl g1 g2 ?_
      refine zs_widen9 (k' := 1) (n' := 6) (by decide) (by decide) ?_
      refine zs_astore (lo' := [(6, .ref q9), (0, .ref x), (1, .int y), (2, .int b), (3, .int q), (4, .int w), (5, .ref u)]) hE dL_writer_21 (by decide) rfl ?_
      refine zs_iconst (v := (nI 2)) hE dL_writer_23 (by decide) ?_
      exact zs_iret hE hr (by rw [ho]; exact ⟨rfl, z1, ⟨κ1, hX1, hk1⟩, f, ru1, fun w => absurd w (Nat.succ_ne_zero _)⟩) (by decide) (by decide) dL_writer_24
    simp at hi
  · obtain ⟨o0, rfl, hz, κ1, hX1, hk1⟩ := hv
    have ru1 := ru.kept (k1 u lu (fun w => by have := w.2; omega))
    refine zs_widen9 (k' := 1) (n' := 6) (by decide) (by decide) ?_
    have hwf : sp_wf (o_writer S y b q w).2.2 := wfo_writer hw y b q w
    have h6 := hwf.1.1
    obtain ⟨w9, hw9⟩ := vi_writer S y b q w o0
    rw [hw9]
    refine zs_i2l hE dL_writer_12 ?_
    refine zs_last hE ru1 (Or.inl (Or.inr rfl)) (by decide) (by decide) dL_writer_13 (fun H1 hp1 hz1 ho1 => ?_)
    refine zs_goto (tgt := 25) hE dL_writer_14 (by decide) ?_
    refine zs_iconst (v := (nI 0)) hE dL_writer_25 (by decide) ?_
    exact zs_iret hE hr (⟨by rw [o0], by omega, ⟨κ1, hX1.mv (by omega) (fun q w1 w2 => ho1 q (fun e9 => by subst e9; rw [hk1 _ lu] at w2; omega)) h6, hk1⟩, _, hp1, fun _ => by rw [va_up_self]; exact (by rw [hw9]; rfl)⟩) (by decide) (by decide) dL_writer_26

set_option maxHeartbeats 4000000 in
set_option maxRecDepth 100000 in
theorem m_L_doubts (D : va_G) (E : Nat → ClassId) (B : Nat) (l : Launch) (hl : l.stackTraces = false) (κ : Nat → Nat) (S : sp_S) (x u : Nat) (y : Int32) (hu : 500 ≤ κ u) : zw_Ct D E B l yL_doubts cL_doubts 4 [(0, 9, 12, 21)] ({ frames := 7, cells := 1, slots := 6, locals := 112 } : Room) [.ref x, .int y, .ref u] (fun H => cs_W D E κ S x H ∧ ∃ f, zs_pt D u (.inl (E 3, 1, .inr (.inl f))) H) (fun q => cs_F κ q ∨ q = u) (lw_L D E κ x u (o_doubts S y)) := by
  refine zw_ct (by decide) (Nat.le_of_ble_eq_true rfl) (fun p e s m below meth c hE hr htab hN hp => ?_)
  refine zs_lo (lo' := [(0, .ref x), (1, .int y), (2, .ref u)]) rfl ?_
  obtain ⟨hW, f, ru⟩ := id hp
  obtain ⟨hX0, hw⟩ := id hW
  obtain ⟨a1, a2, a3, a4, a5, lp, lv, lh, lz, tg, ⟨t0, t1, t2, t3, t4, t5, hx, r1, r2, r3, r4, r5⟩, htg, hP, hV, hG, hZ, hκ⟩ := hX0
  have lu := ru.lt
  refine zs_aload_n hE 2 dL_doubts_0 rfl rfl ?_
  refine zs_iconst (v := (nI 0)) hE dL_doubts_1 (by decide) ?_
  refine zs_aload_n hE 0 dL_doubts_2 rfl rfl ?_
  refine zs_iload_n hE 1 dL_doubts_3 rfl rfl ?_
  refine zw_callX (av := [.int y]) (st := [.int (nI 0), .ref u]) hE (m_X6_doubts D E B l hl κ S x y) sV_L_62 hx rfl rfl hW ⟨by decide, by decide⟩ ⟨by decide, by decide⟩ (fun q h => Or.inl (Or.inl h)) (Nat.le_of_ble_eq_true rfl) dL_doubts_4 (fun cls H1 ce q9 hx1 z1 k1 hce hcv hcl ls locs1 g1 g2 => ?_) (fun v H1 hv z1 k1 => ?_)
  · obtain ⟨i, hi, ho, hz, κ1, hX1, hk1⟩ := hx1
    have ru1 := ru.kept (k1 u lu (fun w => by have := w.2; omega))
    rcases i with _ | i
    · cases hi
      refine zw_catch hE htab [] ⟨0, 9, 12, 21⟩ [] rfl (fun z hz9 => by cases hz9) (by decide) (by decide) lc_L_21 (by decide +kernel) hce hcv hcl g1 g2 ?_
      refine zs_widen9 (k' := 1) (n' := 6) (by decide) (by decide) ?_
      refine zs_astore_n (lo' := [(3, .ref q9), (0, .ref x), (1, .int y), (2, .ref u)]) hE dL_doubts_12 rfl (by decide) rfl ?_
      refine zs_iconst (v := (nI 1)) hE dL_doubts_13 (by decide) ?_
      exact zs_iret hE hr (by rw [ho]; exact ⟨rfl, z1, ⟨κ1, hX1, hk1⟩, f, ru1, fun w => absurd w (Nat.succ_ne_zero _)⟩) (by decide) (by decide) dL_doubts_14
    simp at hi
  · obtain ⟨o0, rfl, hz, κ1, hX1, hk1⟩ := hv
    have ru1 := ru.kept (k1 u lu (fun w => by have := w.2; omega))
    refine zs_widen9 (k' := 1) (n' := 6) (by decide) (by decide) ?_
    have hwf : sp_wf (o_doubts S y).2.2 := wfo_doubts hw y
    have h6 := hwf.1.1
    obtain ⟨w9, hw9⟩ := vi_doubts S y o0
    rw [hw9]
    refine zs_i2l hE dL_doubts_7 ?_
    refine zs_last hE ru1 (Or.inl (Or.inr rfl)) (by decide) (by decide) dL_doubts_8 (fun H1 hp1 hz1 ho1 => ?_)
    refine zs_goto (tgt := 15) hE dL_doubts_9 (by decide) ?_
    refine zs_iconst (v := (nI 0)) hE dL_doubts_15 (by decide) ?_
    exact zs_iret hE hr (⟨by rw [o0], by omega, ⟨κ1, hX1.mv (by omega) (fun q w1 w2 => ho1 q (fun e9 => by subst e9; rw [hk1 _ lu] at w2; omega)) h6, hk1⟩, _, hp1, fun _ => by rw [va_up_self]; exact (by rw [hw9]; rfl)⟩) (by decide) (by decide) dL_doubts_16

set_option maxHeartbeats 4000000 in
set_option maxRecDepth 100000 in
theorem m_L_unlike (D : va_G) (E : Nat → ClassId) (B : Nat) (l : Launch) (hl : l.stackTraces = false) (κ : Nat → Nat) (S : sp_S) (x u : Nat) (y z : Int32) (hu : 500 ≤ κ u) : zw_Ct D E B l yL_unlike cL_unlike 5 [(0, 10, 13, 21), (0, 10, 17, 41)] ({ frames := 7, cells := 1, slots := 6, locals := 114 } : Room) [.ref x, .int y, .int z, .ref u] (fun H => cs_W D E κ S x H ∧ ∃ f, zs_pt D u (.inl (E 3, 1, .inr (.inl f))) H) (fun q => cs_F κ q ∨ q = u) (lw_L D E κ x u (o_unlike S y z)) := by
  refine zw_ct (by decide) (Nat.le_of_ble_eq_true rfl) (fun p e s m below meth c hE hr htab hN hp => ?_)
  refine zs_lo (lo' := [(0, .ref x), (1, .int y), (2, .int z), (3, .ref u)]) rfl ?_
  obtain ⟨hW, f, ru⟩ := id hp
  obtain ⟨hX0, hw⟩ := id hW
  obtain ⟨a1, a2, a3, a4, a5, lp, lv, lh, lz, tg, ⟨t0, t1, t2, t3, t4, t5, hx, r1, r2, r3, r4, r5⟩, htg, hP, hV, hG, hZ, hκ⟩ := hX0
  have lu := ru.lt
  refine zs_aload_n hE 3 dL_unlike_0 rfl rfl ?_
  refine zs_iconst (v := (nI 0)) hE dL_unlike_1 (by decide) ?_
  refine zs_aload_n hE 0 dL_unlike_2 rfl rfl ?_
  refine zs_iload_n hE 1 dL_unlike_3 rfl rfl ?_
  refine zs_iload_n hE 2 dL_unlike_4 rfl rfl ?_
  refine zw_callX (av := [.int y, .int z]) (st := [.int (nI 0), .ref u]) hE (m_X6_unlike D E B l hl κ S x y z) sV_L_65 hx rfl rfl hW ⟨by decide, by decide⟩ ⟨by decide, by decide⟩ (fun q h => Or.inl (Or.inl h)) (Nat.le_of_ble_eq_true rfl) dL_unlike_5 (fun cls H1 ce q9 hx1 z1 k1 hce hcv hcl ls locs1 g1 g2 => ?_) (fun v H1 hv z1 k1 => ?_)
  · obtain ⟨i, hi, ho, hz, κ1, hX1, hk1⟩ := hx1
    have ru1 := ru.kept (k1 u lu (fun w => by have := w.2; omega))
    rcases i with _ | i
    · cases hi
      refine zw_catch hE htab [] ⟨0, 10, 13, 21⟩ [⟨0, 10, 17, 41⟩] rfl (fun z hz9 => by cases hz9) (by decide) (by decide) lc_L_21 (by decide +kernel) hce hcv hcl g1 g2 ?_
      refine zs_widen9 (k' := 1) (n' := 6) (by decide) (by decide) ?_
      refine zs_astore (lo' := [(4, .ref q9), (0, .ref x), (1, .int y), (2, .int z), (3, .ref u)]) hE dL_unlike_13 (by decide) rfl ?_
      refine zs_iconst (v := (nI 1)) hE dL_unlike_15 (by decide) ?_
      exact zs_iret hE hr (by rw [ho]; exact ⟨rfl, z1, ⟨κ1, hX1, hk1⟩, f, ru1, fun w => absurd w (Nat.succ_ne_zero _)⟩) (by decide) (by decide) dL_unlike_16
    rcases i with _ | i
    · cases hi
      refine zw_catch hE htab [⟨0, 10, 13, 21⟩] ⟨0, 10, 17, 41⟩ [] rfl (fun z hz9 => by simp only [List.mem_cons, List.not_mem_nil, or_false] at hz9; rcases hz9 with rfl; exact ⟨by decide, _, lc_L_21, hN ("java/lang/UnsupportedOperationException", "java/lang/IndexOutOfBoundsException") (by decide)⟩) (by decide) (by decide) lc_L_41 (by decide +kernel) hce hcv hcl g1 g2 ?_
      refine zs_widen9 (k' := 1) (n' := 6) (by decide) (by decide) ?_
      refine zs_astore (lo' := [(4, .ref q9), (0, .ref x), (1, .int y), (2, .int z), (3, .ref u)]) hE dL_unlike_17 (by decide) rfl ?_
      refine zs_iconst (v := (nI 2)) hE dL_unlike_19 (by decide) ?_
      exact zs_iret hE hr (by rw [ho]; exact ⟨rfl, z1, ⟨κ1, hX1, hk1⟩, f, ru1, fun w => absurd w (Nat.succ_ne_zero _)⟩) (by decide) (by decide) dL_unlike_20
    simp at hi
  · obtain ⟨o0, rfl, hz, κ1, hX1, hk1⟩ := hv
    have ru1 := ru.kept (k1 u lu (fun w => by have := w.2; omega))
    refine zs_widen9 (k' := 1) (n' := 6) (by decide) (by decide) ?_
    have hwf : sp_wf (o_unlike S y z).2.2 := wfo_unlike hw y z
    have h6 := hwf.1.1
    obtain ⟨w9, hw9⟩ := vi_unlike S y z o0
    rw [hw9]
    refine zs_i2l hE dL_unlike_8 ?_
    refine zs_last hE ru1 (Or.inl (Or.inr rfl)) (by decide) (by decide) dL_unlike_9 (fun H1 hp1 hz1 ho1 => ?_)
    refine zs_goto (tgt := 21) hE dL_unlike_10 (by decide) ?_
    refine zs_iconst (v := (nI 0)) hE dL_unlike_21 (by decide) ?_
    exact zs_iret hE hr (⟨by rw [o0], by omega, ⟨κ1, hX1.mv (by omega) (fun q w1 w2 => ho1 q (fun e9 => by subst e9; rw [hk1 _ lu] at w2; omega)) h6, hk1⟩, _, hp1, fun _ => by rw [va_up_self]; exact (by rw [hw9]; rfl)⟩) (by decide) (by decide) dL_unlike_22

set_option maxHeartbeats 4000000 in
set_option maxRecDepth 100000 in
theorem m_L_hear (D : va_G) (E : Nat → ClassId) (B : Nat) (l : Launch) (hl : l.stackTraces = false) (κ : Nat → Nat) (S : sp_S) (x u : Nat) (y z : Int32) (hu : 500 ≤ κ u) : zw_Ct D E B l yL_hear cL_hear 5 [(0, 10, 13, 21)] ({ frames := 7, cells := 1, slots := 6, locals := 115 } : Room) [.ref x, .int y, .int z, .ref u] (fun H => cs_W D E κ S x H ∧ ∃ f, zs_pt D u (.inl (E 3, 1, .inr (.inl f))) H) (fun q => cs_F κ q ∨ q = u) (lw_L D E κ x u (o_hear S y z)) := by
  refine zw_ct (by decide) (Nat.le_of_ble_eq_true rfl) (fun p e s m below meth c hE hr htab hN hp => ?_)
  refine zs_lo (lo' := [(0, .ref x), (1, .int y), (2, .int z), (3, .ref u)]) rfl ?_
  obtain ⟨hW, f, ru⟩ := id hp
  obtain ⟨hX0, hw⟩ := id hW
  obtain ⟨a1, a2, a3, a4, a5, lp, lv, lh, lz, tg, ⟨t0, t1, t2, t3, t4, t5, hx, r1, r2, r3, r4, r5⟩, htg, hP, hV, hG, hZ, hκ⟩ := hX0
  have lu := ru.lt
  refine zs_aload_n hE 3 dL_hear_0 rfl rfl ?_
  refine zs_iconst (v := (nI 0)) hE dL_hear_1 (by decide) ?_
  refine zs_aload_n hE 0 dL_hear_2 rfl rfl ?_
  refine zs_iload_n hE 1 dL_hear_3 rfl rfl ?_
  refine zs_iload_n hE 2 dL_hear_4 rfl rfl ?_
  refine zw_callX (av := [.int y, .int z]) (st := [.int (nI 0), .ref u]) hE (m_X6_hear D E B l hl κ S x y z) sV_L_68 hx rfl rfl hW ⟨by decide, by decide⟩ ⟨by decide, by decide⟩ (fun q h => Or.inl (Or.inl h)) (Nat.le_of_ble_eq_true rfl) dL_hear_5 (fun cls H1 ce q9 hx1 z1 k1 hce hcv hcl ls locs1 g1 g2 => ?_) (fun v H1 hv z1 k1 => ?_)
  · obtain ⟨i, hi, ho, hz, κ1, hX1, hk1⟩ := hx1
    have ru1 := ru.kept (k1 u lu (fun w => by have := w.2; omega))
    rcases i with _ | i
    · cases hi
      refine zw_catch hE htab [] ⟨0, 10, 13, 21⟩ [] rfl (fun z hz9 => by cases hz9) (by decide) (by decide) lc_L_21 (by decide +kernel) hce hcv hcl g1 g2 ?_
      refine zs_widen9 (k' := 1) (n' := 6) (by decide) (by decide) ?_
      refine zs_astore (lo' := [(4, .ref q9), (0, .ref x), (1, .int y), (2, .int z), (3, .ref u)]) hE dL_hear_13 (by decide) rfl ?_
      refine zs_iconst (v := (nI 1)) hE dL_hear_15 (by decide) ?_
      exact zs_iret hE hr (by rw [ho]; exact ⟨rfl, z1, ⟨κ1, hX1, hk1⟩, f, ru1, fun w => absurd w (Nat.succ_ne_zero _)⟩) (by decide) (by decide) dL_hear_16
    simp at hi
  · obtain ⟨o0, rfl, hz, κ1, hX1, hk1⟩ := hv
    have ru1 := ru.kept (k1 u lu (fun w => by have := w.2; omega))
    refine zs_widen9 (k' := 1) (n' := 6) (by decide) (by decide) ?_
    have hwf : sp_wf (o_hear S y z).2.2 := wfo_hear hw y z
    have h6 := hwf.1.1
    obtain ⟨w9, hw9⟩ := vi_hear S y z o0
    rw [hw9]
    refine zs_i2l hE dL_hear_8 ?_
    refine zs_last hE ru1 (Or.inl (Or.inr rfl)) (by decide) (by decide) dL_hear_9 (fun H1 hp1 hz1 ho1 => ?_)
    refine zs_goto (tgt := 17) hE dL_hear_10 (by decide) ?_
    refine zs_iconst (v := (nI 0)) hE dL_hear_17 (by decide) ?_
    exact zs_iret hE hr (⟨by rw [o0], by omega, ⟨κ1, hX1.mv (by omega) (fun q w1 w2 => ho1 q (fun e9 => by subst e9; rw [hk1 _ lu] at w2; omega)) h6, hk1⟩, _, hp1, fun _ => by rw [va_up_self]; exact (by rw [hw9]; rfl)⟩) (by decide) (by decide) dL_hear_18

set_option maxHeartbeats 4000000 in
set_option maxRecDepth 100000 in
theorem m_L_mark (D : va_G) (E : Nat → ClassId) (B : Nat) (l : Launch) (hl : l.stackTraces = false) (κ : Nat → Nat) (S : sp_S) (x u : Nat) (y z w t : Int32) (hu : 500 ≤ κ u) : zw_Ct D E B l yL_mark cL_mark 7 [(0, 14, 17, 21), (0, 14, 21, 13), (0, 14, 25, 41)] ({ frames := 7, cells := 1, slots := 6, locals := 116 } : Room) [.ref x, .int y, .int z, .int w, .int t, .ref u] (fun H => cs_W D E κ S x H ∧ ∃ f, zs_pt D u (.inl (E 3, 1, .inr (.inl f))) H) (fun q => cs_F κ q ∨ q = u) (lw_L D E κ x u (o_mark S y z w t)) := by
  refine zw_ct (by decide) (Nat.le_of_ble_eq_true rfl) (fun p e s m below meth c hE hr htab hN hp => ?_)
  refine zs_lo (lo' := [(0, .ref x), (1, .int y), (2, .int z), (3, .int w), (4, .int t), (5, .ref u)]) rfl ?_
  obtain ⟨hW, f, ru⟩ := id hp
  obtain ⟨hX0, hw⟩ := id hW
  obtain ⟨a1, a2, a3, a4, a5, lp, lv, lh, lz, tg, ⟨t0, t1, t2, t3, t4, t5, hx, r1, r2, r3, r4, r5⟩, htg, hP, hV, hG, hZ, hκ⟩ := hX0
  have lu := ru.lt
  refine zs_aload hE 5 dL_mark_0 rfl ?_
  refine zs_iconst (v := (nI 0)) hE dL_mark_2 (by decide) ?_
  refine zs_aload_n hE 0 dL_mark_3 rfl rfl ?_
  refine zs_iload_n hE 1 dL_mark_4 rfl rfl ?_
  refine zs_iload_n hE 2 dL_mark_5 rfl rfl ?_
  refine zs_iload_n hE 3 dL_mark_6 rfl rfl ?_
  refine zs_iload hE 4 dL_mark_7 rfl ?_
  refine zw_callX (av := [.int y, .int z, .int w, .int t]) (st := [.int (nI 0), .ref u]) hE (m_X6_mark D E B l hl κ S x y z w t) sV_L_71 hx rfl rfl hW ⟨by decide, by decide⟩ ⟨by decide, by decide⟩ (fun q h => Or.inl (Or.inl h)) (Nat.le_of_ble_eq_true rfl) dL_mark_9 (fun cls H1 ce q9 hx1 z1 k1 hce hcv hcl ls locs1 g1 g2 => ?_) (fun v H1 hv z1 k1 => ?_)
  · obtain ⟨i, hi, ho, hz, κ1, hX1, hk1⟩ := hx1
    have ru1 := ru.kept (k1 u lu (fun w => by have := w.2; omega))
    rcases i with _ | i
    · cases hi
      refine zw_catch hE htab [] ⟨0, 14, 17, 21⟩ [⟨0, 14, 21, 13⟩, ⟨0, 14, 25, 41⟩] rfl (fun z hz9 => by cases hz9) (by decide) (by decide) lc_L_21 (by decide +kernel) hce hcv hcl g1 g2 ?_
      refine zs_widen9 (k' := 1) (n' := 6) (by decide) (by decide) ?_
      refine zs_astore (lo' := [(6, .ref q9), (0, .ref x), (1, .int y), (2, .int z), (3, .int w), (4, .int t), (5, .ref u)]) hE dL_mark_17 (by decide) rfl ?_
      refine zs_iconst (v := (nI 1)) hE dL_mark_19 (by decide) ?_
      exact zs_iret hE hr (by rw [ho]; exact ⟨rfl, z1, ⟨κ1, hX1, hk1⟩, f, ru1, fun w => absurd w (Nat.succ_ne_zero _)⟩) (by decide) (by decide) dL_mark_20
    rcases i with _ | i
    · cases hi
      refine zw_catch hE htab [⟨0, 14, 17, 21⟩] ⟨0, 14, 21, 13⟩ [⟨0, 14, 25, 41⟩] rfl (fun z hz9 => by simp only [List.mem_cons, List.not_mem_nil, or_false] at hz9; rcases hz9 with rfl; exact ⟨by decide, _, lc_L_21, hN ("java/lang/IllegalArgumentException", "java/lang/IndexOutOfBoundsException") (by decide)⟩) (by decide) (by decide) lc_L_13 (by decide +kernel) hce hcv hcl g1 g2 ?_
      refine zs_widen9 (k' := 1) (n' := 6) (by decide) (by decide) ?_
      refine zs_astore (lo' := [(6, .ref q9), (0, .ref x), (1, .int y), (2, .int z), (3, .int w), (4, .int t), (5, .ref u)]) hE dL_mark_21 (by decide) rfl ?_
      refine zs_iconst (v := (nI 2)) hE dL_mark_23 (by decide) ?_
      exact zs_iret hE hr (by rw [ho]; exact ⟨rfl, z1, ⟨κ1, hX1, hk1⟩, f, ru1, fun w => absurd w (Nat.succ_ne_zero _)⟩) (by decide) (by decide) dL_mark_24
    rcases i with _ | i
    · cases hi
      refine zw_catch hE htab [⟨0, 14, 17, 21⟩, ⟨0, 14, 21, 13⟩] ⟨0, 14, 25, 41⟩ [] rfl (fun z hz9 => by simp only [List.mem_cons, List.not_mem_nil, or_false] at hz9; rcases hz9 with rfl | rfl; exact ⟨by decide, _, lc_L_21, hN ("java/lang/UnsupportedOperationException", "java/lang/IndexOutOfBoundsException") (by decide)⟩; exact ⟨by decide, _, lc_L_13, hN ("java/lang/UnsupportedOperationException", "java/lang/IllegalArgumentException") (by decide)⟩) (by decide) (by decide) lc_L_41 (by decide +kernel) hce hcv hcl g1 g2 ?_
      refine zs_widen9 (k' := 1) (n' := 6) (by decide) (by decide) ?_
      refine zs_astore (lo' := [(6, .ref q9), (0, .ref x), (1, .int y), (2, .int z), (3, .int w), (4, .int t), (5, .ref u)]) hE dL_mark_25 (by decide) rfl ?_
      refine zs_iconst (v := (nI 3)) hE dL_mark_27 (by decide) ?_
      exact zs_iret hE hr (by rw [ho]; exact ⟨rfl, z1, ⟨κ1, hX1, hk1⟩, f, ru1, fun w => absurd w (Nat.succ_ne_zero _)⟩) (by decide) (by decide) dL_mark_28
    simp at hi
  · obtain ⟨o0, rfl, hz, κ1, hX1, hk1⟩ := hv
    have ru1 := ru.kept (k1 u lu (fun w => by have := w.2; omega))
    refine zs_widen9 (k' := 1) (n' := 6) (by decide) (by decide) ?_
    have hwf : sp_wf (o_mark S y z w t).2.2 := wfo_mark hw y z w t
    have h6 := hwf.1.1
    obtain ⟨w9, hw9⟩ := vi_mark S y z w t o0
    rw [hw9]
    refine zs_i2l hE dL_mark_12 ?_
    refine zs_last hE ru1 (Or.inl (Or.inr rfl)) (by decide) (by decide) dL_mark_13 (fun H1 hp1 hz1 ho1 => ?_)
    refine zs_goto (tgt := 29) hE dL_mark_14 (by decide) ?_
    refine zs_iconst (v := (nI 0)) hE dL_mark_29 (by decide) ?_
    exact zs_iret hE hr (⟨by rw [o0], by omega, ⟨κ1, hX1.mv (by omega) (fun q w1 w2 => ho1 q (fun e9 => by subst e9; rw [hk1 _ lu] at w2; omega)) h6, hk1⟩, _, hp1, fun _ => by rw [va_up_self]; exact (by rw [hw9]; rfl)⟩) (by decide) (by decide) dL_mark_30

set_option maxHeartbeats 4000000 in
set_option maxRecDepth 100000 in
theorem m_L_affirm (D : va_G) (E : Nat → ClassId) (B : Nat) (l : Launch) (hl : l.stackTraces = false) (κ : Nat → Nat) (S : sp_S) (x u : Nat) (y z w : Int32) (hu : 500 ≤ κ u) : zw_Ct D E B l yL_affirm cL_affirm 6 [(0, 12, 15, 21), (0, 12, 19, 57)] ({ frames := 7, cells := 1, slots := 6, locals := 115 } : Room) [.ref x, .int y, .int z, .int w, .ref u] (fun H => cs_W D E κ S x H ∧ ∃ f, zs_pt D u (.inl (E 3, 1, .inr (.inl f))) H) (fun q => cs_F κ q ∨ q = u) (lw_L D E κ x u (o_affirm S y z w)) := by
  refine zw_ct (by decide) (Nat.le_of_ble_eq_true rfl) (fun p e s m below meth c hE hr htab hN hp => ?_)
  refine zs_lo (lo' := [(0, .ref x), (1, .int y), (2, .int z), (3, .int w), (4, .ref u)]) rfl ?_
  obtain ⟨hW, f, ru⟩ := id hp
  obtain ⟨hX0, hw⟩ := id hW
  obtain ⟨a1, a2, a3, a4, a5, lp, lv, lh, lz, tg, ⟨t0, t1, t2, t3, t4, t5, hx, r1, r2, r3, r4, r5⟩, htg, hP, hV, hG, hZ, hκ⟩ := hX0
  have lu := ru.lt
  refine zs_aload hE 4 dL_affirm_0 rfl ?_
  refine zs_iconst (v := (nI 0)) hE dL_affirm_2 (by decide) ?_
  refine zs_aload_n hE 0 dL_affirm_3 rfl rfl ?_
  refine zs_iload_n hE 1 dL_affirm_4 rfl rfl ?_
  refine zs_iload_n hE 2 dL_affirm_5 rfl rfl ?_
  refine zs_iload_n hE 3 dL_affirm_6 rfl rfl ?_
  refine zw_callX (av := [.int y, .int z, .int w]) (st := [.int (nI 0), .ref u]) hE (m_X6_affirm D E B l hl κ S x y z w) sV_L_74 hx rfl rfl hW ⟨by decide, by decide⟩ ⟨by decide, by decide⟩ (fun q h => Or.inl (Or.inl h)) (Nat.le_of_ble_eq_true rfl) dL_affirm_7 (fun cls H1 ce q9 hx1 z1 k1 hce hcv hcl ls locs1 g1 g2 => ?_) (fun v H1 hv z1 k1 => ?_)
  · obtain ⟨i, hi, ho, hz, κ1, hX1, hk1⟩ := hx1
    have ru1 := ru.kept (k1 u lu (fun w => by have := w.2; omega))
    rcases i with _ | i
    · cases hi
      refine zw_catch hE htab [] ⟨0, 12, 15, 21⟩ [⟨0, 12, 19, 57⟩] rfl (fun z hz9 => by cases hz9) (by decide) (by decide) lc_L_21 (by decide +kernel) hce hcv hcl g1 g2 ?_
      refine zs_widen9 (k' := 1) (n' := 6) (by decide) (by decide) ?_
      refine zs_astore (lo' := [(5, .ref q9), (0, .ref x), (1, .int y), (2, .int z), (3, .int w), (4, .ref u)]) hE dL_affirm_15 (by decide) rfl ?_
      refine zs_iconst (v := (nI 1)) hE dL_affirm_17 (by decide) ?_
      exact zs_iret hE hr (by rw [ho]; exact ⟨rfl, z1, ⟨κ1, hX1, hk1⟩, f, ru1, fun w => absurd w (Nat.succ_ne_zero _)⟩) (by decide) (by decide) dL_affirm_18
    rcases i with _ | i
    · cases hi
      refine zw_catch hE htab [⟨0, 12, 15, 21⟩] ⟨0, 12, 19, 57⟩ [] rfl (fun z hz9 => by simp only [List.mem_cons, List.not_mem_nil, or_false] at hz9; rcases hz9 with rfl; exact ⟨by decide, _, lc_L_21, hN ("java/util/NoSuchElementException", "java/lang/IndexOutOfBoundsException") (by decide)⟩) (by decide) (by decide) lc_L_57 (by decide +kernel) hce hcv hcl g1 g2 ?_
      refine zs_widen9 (k' := 1) (n' := 6) (by decide) (by decide) ?_
      refine zs_astore (lo' := [(5, .ref q9), (0, .ref x), (1, .int y), (2, .int z), (3, .int w), (4, .ref u)]) hE dL_affirm_19 (by decide) rfl ?_
      refine zs_iconst (v := (nI 2)) hE dL_affirm_21 (by decide) ?_
      exact zs_iret hE hr (by rw [ho]; exact ⟨rfl, z1, ⟨κ1, hX1, hk1⟩, f, ru1, fun w => absurd w (Nat.succ_ne_zero _)⟩) (by decide) (by decide) dL_affirm_22
    simp at hi
  · obtain ⟨o0, rfl, hz, κ1, hX1, hk1⟩ := hv
    have ru1 := ru.kept (k1 u lu (fun w => by have := w.2; omega))
    refine zs_widen9 (k' := 1) (n' := 6) (by decide) (by decide) ?_
    have hwf : sp_wf (o_affirm S y z w).2.2 := wfo_affirm hw y z w
    have h6 := hwf.1.1
    obtain ⟨w9, hw9⟩ := vi_affirm S y z w o0
    rw [hw9]
    refine zs_i2l hE dL_affirm_10 ?_
    refine zs_last hE ru1 (Or.inl (Or.inr rfl)) (by decide) (by decide) dL_affirm_11 (fun H1 hp1 hz1 ho1 => ?_)
    refine zs_goto (tgt := 23) hE dL_affirm_12 (by decide) ?_
    refine zs_iconst (v := (nI 0)) hE dL_affirm_23 (by decide) ?_
    exact zs_iret hE hr (⟨by rw [o0], by omega, ⟨κ1, hX1.mv (by omega) (fun q w1 w2 => ho1 q (fun e9 => by subst e9; rw [hk1 _ lu] at w2; omega)) h6, hk1⟩, _, hp1, fun _ => by rw [va_up_self]; exact (by rw [hw9]; rfl)⟩) (by decide) (by decide) dL_affirm_24

set_option maxHeartbeats 4000000 in
set_option maxRecDepth 100000 in
theorem m_L_points (D : va_G) (E : Nat → ClassId) (B : Nat) (l : Launch) (hl : l.stackTraces = false) (κ : Nat → Nat) (S : sp_S) (x u : Nat) (y z : Int32) (hu : 500 ≤ κ u) : zw_Ct D E B l yL_points cL_points 5 [(0, 10, 13, 21)] ({ frames := 7, cells := 1, slots := 6, locals := 113 } : Room) [.ref x, .int y, .int z, .ref u] (fun H => cs_W D E κ S x H ∧ ∃ f, zs_pt D u (.inl (E 3, 1, .inr (.inl f))) H) (fun q => cs_F κ q ∨ q = u) (lw_L D E κ x u (o_points S y z)) := by
  refine zw_ct (by decide) (Nat.le_of_ble_eq_true rfl) (fun p e s m below meth c hE hr htab hN hp => ?_)
  refine zs_lo (lo' := [(0, .ref x), (1, .int y), (2, .int z), (3, .ref u)]) rfl ?_
  obtain ⟨hW, f, ru⟩ := id hp
  obtain ⟨hX0, hw⟩ := id hW
  obtain ⟨a1, a2, a3, a4, a5, lp, lv, lh, lz, tg, ⟨t0, t1, t2, t3, t4, t5, hx, r1, r2, r3, r4, r5⟩, htg, hP, hV, hG, hZ, hκ⟩ := hX0
  have lu := ru.lt
  refine zs_aload_n hE 3 dL_points_0 rfl rfl ?_
  refine zs_iconst (v := (nI 0)) hE dL_points_1 (by decide) ?_
  refine zs_aload_n hE 0 dL_points_2 rfl rfl ?_
  refine zs_iload_n hE 1 dL_points_3 rfl rfl ?_
  refine zs_iload_n hE 2 dL_points_4 rfl rfl ?_
  refine zw_callX (av := [.int y, .int z]) (st := [.int (nI 0), .ref u]) hE (m_X6_points D E B l hl κ S x y z) sV_L_77 hx rfl rfl hW ⟨by decide, by decide⟩ ⟨by decide, by decide⟩ (fun q h => Or.inl (Or.inl h)) (Nat.le_of_ble_eq_true rfl) dL_points_5 (fun cls H1 ce q9 hx1 z1 k1 hce hcv hcl ls locs1 g1 g2 => ?_) (fun v H1 hv z1 k1 => ?_)
  · obtain ⟨i, hi, ho, hz, κ1, hX1, hk1⟩ := hx1
    have ru1 := ru.kept (k1 u lu (fun w => by have := w.2; omega))
    rcases i with _ | i
    · cases hi
      refine zw_catch hE htab [] ⟨0, 10, 13, 21⟩ [] rfl (fun z hz9 => by cases hz9) (by decide) (by decide) lc_L_21 (by decide +kernel) hce hcv hcl g1 g2 ?_
      refine zs_widen9 (k' := 1) (n' := 6) (by decide) (by decide) ?_
      refine zs_astore (lo' := [(4, .ref q9), (0, .ref x), (1, .int y), (2, .int z), (3, .ref u)]) hE dL_points_13 (by decide) rfl ?_
      refine zs_iconst (v := (nI 1)) hE dL_points_15 (by decide) ?_
      exact zs_iret hE hr (by rw [ho]; exact ⟨rfl, z1, ⟨κ1, hX1, hk1⟩, f, ru1, fun w => absurd w (Nat.succ_ne_zero _)⟩) (by decide) (by decide) dL_points_16
    simp at hi
  · obtain ⟨o0, rfl, hz, κ1, hX1, hk1⟩ := hv
    have ru1 := ru.kept (k1 u lu (fun w => by have := w.2; omega))
    refine zs_widen9 (k' := 1) (n' := 6) (by decide) (by decide) ?_
    have hwf : sp_wf (o_points S y z).2.2 := wfo_points hw y z
    have h6 := hwf.1.1
    obtain ⟨w9, hw9⟩ := vi_points S y z o0
    rw [hw9]
    refine zs_i2l hE dL_points_8 ?_
    refine zs_last hE ru1 (Or.inl (Or.inr rfl)) (by decide) (by decide) dL_points_9 (fun H1 hp1 hz1 ho1 => ?_)
    refine zs_goto (tgt := 17) hE dL_points_10 (by decide) ?_
    refine zs_iconst (v := (nI 0)) hE dL_points_17 (by decide) ?_
    exact zs_iret hE hr (⟨by rw [o0], by omega, ⟨κ1, hX1.mv (by omega) (fun q w1 w2 => ho1 q (fun e9 => by subst e9; rw [hk1 _ lu] at w2; omega)) h6, hk1⟩, _, hp1, fun _ => by rw [va_up_self]; exact (by rw [hw9]; rfl)⟩) (by decide) (by decide) dL_points_18

set_option maxHeartbeats 4000000 in
set_option maxRecDepth 100000 in
theorem m_L_ranked (D : va_G) (E : Nat → ClassId) (B : Nat) (l : Launch) (hl : l.stackTraces = false) (κ : Nat → Nat) (S : sp_S) (x u : Nat) (y : Int32) (hu : 500 ≤ κ u) : zw_Ct D E B l yL_ranked cL_ranked 4 [(0, 9, 12, 21)] ({ frames := 7, cells := 1, slots := 6, locals := 170 } : Room) [.ref x, .int y, .ref u] (fun H => cs_W D E κ S x H ∧ ∃ f, zs_pt D u (.inl (E 3, 1, .inr (.inl f))) H) (fun q => cs_F κ q ∨ q = u) (lw_L D E κ x u (o_ranked S y)) := by
  refine zw_ct (by decide) (Nat.le_of_ble_eq_true rfl) (fun p e s m below meth c hE hr htab hN hp => ?_)
  refine zs_lo (lo' := [(0, .ref x), (1, .int y), (2, .ref u)]) rfl ?_
  obtain ⟨hW, f, ru⟩ := id hp
  obtain ⟨hX0, hw⟩ := id hW
  obtain ⟨a1, a2, a3, a4, a5, lp, lv, lh, lz, tg, ⟨t0, t1, t2, t3, t4, t5, hx, r1, r2, r3, r4, r5⟩, htg, hP, hV, hG, hZ, hκ⟩ := hX0
  have lu := ru.lt
  refine zs_aload_n hE 2 dL_ranked_0 rfl rfl ?_
  refine zs_iconst (v := (nI 0)) hE dL_ranked_1 (by decide) ?_
  refine zs_aload_n hE 0 dL_ranked_2 rfl rfl ?_
  refine zs_iload_n hE 1 dL_ranked_3 rfl rfl ?_
  refine zw_callX (av := [.int y]) (st := [.int (nI 0), .ref u]) hE (m_X6_ranked D E B l hl κ S x y) sV_L_80 hx rfl rfl hW ⟨by decide, by decide⟩ ⟨by decide, by decide⟩ (fun q h => Or.inl (Or.inl h)) (Nat.le_of_ble_eq_true rfl) dL_ranked_4 (fun cls H1 ce q9 hx1 z1 k1 hce hcv hcl ls locs1 g1 g2 => ?_) (fun v H1 hv z1 k1 => ?_)
  · obtain ⟨i, hi, ho, hz, κ1, hX1, hk1⟩ := hx1
    have ru1 := ru.kept (k1 u lu (fun w => by have := w.2; omega))
    rcases i with _ | i
    · cases hi
      refine zw_catch hE htab [] ⟨0, 9, 12, 21⟩ [] rfl (fun z hz9 => by cases hz9) (by decide) (by decide) lc_L_21 (by decide +kernel) hce hcv hcl g1 g2 ?_
      refine zs_widen9 (k' := 1) (n' := 6) (by decide) (by decide) ?_
      refine zs_astore_n (lo' := [(3, .ref q9), (0, .ref x), (1, .int y), (2, .ref u)]) hE dL_ranked_12 rfl (by decide) rfl ?_
      refine zs_iconst (v := (nI 1)) hE dL_ranked_13 (by decide) ?_
      exact zs_iret hE hr (by rw [ho]; exact ⟨rfl, z1, ⟨κ1, hX1, hk1⟩, f, ru1, fun w => absurd w (Nat.succ_ne_zero _)⟩) (by decide) (by decide) dL_ranked_14
    simp at hi
  · obtain ⟨o0, rfl, hz, κ1, hX1, hk1⟩ := hv
    have ru1 := ru.kept (k1 u lu (fun w => by have := w.2; omega))
    refine zs_widen9 (k' := 1) (n' := 6) (by decide) (by decide) ?_
    have hwf : sp_wf (o_ranked S y).2.2 := wfo_ranked hw y
    have h6 := hwf.1.1
    obtain ⟨w9, hw9⟩ := vi_ranked S y o0
    rw [hw9]
    refine zs_i2l hE dL_ranked_7 ?_
    refine zs_last hE ru1 (Or.inl (Or.inr rfl)) (by decide) (by decide) dL_ranked_8 (fun H1 hp1 hz1 ho1 => ?_)
    refine zs_goto (tgt := 15) hE dL_ranked_9 (by decide) ?_
    refine zs_iconst (v := (nI 0)) hE dL_ranked_15 (by decide) ?_
    exact zs_iret hE hr (⟨by rw [o0], by omega, ⟨κ1, hX1.mv (by omega) (fun q w1 w2 => ho1 q (fun e9 => by subst e9; rw [hk1 _ lu] at w2; omega)) h6, hk1⟩, _, hp1, fun _ => by rw [va_up_self]; exact (by rw [hw9]; rfl)⟩) (by decide) (by decide) dL_ranked_16

set_option maxHeartbeats 4000000 in
set_option maxRecDepth 100000 in
theorem m_L_isTied (D : va_G) (E : Nat → ClassId) (B : Nat) (l : Launch) (hl : l.stackTraces = false) (κ : Nat → Nat) (S : sp_S) (x u : Nat) (y : Int32) (hu : 500 ≤ κ u) : zw_Ct D E B l yL_isTied cL_isTied 4 [(0, 16, 19, 21)] ({ frames := 7, cells := 1, slots := 6, locals := 113 } : Room) [.ref x, .int y, .ref u] (fun H => cs_W D E κ S x H ∧ ∃ f, zs_pt D u (.inl (E 3, 1, .inr (.inl f))) H) (fun q => cs_F κ q ∨ q = u) (lw_L D E κ x u (o_isTied S y)) := by
  refine zw_ct (by decide) (Nat.le_of_ble_eq_true rfl) (fun p e s m below meth c hE hr htab hN hp => ?_)
  refine zs_lo (lo' := [(0, .ref x), (1, .int y), (2, .ref u)]) rfl ?_
  obtain ⟨hW, f, ru⟩ := id hp
  obtain ⟨hX0, hw⟩ := id hW
  obtain ⟨a1, a2, a3, a4, a5, lp, lv, lh, lz, tg, ⟨t0, t1, t2, t3, t4, t5, hx, r1, r2, r3, r4, r5⟩, htg, hP, hV, hG, hZ, hκ⟩ := hX0
  have lu := ru.lt
  refine zs_aload_n hE 2 dL_isTied_0 rfl rfl ?_
  refine zs_iconst (v := (nI 0)) hE dL_isTied_1 (by decide) ?_
  refine zs_aload_n hE 0 dL_isTied_2 rfl rfl ?_
  refine zs_iload_n hE 1 dL_isTied_3 rfl rfl ?_
  refine zw_callX (av := [.int y]) (st := [.int (nI 0), .ref u]) hE (m_X6_isTied D E B l hl κ S x y) sV_L_83 hx rfl rfl hW ⟨by decide, by decide⟩ ⟨by decide, by decide⟩ (fun q h => Or.inl (Or.inl h)) (Nat.le_of_ble_eq_true rfl) dL_isTied_4 (fun cls H1 ce q9 hx1 z1 k1 hce hcv hcl ls locs1 g1 g2 => ?_) (fun v H1 hv z1 k1 => ?_)
  · obtain ⟨i, hi, ho, hz, κ1, hX1, hk1⟩ := hx1
    have ru1 := ru.kept (k1 u lu (fun w => by have := w.2; omega))
    rcases i with _ | i
    · cases hi
      refine zw_catch hE htab [] ⟨0, 16, 19, 21⟩ [] rfl (fun z hz9 => by cases hz9) (by decide) (by decide) lc_L_21 (by decide +kernel) hce hcv hcl g1 g2 ?_
      refine zs_widen9 (k' := 1) (n' := 6) (by decide) (by decide) ?_
      refine zs_astore_n (lo' := [(3, .ref q9), (0, .ref x), (1, .int y), (2, .ref u)]) hE dL_isTied_19 rfl (by decide) rfl ?_
      refine zs_iconst (v := (nI 1)) hE dL_isTied_20 (by decide) ?_
      exact zs_iret hE hr (by rw [ho]; exact ⟨rfl, z1, ⟨κ1, hX1, hk1⟩, f, ru1, fun w => absurd w (Nat.succ_ne_zero _)⟩) (by decide) (by decide) dL_isTied_21
    simp at hi
  · obtain ⟨o0, rfl, hz, κ1, hX1, hk1⟩ := hv
    have ru1 := ru.kept (k1 u lu (fun w => by have := w.2; omega))
    refine zs_widen9 (k' := 1) (n' := 6) (by decide) (by decide) ?_
    have hwf : sp_wf (o_isTied S y).2.2 := wfo_isTied hw y
    have h6 := hwf.1.1
    obtain ⟨P9, hw9⟩ := vb_isTied S y o0
    rw [hw9]
    refine zs_if_eqB (tgt := 14) hE dL_isTied_7 (by decide) (fun h9 => ?_) (fun h9 => ?_)
    · refine zs_lconst (v := (0 : Int64)) hE dL_isTied_14 (by decide) ?_
      refine zs_last hE ru1 (Or.inl (Or.inr rfl)) (by decide) (by decide) dL_isTied_15 (fun H1 hp1 hz1 ho1 => ?_)
      refine zs_goto (tgt := 22) hE dL_isTied_16 (by decide) ?_
      refine zs_iconst (v := (nI 0)) hE dL_isTied_22 (by decide) ?_
      exact zs_iret hE hr (⟨by rw [o0], by omega, ⟨κ1, hX1.mv (by omega) (fun q w1 w2 => ho1 q (fun e9 => by subst e9; rw [hk1 _ lu] at w2; omega)) h6, hk1⟩, _, hp1, fun _ => by rw [va_up_self]; exact (by rw [hw9, zs_b0 h9]; rfl)⟩) (by decide) (by decide) dL_isTied_23
    · refine zs_lconst (v := (1 : Int64)) hE dL_isTied_10 (by decide) ?_
      refine zs_goto (tgt := 15) hE dL_isTied_11 (by decide) ?_
      refine zs_last hE ru1 (Or.inl (Or.inr rfl)) (by decide) (by decide) dL_isTied_15 (fun H2 hp2 hz2 ho2 => ?_)
      refine zs_goto (tgt := 22) hE dL_isTied_16 (by decide) ?_
      refine zs_iconst (v := (nI 0)) hE dL_isTied_22 (by decide) ?_
      exact zs_iret hE hr (⟨by rw [o0], by omega, ⟨κ1, hX1.mv (by omega) (fun q w1 w2 => ho2 q (fun e9 => by subst e9; rw [hk1 _ lu] at w2; omega)) h6, hk1⟩, _, hp2, fun _ => by rw [va_up_self]; exact (by rw [hw9, zs_b1 h9]; rfl)⟩) (by decide) (by decide) dL_isTied_23

set_option maxHeartbeats 4000000 in
set_option maxRecDepth 100000 in
theorem m_L_give (D : va_G) (E : Nat → ClassId) (B : Nat) (l : Launch) (hl : l.stackTraces = false) (κ : Nat → Nat) (S : sp_S) (x u : Nat) (y z : Int32) (hu : 500 ≤ κ u) : zw_Ct D E B l yL_give cL_give 5 [(0, 10, 13, 21), (0, 10, 17, 13), (0, 10, 21, 41), (0, 10, 25, 15)] ({ frames := 7, cells := 3, slots := 24, locals := 174 } : Room) [.ref x, .int y, .int z, .ref u] (fun H => cs_W D E κ S x H ∧ ∃ f, zs_pt D u (.inl (E 3, 1, .inr (.inl f))) H) (fun q => cs_F κ q ∨ q = u) (lw_L D E κ x u (o_give S y z)) := by
  refine zw_ct (by decide) (Nat.le_of_ble_eq_true rfl) (fun p e s m below meth c hE hr htab hN hp => ?_)
  refine zs_lo (lo' := [(0, .ref x), (1, .int y), (2, .int z), (3, .ref u)]) rfl ?_
  obtain ⟨hW, f, ru⟩ := id hp
  obtain ⟨hX0, hw⟩ := id hW
  obtain ⟨a1, a2, a3, a4, a5, lp, lv, lh, lz, tg, ⟨t0, t1, t2, t3, t4, t5, hx, r1, r2, r3, r4, r5⟩, htg, hP, hV, hG, hZ, hκ⟩ := hX0
  have lu := ru.lt
  refine zs_aload_n hE 3 dL_give_0 rfl rfl ?_
  refine zs_iconst (v := (nI 0)) hE dL_give_1 (by decide) ?_
  refine zs_aload_n hE 0 dL_give_2 rfl rfl ?_
  refine zs_iload_n hE 1 dL_give_3 rfl rfl ?_
  refine zs_iload_n hE 2 dL_give_4 rfl rfl ?_
  refine zw_callX (av := [.int y, .int z]) (st := [.int (nI 0), .ref u]) hE (m_X6_give D E B l hl κ S x y z) sV_L_87 hx rfl rfl hW ⟨by decide, by decide⟩ ⟨by decide, by decide⟩ (fun q h => Or.inl (Or.inl h)) (Nat.le_of_ble_eq_true rfl) dL_give_5 (fun cls H1 ce q9 hx1 z1 k1 hce hcv hcl ls locs1 g1 g2 => ?_) (fun v H1 hv z1 k1 => ?_)
  · obtain ⟨i, hi, ho, hz, κ1, hX1, hk1⟩ := hx1
    have ru1 := ru.kept (k1 u lu (fun w => by have := w.2; omega))
    rcases i with _ | i
    · cases hi
      refine zw_catch hE htab [] ⟨0, 10, 13, 21⟩ [⟨0, 10, 17, 13⟩, ⟨0, 10, 21, 41⟩, ⟨0, 10, 25, 15⟩] rfl (fun z hz9 => by cases hz9) (by decide) (by decide) lc_L_21 (by decide +kernel) hce hcv hcl g1 g2 ?_
      refine zs_widen9 (k' := 3) (n' := 24) (by decide) (by decide) ?_
      refine zs_astore (lo' := [(4, .ref q9), (0, .ref x), (1, .int y), (2, .int z), (3, .ref u)]) hE dL_give_13 (by decide) rfl ?_
      refine zs_iconst (v := (nI 1)) hE dL_give_15 (by decide) ?_
      exact zs_iret hE hr (by rw [ho]; exact ⟨rfl, z1, ⟨κ1, hX1, hk1⟩, f, ru1, fun w => absurd w (Nat.succ_ne_zero _)⟩) (by decide) (by decide) dL_give_16
    rcases i with _ | i
    · cases hi
      refine zw_catch hE htab [⟨0, 10, 13, 21⟩] ⟨0, 10, 17, 13⟩ [⟨0, 10, 21, 41⟩, ⟨0, 10, 25, 15⟩] rfl (fun z hz9 => by simp only [List.mem_cons, List.not_mem_nil, or_false] at hz9; rcases hz9 with rfl; exact ⟨by decide, _, lc_L_21, hN ("java/lang/IllegalArgumentException", "java/lang/IndexOutOfBoundsException") (by decide)⟩) (by decide) (by decide) lc_L_13 (by decide +kernel) hce hcv hcl g1 g2 ?_
      refine zs_widen9 (k' := 3) (n' := 24) (by decide) (by decide) ?_
      refine zs_astore (lo' := [(4, .ref q9), (0, .ref x), (1, .int y), (2, .int z), (3, .ref u)]) hE dL_give_17 (by decide) rfl ?_
      refine zs_iconst (v := (nI 2)) hE dL_give_19 (by decide) ?_
      exact zs_iret hE hr (by rw [ho]; exact ⟨rfl, z1, ⟨κ1, hX1, hk1⟩, f, ru1, fun w => absurd w (Nat.succ_ne_zero _)⟩) (by decide) (by decide) dL_give_20
    rcases i with _ | i
    · cases hi
      refine zw_catch hE htab [⟨0, 10, 13, 21⟩, ⟨0, 10, 17, 13⟩] ⟨0, 10, 21, 41⟩ [⟨0, 10, 25, 15⟩] rfl (fun z hz9 => by simp only [List.mem_cons, List.not_mem_nil, or_false] at hz9; rcases hz9 with rfl | rfl; exact ⟨by decide, _, lc_L_21, hN ("java/lang/UnsupportedOperationException", "java/lang/IndexOutOfBoundsException") (by decide)⟩; exact ⟨by decide, _, lc_L_13, hN ("java/lang/UnsupportedOperationException", "java/lang/IllegalArgumentException") (by decide)⟩) (by decide) (by decide) lc_L_41 (by decide +kernel) hce hcv hcl g1 g2 ?_
      refine zs_widen9 (k' := 3) (n' := 24) (by decide) (by decide) ?_
      refine zs_astore (lo' := [(4, .ref q9), (0, .ref x), (1, .int y), (2, .int z), (3, .ref u)]) hE dL_give_21 (by decide) rfl ?_
      refine zs_iconst (v := (nI 3)) hE dL_give_23 (by decide) ?_
      exact zs_iret hE hr (by rw [ho]; exact ⟨rfl, z1, ⟨κ1, hX1, hk1⟩, f, ru1, fun w => absurd w (Nat.succ_ne_zero _)⟩) (by decide) (by decide) dL_give_24
    rcases i with _ | i
    · cases hi
      refine zw_catch hE htab [⟨0, 10, 13, 21⟩, ⟨0, 10, 17, 13⟩, ⟨0, 10, 21, 41⟩] ⟨0, 10, 25, 15⟩ [] rfl (fun z hz9 => by simp only [List.mem_cons, List.not_mem_nil, or_false] at hz9; rcases hz9 with rfl | rfl | rfl; exact ⟨by decide, _, lc_L_21, hN ("java/lang/IllegalStateException", "java/lang/IndexOutOfBoundsException") (by decide)⟩; exact ⟨by decide, _, lc_L_13, hN ("java/lang/IllegalStateException", "java/lang/IllegalArgumentException") (by decide)⟩; exact ⟨by decide, _, lc_L_41, hN ("java/lang/IllegalStateException", "java/lang/UnsupportedOperationException") (by decide)⟩) (by decide) (by decide) lc_L_15 (by decide +kernel) hce hcv hcl g1 g2 ?_
      refine zs_widen9 (k' := 3) (n' := 24) (by decide) (by decide) ?_
      refine zs_astore (lo' := [(4, .ref q9), (0, .ref x), (1, .int y), (2, .int z), (3, .ref u)]) hE dL_give_25 (by decide) rfl ?_
      refine zs_iconst (v := (nI 4)) hE dL_give_27 (by decide) ?_
      exact zs_iret hE hr (by rw [ho]; exact ⟨rfl, z1, ⟨κ1, hX1, hk1⟩, f, ru1, fun w => absurd w (Nat.succ_ne_zero _)⟩) (by decide) (by decide) dL_give_28
    simp at hi
  · obtain ⟨o0, rfl, hz, κ1, hX1, hk1⟩ := hv
    have ru1 := ru.kept (k1 u lu (fun w => by have := w.2; omega))
    refine zs_widen9 (k' := 3) (n' := 24) (by decide) (by decide) ?_
    have hwf : sp_wf (o_give S y z).2.2 := wfo_give hw y z
    have h6 := hwf.1.1
    obtain ⟨w9, hw9⟩ := vi_give S y z o0
    rw [hw9]
    refine zs_i2l hE dL_give_8 ?_
    refine zs_last hE ru1 (Or.inl (Or.inr rfl)) (by decide) (by decide) dL_give_9 (fun H1 hp1 hz1 ho1 => ?_)
    refine zs_goto (tgt := 29) hE dL_give_10 (by decide) ?_
    refine zs_iconst (v := (nI 0)) hE dL_give_29 (by decide) ?_
    exact zs_iret hE hr (⟨by rw [o0], by omega, ⟨κ1, hX1.mv (by omega) (fun q w1 w2 => ho1 q (fun e9 => by subst e9; rw [hk1 _ lu] at w2; omega)) h6, hk1⟩, _, hp1, fun _ => by rw [va_up_self]; exact (by rw [hw9]; rfl)⟩) (by decide) (by decide) dL_give_30

set_option maxHeartbeats 4000000 in
set_option maxRecDepth 100000 in
theorem m_L_named (D : va_G) (E : Nat → ClassId) (B : Nat) (l : Launch) (hl : l.stackTraces = false) (κ : Nat → Nat) (S : sp_S) (x u : Nat) (y : Int32) (hu : 500 ≤ κ u) : zw_Ct D E B l yL_named cL_named 4 [(0, 9, 12, 21)] ({ frames := 7, cells := 1, slots := 6, locals := 112 } : Room) [.ref x, .int y, .ref u] (fun H => cs_W D E κ S x H ∧ ∃ f, zs_pt D u (.inl (E 3, 1, .inr (.inl f))) H) (fun q => cs_F κ q ∨ q = u) (lw_L D E κ x u (o_named S y)) := by
  refine zw_ct (by decide) (Nat.le_of_ble_eq_true rfl) (fun p e s m below meth c hE hr htab hN hp => ?_)
  refine zs_lo (lo' := [(0, .ref x), (1, .int y), (2, .ref u)]) rfl ?_
  obtain ⟨hW, f, ru⟩ := id hp
  obtain ⟨hX0, hw⟩ := id hW
  obtain ⟨a1, a2, a3, a4, a5, lp, lv, lh, lz, tg, ⟨t0, t1, t2, t3, t4, t5, hx, r1, r2, r3, r4, r5⟩, htg, hP, hV, hG, hZ, hκ⟩ := hX0
  have lu := ru.lt
  refine zs_aload_n hE 2 dL_named_0 rfl rfl ?_
  refine zs_iconst (v := (nI 0)) hE dL_named_1 (by decide) ?_
  refine zs_aload_n hE 0 dL_named_2 rfl rfl ?_
  refine zs_iload_n hE 1 dL_named_3 rfl rfl ?_
  refine zw_callX (av := [.int y]) (st := [.int (nI 0), .ref u]) hE (m_X6_named D E B l hl κ S x y) sV_L_90 hx rfl rfl hW ⟨by decide, by decide⟩ ⟨by decide, by decide⟩ (fun q h => Or.inl (Or.inl h)) (Nat.le_of_ble_eq_true rfl) dL_named_4 (fun cls H1 ce q9 hx1 z1 k1 hce hcv hcl ls locs1 g1 g2 => ?_) (fun v H1 hv z1 k1 => ?_)
  · obtain ⟨i, hi, ho, hz, κ1, hX1, hk1⟩ := hx1
    have ru1 := ru.kept (k1 u lu (fun w => by have := w.2; omega))
    rcases i with _ | i
    · cases hi
      refine zw_catch hE htab [] ⟨0, 9, 12, 21⟩ [] rfl (fun z hz9 => by cases hz9) (by decide) (by decide) lc_L_21 (by decide +kernel) hce hcv hcl g1 g2 ?_
      refine zs_widen9 (k' := 1) (n' := 6) (by decide) (by decide) ?_
      refine zs_astore_n (lo' := [(3, .ref q9), (0, .ref x), (1, .int y), (2, .ref u)]) hE dL_named_12 rfl (by decide) rfl ?_
      refine zs_iconst (v := (nI 1)) hE dL_named_13 (by decide) ?_
      exact zs_iret hE hr (by rw [ho]; exact ⟨rfl, z1, ⟨κ1, hX1, hk1⟩, f, ru1, fun w => absurd w (Nat.succ_ne_zero _)⟩) (by decide) (by decide) dL_named_14
    simp at hi
  · obtain ⟨o0, rfl, hz, κ1, hX1, hk1⟩ := hv
    have ru1 := ru.kept (k1 u lu (fun w => by have := w.2; omega))
    refine zs_widen9 (k' := 1) (n' := 6) (by decide) (by decide) ?_
    have hwf : sp_wf (o_named S y).2.2 := wfo_named hw y
    have h6 := hwf.1.1
    obtain ⟨w9, hw9⟩ := vi_named S y o0
    rw [hw9]
    refine zs_i2l hE dL_named_7 ?_
    refine zs_last hE ru1 (Or.inl (Or.inr rfl)) (by decide) (by decide) dL_named_8 (fun H1 hp1 hz1 ho1 => ?_)
    refine zs_goto (tgt := 15) hE dL_named_9 (by decide) ?_
    refine zs_iconst (v := (nI 0)) hE dL_named_15 (by decide) ?_
    exact zs_iret hE hr (⟨by rw [o0], by omega, ⟨κ1, hX1.mv (by omega) (fun q w1 w2 => ho1 q (fun e9 => by subst e9; rw [hk1 _ lu] at w2; omega)) h6, hk1⟩, _, hp1, fun _ => by rw [va_up_self]; exact (by rw [hw9]; rfl)⟩) (by decide) (by decide) dL_named_16

set_option maxHeartbeats 4000000 in
set_option maxRecDepth 100000 in
theorem m_L_share (D : va_G) (E : Nat → ClassId) (B : Nat) (l : Launch) (hl : l.stackTraces = false) (κ : Nat → Nat) (S : sp_S) (x u : Nat) (y w : Int32) (hu : 500 ≤ κ u) : zw_Ct D E B l yL_share cL_share 5 [(0, 10, 13, 21)] ({ frames := 7, cells := 1, slots := 6, locals := 113 } : Room) [.ref x, .int y, .int w, .ref u] (fun H => cs_W D E κ S x H ∧ ∃ f, zs_pt D u (.inl (E 3, 1, .inr (.inl f))) H) (fun q => cs_F κ q ∨ q = u) (lw_L D E κ x u (o_share S y w)) := by
  refine zw_ct (by decide) (Nat.le_of_ble_eq_true rfl) (fun p e s m below meth c hE hr htab hN hp => ?_)
  refine zs_lo (lo' := [(0, .ref x), (1, .int y), (2, .int w), (3, .ref u)]) rfl ?_
  obtain ⟨hW, f, ru⟩ := id hp
  obtain ⟨hX0, hw⟩ := id hW
  obtain ⟨a1, a2, a3, a4, a5, lp, lv, lh, lz, tg, ⟨t0, t1, t2, t3, t4, t5, hx, r1, r2, r3, r4, r5⟩, htg, hP, hV, hG, hZ, hκ⟩ := hX0
  have lu := ru.lt
  refine zs_aload_n hE 3 dL_share_0 rfl rfl ?_
  refine zs_iconst (v := (nI 0)) hE dL_share_1 (by decide) ?_
  refine zs_aload_n hE 0 dL_share_2 rfl rfl ?_
  refine zs_iload_n hE 1 dL_share_3 rfl rfl ?_
  refine zs_iload_n hE 2 dL_share_4 rfl rfl ?_
  refine zw_callX (av := [.int y, .int w]) (st := [.int (nI 0), .ref u]) hE (m_X6_share D E B l hl κ S x y w) sV_L_93 hx rfl rfl hW ⟨by decide, by decide⟩ ⟨by decide, by decide⟩ (fun q h => Or.inl (Or.inl h)) (Nat.le_of_ble_eq_true rfl) dL_share_5 (fun cls H1 ce q9 hx1 z1 k1 hce hcv hcl ls locs1 g1 g2 => ?_) (fun v H1 hv z1 k1 => ?_)
  · obtain ⟨i, hi, ho, hz, κ1, hX1, hk1⟩ := hx1
    have ru1 := ru.kept (k1 u lu (fun w => by have := w.2; omega))
    rcases i with _ | i
    · cases hi
      refine zw_catch hE htab [] ⟨0, 10, 13, 21⟩ [] rfl (fun z hz9 => by cases hz9) (by decide) (by decide) lc_L_21 (by decide +kernel) hce hcv hcl g1 g2 ?_
      refine zs_widen9 (k' := 1) (n' := 6) (by decide) (by decide) ?_
      refine zs_astore (lo' := [(4, .ref q9), (0, .ref x), (1, .int y), (2, .int w), (3, .ref u)]) hE dL_share_13 (by decide) rfl ?_
      refine zs_iconst (v := (nI 1)) hE dL_share_15 (by decide) ?_
      exact zs_iret hE hr (by rw [ho]; exact ⟨rfl, z1, ⟨κ1, hX1, hk1⟩, f, ru1, fun w => absurd w (Nat.succ_ne_zero _)⟩) (by decide) (by decide) dL_share_16
    simp at hi
  · obtain ⟨o0, rfl, hz, κ1, hX1, hk1⟩ := hv
    have ru1 := ru.kept (k1 u lu (fun w => by have := w.2; omega))
    refine zs_widen9 (k' := 1) (n' := 6) (by decide) (by decide) ?_
    have hwf : sp_wf (o_share S y w).2.2 := wfo_share hw y w
    have h6 := hwf.1.1
    obtain ⟨w9, hw9⟩ := vi_share S y w o0
    rw [hw9]
    refine zs_i2l hE dL_share_8 ?_
    refine zs_last hE ru1 (Or.inl (Or.inr rfl)) (by decide) (by decide) dL_share_9 (fun H1 hp1 hz1 ho1 => ?_)
    refine zs_goto (tgt := 17) hE dL_share_10 (by decide) ?_
    refine zs_iconst (v := (nI 0)) hE dL_share_17 (by decide) ?_
    exact zs_iret hE hr (⟨by rw [o0], by omega, ⟨κ1, hX1.mv (by omega) (fun q w1 w2 => ho1 q (fun e9 => by subst e9; rw [hk1 _ lu] at w2; omega)) h6, hk1⟩, _, hp1, fun _ => by rw [va_up_self]; exact (by rw [hw9]; rfl)⟩) (by decide) (by decide) dL_share_18

set_option maxHeartbeats 4000000 in
set_option maxRecDepth 100000 in
theorem m_L_got (D : va_G) (E : Nat → ClassId) (B : Nat) (l : Launch) (hl : l.stackTraces = false) (κ : Nat → Nat) (S : sp_S) (x u : Nat) (w : Int32) (hu : 500 ≤ κ u) : zw_Ct D E B l yL_got cL_got 4 [(0, 9, 12, 21)] ({ frames := 7, cells := 1, slots := 6, locals := 114 } : Room) [.ref x, .int w, .ref u] (fun H => cs_W D E κ S x H ∧ ∃ f, zs_pt D u (.inl (E 3, 1, .inr (.inl f))) H) (fun q => cs_F κ q ∨ q = u) (lw_L D E κ x u (o_got S w)) := by
  refine zw_ct (by decide) (Nat.le_of_ble_eq_true rfl) (fun p e s m below meth c hE hr htab hN hp => ?_)
  refine zs_lo (lo' := [(0, .ref x), (1, .int w), (2, .ref u)]) rfl ?_
  obtain ⟨hW, f, ru⟩ := id hp
  obtain ⟨hX0, hw⟩ := id hW
  obtain ⟨a1, a2, a3, a4, a5, lp, lv, lh, lz, tg, ⟨t0, t1, t2, t3, t4, t5, hx, r1, r2, r3, r4, r5⟩, htg, hP, hV, hG, hZ, hκ⟩ := hX0
  have lu := ru.lt
  refine zs_aload_n hE 2 dL_got_0 rfl rfl ?_
  refine zs_iconst (v := (nI 0)) hE dL_got_1 (by decide) ?_
  refine zs_aload_n hE 0 dL_got_2 rfl rfl ?_
  refine zs_iload_n hE 1 dL_got_3 rfl rfl ?_
  refine zw_callX (av := [.int w]) (st := [.int (nI 0), .ref u]) hE (m_X6_got D E B l hl κ S x w) sV_L_96 hx rfl rfl hW ⟨by decide, by decide⟩ ⟨by decide, by decide⟩ (fun q h => Or.inl (Or.inl h)) (Nat.le_of_ble_eq_true rfl) dL_got_4 (fun cls H1 ce q9 hx1 z1 k1 hce hcv hcl ls locs1 g1 g2 => ?_) (fun v H1 hv z1 k1 => ?_)
  · obtain ⟨i, hi, ho, hz, κ1, hX1, hk1⟩ := hx1
    have ru1 := ru.kept (k1 u lu (fun w => by have := w.2; omega))
    rcases i with _ | i
    · cases hi
      refine zw_catch hE htab [] ⟨0, 9, 12, 21⟩ [] rfl (fun z hz9 => by cases hz9) (by decide) (by decide) lc_L_21 (by decide +kernel) hce hcv hcl g1 g2 ?_
      refine zs_widen9 (k' := 1) (n' := 6) (by decide) (by decide) ?_
      refine zs_astore_n (lo' := [(3, .ref q9), (0, .ref x), (1, .int w), (2, .ref u)]) hE dL_got_12 rfl (by decide) rfl ?_
      refine zs_iconst (v := (nI 1)) hE dL_got_13 (by decide) ?_
      exact zs_iret hE hr (by rw [ho]; exact ⟨rfl, z1, ⟨κ1, hX1, hk1⟩, f, ru1, fun w => absurd w (Nat.succ_ne_zero _)⟩) (by decide) (by decide) dL_got_14
    simp at hi
  · obtain ⟨o0, rfl, hz, κ1, hX1, hk1⟩ := hv
    have ru1 := ru.kept (k1 u lu (fun w => by have := w.2; omega))
    refine zs_widen9 (k' := 1) (n' := 6) (by decide) (by decide) ?_
    have hwf : sp_wf (o_got S w).2.2 := wfo_got hw w
    have h6 := hwf.1.1
    obtain ⟨w9, hw9⟩ := vi_got S w o0
    rw [hw9]
    refine zs_i2l hE dL_got_7 ?_
    refine zs_last hE ru1 (Or.inl (Or.inr rfl)) (by decide) (by decide) dL_got_8 (fun H1 hp1 hz1 ho1 => ?_)
    refine zs_goto (tgt := 15) hE dL_got_9 (by decide) ?_
    refine zs_iconst (v := (nI 0)) hE dL_got_15 (by decide) ?_
    exact zs_iret hE hr (⟨by rw [o0], by omega, ⟨κ1, hX1.mv (by omega) (fun q w1 w2 => ho1 q (fun e9 => by subst e9; rw [hk1 _ lu] at w2; omega)) h6, hk1⟩, _, hp1, fun _ => by rw [va_up_self]; exact (by rw [hw9]; rfl)⟩) (by decide) (by decide) dL_got_16

set_option maxHeartbeats 4000000 in
set_option maxRecDepth 100000 in
theorem m_L_partsOf (D : va_G) (E : Nat → ClassId) (B : Nat) (l : Launch) (hl : l.stackTraces = false) (κ : Nat → Nat) (S : sp_S) (x u : Nat) (y z : Int32) (hu : 500 ≤ κ u) : zw_Ct D E B l yL_partsOf cL_partsOf 5 [(0, 10, 13, 21), (0, 10, 17, 13)] ({ frames := 7, cells := 1, slots := 6, locals := 113 } : Room) [.ref x, .int y, .int z, .ref u] (fun H => cs_W D E κ S x H ∧ ∃ f, zs_pt D u (.inl (E 3, 1, .inr (.inl f))) H) (fun q => cs_F κ q ∨ q = u) (lw_L D E κ x u (o_partsOf S y z)) := by
  refine zw_ct (by decide) (Nat.le_of_ble_eq_true rfl) (fun p e s m below meth c hE hr htab hN hp => ?_)
  refine zs_lo (lo' := [(0, .ref x), (1, .int y), (2, .int z), (3, .ref u)]) rfl ?_
  obtain ⟨hW, f, ru⟩ := id hp
  obtain ⟨hX0, hw⟩ := id hW
  obtain ⟨a1, a2, a3, a4, a5, lp, lv, lh, lz, tg, ⟨t0, t1, t2, t3, t4, t5, hx, r1, r2, r3, r4, r5⟩, htg, hP, hV, hG, hZ, hκ⟩ := hX0
  have lu := ru.lt
  refine zs_aload_n hE 3 dL_partsOf_0 rfl rfl ?_
  refine zs_iconst (v := (nI 0)) hE dL_partsOf_1 (by decide) ?_
  refine zs_aload_n hE 0 dL_partsOf_2 rfl rfl ?_
  refine zs_iload_n hE 1 dL_partsOf_3 rfl rfl ?_
  refine zs_iload_n hE 2 dL_partsOf_4 rfl rfl ?_
  refine zw_callX (av := [.int y, .int z]) (st := [.int (nI 0), .ref u]) hE (m_X6_partsOf D E B l hl κ S x y z) sV_L_99 hx rfl rfl hW ⟨by decide, by decide⟩ ⟨by decide, by decide⟩ (fun q h => Or.inl (Or.inl h)) (Nat.le_of_ble_eq_true rfl) dL_partsOf_5 (fun cls H1 ce q9 hx1 z1 k1 hce hcv hcl ls locs1 g1 g2 => ?_) (fun v H1 hv z1 k1 => ?_)
  · obtain ⟨i, hi, ho, hz, κ1, hX1, hk1⟩ := hx1
    have ru1 := ru.kept (k1 u lu (fun w => by have := w.2; omega))
    rcases i with _ | i
    · cases hi
      refine zw_catch hE htab [] ⟨0, 10, 13, 21⟩ [⟨0, 10, 17, 13⟩] rfl (fun z hz9 => by cases hz9) (by decide) (by decide) lc_L_21 (by decide +kernel) hce hcv hcl g1 g2 ?_
      refine zs_widen9 (k' := 1) (n' := 6) (by decide) (by decide) ?_
      refine zs_astore (lo' := [(4, .ref q9), (0, .ref x), (1, .int y), (2, .int z), (3, .ref u)]) hE dL_partsOf_13 (by decide) rfl ?_
      refine zs_iconst (v := (nI 1)) hE dL_partsOf_15 (by decide) ?_
      exact zs_iret hE hr (by rw [ho]; exact ⟨rfl, z1, ⟨κ1, hX1, hk1⟩, f, ru1, fun w => absurd w (Nat.succ_ne_zero _)⟩) (by decide) (by decide) dL_partsOf_16
    rcases i with _ | i
    · cases hi
      refine zw_catch hE htab [⟨0, 10, 13, 21⟩] ⟨0, 10, 17, 13⟩ [] rfl (fun z hz9 => by simp only [List.mem_cons, List.not_mem_nil, or_false] at hz9; rcases hz9 with rfl; exact ⟨by decide, _, lc_L_21, hN ("java/lang/IllegalArgumentException", "java/lang/IndexOutOfBoundsException") (by decide)⟩) (by decide) (by decide) lc_L_13 (by decide +kernel) hce hcv hcl g1 g2 ?_
      refine zs_widen9 (k' := 1) (n' := 6) (by decide) (by decide) ?_
      refine zs_astore (lo' := [(4, .ref q9), (0, .ref x), (1, .int y), (2, .int z), (3, .ref u)]) hE dL_partsOf_17 (by decide) rfl ?_
      refine zs_iconst (v := (nI 2)) hE dL_partsOf_19 (by decide) ?_
      exact zs_iret hE hr (by rw [ho]; exact ⟨rfl, z1, ⟨κ1, hX1, hk1⟩, f, ru1, fun w => absurd w (Nat.succ_ne_zero _)⟩) (by decide) (by decide) dL_partsOf_20
    simp at hi
  · obtain ⟨o0, rfl, hz, κ1, hX1, hk1⟩ := hv
    have ru1 := ru.kept (k1 u lu (fun w => by have := w.2; omega))
    refine zs_widen9 (k' := 1) (n' := 6) (by decide) (by decide) ?_
    have hwf : sp_wf (o_partsOf S y z).2.2 := wfo_partsOf hw y z
    have h6 := hwf.1.1
    obtain ⟨w9, hw9⟩ := vi_partsOf S y z o0
    rw [hw9]
    refine zs_i2l hE dL_partsOf_8 ?_
    refine zs_last hE ru1 (Or.inl (Or.inr rfl)) (by decide) (by decide) dL_partsOf_9 (fun H1 hp1 hz1 ho1 => ?_)
    refine zs_goto (tgt := 21) hE dL_partsOf_10 (by decide) ?_
    refine zs_iconst (v := (nI 0)) hE dL_partsOf_21 (by decide) ?_
    exact zs_iret hE hr (⟨by rw [o0], by omega, ⟨κ1, hX1.mv (by omega) (fun q w1 w2 => ho1 q (fun e9 => by subst e9; rw [hk1 _ lu] at w2; omega)) h6, hk1⟩, _, hp1, fun _ => by rw [va_up_self]; exact (by rw [hw9]; rfl)⟩) (by decide) (by decide) dL_partsOf_22

set_option maxHeartbeats 4000000 in
set_option maxRecDepth 100000 in
theorem m_L_countShare (D : va_G) (E : Nat → ClassId) (B : Nat) (l : Launch) (hl : l.stackTraces = false) (κ : Nat → Nat) (S : sp_S) (x u : Nat) (hu : 500 ≤ κ u) : zw_Ct D E B l yL_countShare cL_countShare 3 [(0, 8, 11, 106)] ({ frames := 7, cells := 1, slots := 6, locals := 111 } : Room) [.ref x, .ref u] (fun H => cs_W D E κ S x H ∧ ∃ f, zs_pt D u (.inl (E 4, 1, .inr (.inr (.inr (.inl f))))) H) (fun q => cs_F κ q ∨ q = u) (lw_D D E κ x u (o_countShare S)) := by
  refine zw_ct (by decide) (Nat.le_of_ble_eq_true rfl) (fun p e s m below meth c hE hr htab hN hp => ?_)
  refine zs_lo (lo' := [(0, .ref x), (1, .ref u)]) rfl ?_
  obtain ⟨hW, f, ru⟩ := id hp
  obtain ⟨hX0, hw⟩ := id hW
  obtain ⟨a1, a2, a3, a4, a5, lp, lv, lh, lz, tg, ⟨t0, t1, t2, t3, t4, t5, hx, r1, r2, r3, r4, r5⟩, htg, hP, hV, hG, hZ, hκ⟩ := hX0
  have lu := ru.lt
  refine zs_aload_n hE 1 dL_countShare_0 rfl rfl ?_
  refine zs_iconst (v := (nI 0)) hE dL_countShare_1 (by decide) ?_
  refine zs_aload_n hE 0 dL_countShare_2 rfl rfl ?_
  refine zw_callX (av := []) (st := [.int (nI 0), .ref u]) hE (m_X6_countShare D E B l hl κ S x) sV_L_102 hx rfl rfl hW ⟨by decide, by decide⟩ ⟨by decide, by decide⟩ (fun q h => Or.inl (Or.inl h)) (Nat.le_of_ble_eq_true rfl) dL_countShare_3 (fun cls H1 ce q9 hx1 z1 k1 hce hcv hcl ls locs1 g1 g2 => ?_) (fun v H1 hv z1 k1 => ?_)
  · obtain ⟨i, hi, ho, hz, κ1, hX1, hk1⟩ := hx1
    have ru1 := ru.kept (k1 u lu (fun w => by have := w.2; omega))
    rcases i with _ | i
    · cases hi
      refine zw_catch hE htab [] ⟨0, 8, 11, 106⟩ [] rfl (fun z hz9 => by cases hz9) (by decide) (by decide) lc_L_106 (by decide +kernel) hce hcv hcl g1 g2 ?_
      refine zs_widen9 (k' := 1) (n' := 6) (by decide) (by decide) ?_
      refine zs_astore_n (lo' := [(2, .ref q9), (0, .ref x), (1, .ref u)]) hE dL_countShare_11 rfl (by decide) rfl ?_
      refine zs_iconst (v := (nI 1)) hE dL_countShare_12 (by decide) ?_
      exact zs_iret hE hr (by rw [ho]; exact ⟨rfl, z1, ⟨κ1, hX1, hk1⟩, f, ru1, fun w => absurd w (Nat.succ_ne_zero _)⟩) (by decide) (by decide) dL_countShare_13
    simp at hi
  · obtain ⟨o0, rfl, hz, κ1, hX1, hk1⟩ := hv
    have ru1 := ru.kept (k1 u lu (fun w => by have := w.2; omega))
    refine zs_widen9 (k' := 1) (n' := 6) (by decide) (by decide) ?_
    have hwf : sp_wf (o_countShare S).2.2 := wfo_countShare hw
    have h6 := hwf.1.1
    obtain ⟨r9, hw9, hn9⟩ := vf_countShare hw o0
    rw [hw9]
    refine zs_f2d hE dL_countShare_6 hn9 ?_
    refine zs_dast hE ru1 (Or.inl (Or.inr rfl)) (by decide) (by decide) dL_countShare_7 (fun H1 hp1 hz1 ho1 => ?_)
    refine zs_goto (tgt := 14) hE dL_countShare_8 (by decide) ?_
    refine zs_iconst (v := (nI 0)) hE dL_countShare_14 (by decide) ?_
    exact zs_iret hE hr (⟨by rw [o0], by omega, ⟨κ1, hX1.mv (by omega) (fun q w1 w2 => ho1 q (fun e9 => by subst e9; rw [hk1 _ lu] at w2; omega)) h6, hk1⟩, _, hp1, fun _ => by rw [va_up_self]; exact (by rw [hw9]; rfl)⟩) (by decide) (by decide) dL_countShare_15

set_option maxHeartbeats 4000000 in
set_option maxRecDepth 100000 in
theorem m_L_meanMark (D : va_G) (E : Nat → ClassId) (B : Nat) (l : Launch) (hl : l.stackTraces = false) (κ : Nat → Nat) (S : sp_S) (x u : Nat) (hu : 500 ≤ κ u) : zw_Ct D E B l yL_meanMark cL_meanMark 3 [(0, 7, 10, 106)] ({ frames := 7, cells := 1, slots := 6, locals := 111 } : Room) [.ref x, .ref u] (fun H => cs_W D E κ S x H ∧ ∃ f, zs_pt D u (.inl (E 4, 1, .inr (.inr (.inr (.inl f))))) H) (fun q => cs_F κ q ∨ q = u) (lw_D D E κ x u (o_meanMark S)) := by
  refine zw_ct (by decide) (Nat.le_of_ble_eq_true rfl) (fun p e s m below meth c hE hr htab hN hp => ?_)
  refine zs_lo (lo' := [(0, .ref x), (1, .ref u)]) rfl ?_
  obtain ⟨hW, f, ru⟩ := id hp
  obtain ⟨hX0, hw⟩ := id hW
  obtain ⟨a1, a2, a3, a4, a5, lp, lv, lh, lz, tg, ⟨t0, t1, t2, t3, t4, t5, hx, r1, r2, r3, r4, r5⟩, htg, hP, hV, hG, hZ, hκ⟩ := hX0
  have lu := ru.lt
  refine zs_aload_n hE 1 dL_meanMark_0 rfl rfl ?_
  refine zs_iconst (v := (nI 0)) hE dL_meanMark_1 (by decide) ?_
  refine zs_aload_n hE 0 dL_meanMark_2 rfl rfl ?_
  refine zw_callX (av := []) (st := [.int (nI 0), .ref u]) hE (m_X6_meanMark D E B l hl κ S x) sV_L_108 hx rfl rfl hW ⟨by decide, by decide⟩ ⟨by decide, by decide⟩ (fun q h => Or.inl (Or.inl h)) (Nat.le_of_ble_eq_true rfl) dL_meanMark_3 (fun cls H1 ce q9 hx1 z1 k1 hce hcv hcl ls locs1 g1 g2 => ?_) (fun v H1 hv z1 k1 => ?_)
  · obtain ⟨i, hi, ho, hz, κ1, hX1, hk1⟩ := hx1
    have ru1 := ru.kept (k1 u lu (fun w => by have := w.2; omega))
    rcases i with _ | i
    · cases hi
      refine zw_catch hE htab [] ⟨0, 7, 10, 106⟩ [] rfl (fun z hz9 => by cases hz9) (by decide) (by decide) lc_L_106 (by decide +kernel) hce hcv hcl g1 g2 ?_
      refine zs_widen9 (k' := 1) (n' := 6) (by decide) (by decide) ?_
      refine zs_astore_n (lo' := [(2, .ref q9), (0, .ref x), (1, .ref u)]) hE dL_meanMark_10 rfl (by decide) rfl ?_
      refine zs_iconst (v := (nI 1)) hE dL_meanMark_11 (by decide) ?_
      exact zs_iret hE hr (by rw [ho]; exact ⟨rfl, z1, ⟨κ1, hX1, hk1⟩, f, ru1, fun w => absurd w (Nat.succ_ne_zero _)⟩) (by decide) (by decide) dL_meanMark_12
    simp at hi
  · obtain ⟨o0, rfl, hz, κ1, hX1, hk1⟩ := hv
    have ru1 := ru.kept (k1 u lu (fun w => by have := w.2; omega))
    refine zs_widen9 (k' := 1) (n' := 6) (by decide) (by decide) ?_
    have hwf : sp_wf (o_meanMark S).2.2 := wfo_meanMark hw
    have h6 := hwf.1.1
    obtain ⟨r9, hw9, hn9⟩ := vd_meanMark hw o0
    rw [hw9]
    refine zs_dast hE ru1 (Or.inl (Or.inr rfl)) (by decide) (by decide) dL_meanMark_6 (fun H1 hp1 hz1 ho1 => ?_)
    refine zs_goto (tgt := 13) hE dL_meanMark_7 (by decide) ?_
    refine zs_iconst (v := (nI 0)) hE dL_meanMark_13 (by decide) ?_
    exact zs_iret hE hr (⟨by rw [o0], by omega, ⟨κ1, hX1.mv (by omega) (fun q w1 w2 => ho1 q (fun e9 => by subst e9; rw [hk1 _ lu] at w2; omega)) h6, hk1⟩, _, hp1, fun _ => by rw [va_up_self]; exact (by rw [hw9]; rfl)⟩) (by decide) (by decide) dL_meanMark_14

set_option maxHeartbeats 4000000 in
set_option maxRecDepth 100000 in
theorem m_L_checksum (D : va_G) (E : Nat → ClassId) (B : Nat) (l : Launch) (hl : l.stackTraces = false) (κ : Nat → Nat) (S : sp_S) (x u : Nat) (y : Int32) (hu : 500 ≤ κ u) : zw_Ct D E B l yL_checksum cL_checksum 4 [(0, 8, 11, 21)] ({ frames := 7, cells := 1, slots := 6, locals := 112 } : Room) [.ref x, .int y, .ref u] (fun H => cs_W D E κ S x H ∧ ∃ f, zs_pt D u (.inl (E 3, 1, .inr (.inl f))) H) (fun q => cs_F κ q ∨ q = u) (lw_L D E κ x u (o_checksum S y)) := by
  refine zw_ct (by decide) (Nat.le_of_ble_eq_true rfl) (fun p e s m below meth c hE hr htab hN hp => ?_)
  refine zs_lo (lo' := [(0, .ref x), (1, .int y), (2, .ref u)]) rfl ?_
  obtain ⟨hW, f, ru⟩ := id hp
  obtain ⟨hX0, hw⟩ := id hW
  obtain ⟨a1, a2, a3, a4, a5, lp, lv, lh, lz, tg, ⟨t0, t1, t2, t3, t4, t5, hx, r1, r2, r3, r4, r5⟩, htg, hP, hV, hG, hZ, hκ⟩ := hX0
  have lu := ru.lt
  refine zs_aload_n hE 2 dL_checksum_0 rfl rfl ?_
  refine zs_iconst (v := (nI 0)) hE dL_checksum_1 (by decide) ?_
  refine zs_aload_n hE 0 dL_checksum_2 rfl rfl ?_
  refine zs_iload_n hE 1 dL_checksum_3 rfl rfl ?_
  refine zw_callX (av := [.int y]) (st := [.int (nI 0), .ref u]) hE (m_X6_checksum D E B l hl κ S x y) sV_L_112 hx rfl rfl hW ⟨by decide, by decide⟩ ⟨by decide, by decide⟩ (fun q h => Or.inl (Or.inl h)) (Nat.le_of_ble_eq_true rfl) dL_checksum_4 (fun cls H1 ce q9 hx1 z1 k1 hce hcv hcl ls locs1 g1 g2 => ?_) (fun v H1 hv z1 k1 => ?_)
  · obtain ⟨i, hi, ho, hz, κ1, hX1, hk1⟩ := hx1
    have ru1 := ru.kept (k1 u lu (fun w => by have := w.2; omega))
    rcases i with _ | i
    · cases hi
      refine zw_catch hE htab [] ⟨0, 8, 11, 21⟩ [] rfl (fun z hz9 => by cases hz9) (by decide) (by decide) lc_L_21 (by decide +kernel) hce hcv hcl g1 g2 ?_
      refine zs_widen9 (k' := 1) (n' := 6) (by decide) (by decide) ?_
      refine zs_astore_n (lo' := [(3, .ref q9), (0, .ref x), (1, .int y), (2, .ref u)]) hE dL_checksum_11 rfl (by decide) rfl ?_
      refine zs_iconst (v := (nI 1)) hE dL_checksum_12 (by decide) ?_
      exact zs_iret hE hr (by rw [ho]; exact ⟨rfl, z1, ⟨κ1, hX1, hk1⟩, f, ru1, fun w => absurd w (Nat.succ_ne_zero _)⟩) (by decide) (by decide) dL_checksum_13
    simp at hi
  · obtain ⟨o0, rfl, hz, κ1, hX1, hk1⟩ := hv
    have ru1 := ru.kept (k1 u lu (fun w => by have := w.2; omega))
    refine zs_widen9 (k' := 1) (n' := 6) (by decide) (by decide) ?_
    have hwf : sp_wf (o_checksum S y).2.2 := wfo_checksum hw y
    have h6 := hwf.1.1
    obtain ⟨w9, hw9⟩ := vl_checksum S y o0
    rw [hw9]
    refine zs_last hE ru1 (Or.inl (Or.inr rfl)) (by decide) (by decide) dL_checksum_7 (fun H1 hp1 hz1 ho1 => ?_)
    refine zs_goto (tgt := 14) hE dL_checksum_8 (by decide) ?_
    refine zs_iconst (v := (nI 0)) hE dL_checksum_14 (by decide) ?_
    exact zs_iret hE hr (⟨by rw [o0], by omega, ⟨κ1, hX1.mv (by omega) (fun q w1 w2 => ho1 q (fun e9 => by subst e9; rw [hk1 _ lu] at w2; omega)) h6, hk1⟩, _, hp1, fun _ => by rw [va_up_self]; exact (by rw [hw9]; rfl)⟩) (by decide) (by decide) dL_checksum_15


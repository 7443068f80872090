/-! the law's own layer: methods with handlers, the script, the switch -/
def zw_prs : List (String × String) := [("java/lang/IllegalStateException", "java/lang/IllegalArgumentException"), ("java/lang/IllegalArgumentException", "java/lang/IndexOutOfBoundsException"), ("java/lang/IllegalStateException", "java/lang/IndexOutOfBoundsException"), ("java/lang/UnsupportedOperationException", "java/lang/IndexOutOfBoundsException"), ("java/lang/UnsupportedOperationException", "java/lang/IllegalArgumentException"), ("java/lang/IllegalStateException", "java/lang/UnsupportedOperationException"), ("java/util/NoSuchElementException", "java/lang/IndexOutOfBoundsException")]
def zw_N (U : State) : Prop := ∀ q ∈ zw_prs, va_Nc q.1 q.2 U
theorem zw_N.mv {u U : State} (hvm : u.vm.Alike U.vm) (h : zw_N u) : zw_N U := fun q hq => va_Nc.moved hvm (h q hq)
def zw_P (D : va_G) (E : Nat → ClassId) (B : Nat) (av : List Value) (pre : Heap → Prop) (sz : Nat) : Array Value → State → Prop := va_Pc av (fun U => zs_K D E B U ∧ zw_N U ∧ pre U.heap ∧ U.heap.size = sz)
/-- a static method with handlers that returns an int -/
def zw_Ct (D : va_G) (E : Nat → ClassId) (B : Nat) (l : Launch) (y : MethodName) (cc : ByteArray) (nL : Nat) (hh : List (Nat × Nat × Nat × Nat)) (rm : Room) (av : List Value) (pre : Heap → Prop) (F : Nat → Prop) (post : Option Value → Heap → Heap → Prop) : Prop :=
  ∀ sz, B ≤ sz → (∀ q, F q → B ≤ q) → Met l y (Cond.codeWith y cc nL (some .int) hh :: aw) rm (zw_P D E B av pre sz) (zs_Q F post sz) rm.cells rm.slots (zs_fr F sz)
theorem zw_blind (D : va_G) (E : Nat → ClassId) (B : Nat) (av : List Value) (pre : Heap → Prop) (sz : Nat) : FrameBlind (zw_P D E B av pre sz) := fun a U g mk h => ⟨h.1, h.2.1.calling g mk a, zw_N.mv (u := U) (U := U.calling g mk a) (Vm.Alike.refl U.vm) h.2.2.1, h.2.2.2⟩
theorem zw_ofWH {l : Launch} {y : MethodName} {ws ws' : List Cond} {rm : Room} {Pc : Array Value → State → Prop} {Qc : Array Value → State → Outcome → State → Prop} {mc ms : Nat} {free : Addr → Prop} {cc : ByteArray} {maxL : Nat} {ret : Option FieldType} {hh : List (Nat × Nat × Nat × Nat)}
    (hy : plainName y.cls = true) (hw : ws = Cond.codeWith y cc maxL ret hh :: ws')
    (body : ∀ p e s m args below meth c s₁, BodyLoose p l y (headSpec ws rm) cc maxL ret e s m args below meth c s₁ → c.maxLocals = maxL → Pc args s →
      W p l e (headSpec ws rm).room s m args below meth c s.heap [] 0 0 (MQ below Qc args s mc ms free) (entryFrame m args maxL)) : Met l y ws rm Pc Qc mc ms free := by
  refine MetFree.of_bodyS (code := cc) (maxLocals := maxL) (ret := ret) hy ?_ ?_
  · intro args s m h hn
    obtain ⟨m9, meth, c, hn9, h1, h2, h3, h4, -, h5, h6, -⟩ := Cond.codeWith_spec (atoms_spec (ws := ws) h _ (by rw [hw]; exact List.mem_cons_self))
    cases hn.symm.trans hn9
    exact ⟨meth, c, h1, h2, h3, h4, h5, h6⟩
  · intro p e s m args below meth c s₁ B hml hP _
    have hh0 : s₁.heap = s.heap := by rw [B.state]; rfl
    obtain ⟨t, a1, o, b1, b2, b3⟩ := body p e s m args below meth c s₁ B hml hP s₁ hh0 (Stand.of_body B)
    exact ⟨t, o, a1, b1, b2, ⟨b3.1, b3.2⟩⟩
theorem zw_ct {D : va_G} {E : Nat → ClassId} {B : Nat} {l : Launch} {y : MethodName} {cc : ByteArray} {nL : Nat} {hh : List (Nat × Nat × Nat × Nat)} {rm : Room} {av : List Value} {pre : Heap → Prop} {F : Nat → Prop} {post : Option Value → Heap → Heap → Prop} (hy : plainName y.cls = true) (hlen : (lg_sl av).length ≤ nL)
    (body : ∀ (p : Program) (e : Env) (s : State) (m : MethodId) (below : List Frame) (meth : Method) (c : Code), zs_E D E B (zs_fr F s.heap.size) s m av.toArray meth c p cc nL y.cls → meth.sig.returnType = some .int → c.exceptionTable.toList = tableOf hh → zw_N s → pre s.heap →
      zs_W (zs_fr F s.heap.size) p l e rm s m av.toArray below meth c nL (MQ below (zs_Q F post s.heap.size) av.toArray s rm.cells rm.slots (zs_fr F s.heap.size)) s.heap 0 0 0 (lv_args 0 av) []) : zw_Ct D E B l y cc nL hh rm av pre F post := by
  intro sz hB hF
  refine zw_ofWH (cc := cc) (maxL := nL) (ret := some .int) (hh := hh) hy rfl ?_
  intro p e s m args below meth c s₁ Bd hml hv
  obtain ⟨rfl, hK, hN, hp, rfl⟩ := hv
  have hts := atoms_spec (ws := Cond.codeWith y cc nL (some .int) hh :: aw) Bd.pre
  have hl := lv_entry av (n := nL) hlen
  rw [lg_entry_eq]
  exact body p e s m below meth c ⟨Bd.exec, Bd.bytes, hml, findClass_of_methodNamed Bd.named, fun w hw => hts w (List.mem_cons_of_mem _ hw), hK, Bd.notSynchronized, fun q h => h.elim (hF q) (fun h => Nat.le_trans hB h), fun q h => Or.inr h⟩ Bd.returns (vx_table (x := y) Bd (hts _ List.mem_cons_self)) hN hp _ [] hl va_S.rf
section ZWC
variable {D : va_G} {E : Nat → ClassId} {B : Nat} {A : Nat → Prop} {p : Program} {l : Launch} {e : Env} {R : Room} {s : State} {m : MethodId} {args : Array Value} {below : List Frame} {meth : Method} {c : Code} {nL : Nat} {Q : State → Prop} {H : Heap} {k n pc : Nat} {lo : List (Nat × Value)} {st : List Value} {cc : ByteArray} {own : String}
variable {mc ms : Nat}
theorem zw_after {F1 : Nat → Prop} {post1 : Option Value → Heap → Heap → Prop} {xpost1 : String → Heap → Heap → Prop} {ls : Array Slot} {locs : List Loc} {st0 : List Value} {a : Array Value} (hr : vx_Run p l e R s m args below meth c H locs k n mc ms (F0 m pc ls st0) st (zs_Q F1 post1 H.size a) (zs_X F1 xpost1 H.size) (zs_fr F1 H.size)) (hS : va_S A s.heap H locs) (hF : ∀ q, F1 q → A q) (hA : ∀ q, s.heap.size ≤ q → A q)
    (Kx : ∀ (cls : String) (H1 : Heap) (ce : Cell) (q9 : Nat), xpost1 cls H H1 → H.size ≤ H1.size → (∀ q, q < H.size → ¬ F1 q → H1[q]? = H[q]?) → H1[q9]? = some ce → ce.vm = .none → s.vm.findClass cls = some ce.cls → ∀ locs1, va_S A s.heap H1 locs1 → vx_W p l e R s m args below meth c H1 locs1 (k + mc) (n + ms) Q (F0 m pc ls st) q9)
    (K : ∀ (v : Option Value) (H1 : Heap), post1 v H H1 → H.size ≤ H1.size → (∀ q, q < H.size → ¬ F1 q → H1[q]? = H[q]?) → ∀ locs1, va_S A s.heap H1 locs1 → W p l e R s m args below meth c H1 locs1 (k + mc) (n + ms) Q (F0 m (pc + 3) ls (v.toList ++ st))) : W p l e R s m args below meth c H locs k n Q (F0 m pc ls st0) := by
  intro T hT X
  have hfA : ∀ q, zs_fr F1 H.size q → A q := fun q h => h.elim (hF q) (fun h => hA q (Nat.le_trans hS.1 h))
  have hSS : ∀ (H1 : Heap) (L : List Loc), H.size ≤ H1.size → (∀ q, q < H.size → ¬ zs_fr F1 H.size q → H1[q]? = H[q]?) → (∀ q ∈ L, zs_fr F1 H.size q.base) → va_S A s.heap H1 (locs ++ L) := fun H1 L hz hk hL =>
    ⟨Nat.le_trans hS.1 hz, fun q h1 h2 => by rw [hk q (Nat.lt_of_lt_of_le h1 hS.1) (fun z => h2 (hfA q z))]; exact hS.2.1 q h1 h2, fun q hq => by
      rcases List.mem_append.mp hq with h | h
      · exact hS.2.2 q h
      · exact hfA _ (hL q h)⟩
  rcases hr T hT X with ⟨v, st₀, t, T', L, h0, X', hL, e1, e2, ⟨v', hv, hp, hz, hk⟩, sg⟩ | ⟨q9, st₀, t, T', L, EE, ce, h0, X', hL, e1, e2, ⟨hp, hz, hk⟩, hce, hcv, hcl, sg⟩
  · cases hv
    rw [h0] at hp hz hk
    rw [← e1] at hp hz hk
    obtain ⟨t2, a1, b1⟩ := K v T'.heap hp hz (fun q h1 h2 => hk q h1 (fun h => h.elim h2 (fun h => by omega))) (locs ++ L) (hSS _ L hz hk hL) T' rfl X'
    exact ⟨t2, sg t2 a1, b1⟩
  · rw [h0] at hp hz hk
    rw [← e1] at hp hz hk hce
    obtain ⟨t2, a1, b1⟩ := Kx EE T'.heap ce q9 hp hz (fun q h1 h2 => hk q h1 (fun h => h.elim h2 (fun h => by omega))) hce hcv hcl (locs ++ L) (hSS _ L hz hk hL) T' rfl X'
    exact ⟨t2, sg.trans a1, b1⟩
/-- a virtual call that may throw -/
theorem zw_callX (hE : zs_E D E B A s m args meth c p cc nL own) {y : MethodName} {bytes : ByteArray} {nL2 idx : Nat} {ret : Option FieldType} {rm : Room} {av : List Value} {pre : Heap → Prop} {F1 : Nat → Prop} {post1 : Option Value → Heap → Heap → Prop} {xpost1 : String → Heap → Heap → Prop} {b ci : Nat} {fs : List Value} {r : vw_C} (hM : zs_Cx D E B l y bytes nL2 ret rm (.ref b :: av) pre F1 post1 xpost1) (hs : zs_sV own idx y bytes nL2 ret av.length) (hrecv : zs_pt D b (.inr (ci, fs)) H) (hci : zs_C[ci]? = some r) (hrn : r.1 = y.cls) (hpre : pre H) (hR : rm.frames + 1 ≤ R.frames ∧ 8 + (nL2 + 11) + rm.locals ≤ R.locals) (hcell : k + rm.cells ≤ R.cells ∧ n + rm.slots ≤ R.slots) (hF : ∀ q, F1 q → A q) (hst : (st.map fun v => v.category).sum ≤ 8) (hd : decode cc pc = .ok (.invokevirtual idx, 3))
    (Kx : ∀ (cls : String) (H1 : Heap) (ce : Cell) (q9 : Nat), xpost1 cls H H1 → H.size ≤ H1.size → (∀ q, q < H.size → ¬ F1 q → H1[q]? = H[q]?) → H1[q9]? = some ce → ce.vm = .none → s.vm.findClass cls = some ce.cls → ∀ ls locs1, lv_has ls nL lo → va_S A s.heap H1 locs1 → vx_W p l e R s m args below meth c H1 locs1 (k + rm.cells) (n + rm.slots) Q (F0 m pc ls st) q9)
    (K : ∀ (v : Option Value) (H1 : Heap), post1 v H H1 → H.size ≤ H1.size → (∀ q, q < H.size → ¬ F1 q → H1[q]? = H[q]?) → zs_W A p l e R s m args below meth c nL Q H1 (k + rm.cells) (n + rm.slots) (pc + 3) lo (v.toList ++ st)) : zs_W A p l e R s m args below meth c nL Q H k n (pc) lo (av.reverse ++ .ref b :: st) := fun ls locs h1 h2 => by
  have hts := hE.2.2.2.2.1
  have hK := hE.2.2.2.2.2.1
  have hAB := hE.2.2.2.2.2.2.2.1
  have hAs := hE.2.2.2.2.2.2.2.2
  have hM := hM H.size (Nat.le_trans hK.2.2.2.1 h2.1) (fun q h => hAB q (hF q h))
  have hpc : FrameBlind (zs_P D E B (.ref b :: av) pre H.size) ∧ ∀ U : State, U.heap = H → s.WarmedH U.vm → zs_P D E B (.ref b :: av) pre H.size (Value.ref b :: av).toArray U := ⟨zs_blind D E B _ pre _, fun U hU hW => zs_hold hK hAB h2 hpre hU hW⟩
  obtain ⟨s1, s2, s3, s4, s5, s6⟩ := hs
  have hrc := va_recv hK.1 hrecv.P (q0 := 0) hci rfl
  rw [hrn] at hrc
  have hr := vx_runV (e := e) (below := below) (meth := meth) (locs := locs) (As := av) (rest := st) (g := F0 m pc ls (av.reverse ++ .ref b :: st)) ⟨hE.1, hE.2.1, hE.2.2.1, hE.2.2.2.1, hts⟩ hM (cwV av.length hts (zs_gV s1 s2 s3 s4 s5) rfl rfl rfl ⟨rfl, s6⟩ hR) ⟨hpc.1, hrc, hpc.2⟩ rfl rfl h1.1 rfl (lv_room hst) hd hcell
  exact zw_after hr h2 hF hAs (fun cls H1 ce q9 a1 a2 a3 a5 a6 a7 locs1 a4 => Kx cls H1 ce q9 a1 a2 a3 a5 a6 a7 ls locs1 h1 a4) (fun v H1 a1 a2 a3 locs1 a4 => K v H1 a1 a2 a3 ls locs1 h1 a4)
/-- the handler that takes what was thrown -/
theorem zw_catch (hE : zs_E D E B A s m args meth c p cc nL own) {cls : String} {ce : Cell} {q9 : Nat} {hh : List (Nat × Nat × Nat × Nat)} {ls : Array Slot} {locs : List Loc} (htab : c.exceptionTable.toList = tableOf hh) (pre : List ExceptionTableEntry) (x : ExceptionTableEntry) (suf : List ExceptionTableEntry) (hsplit : tableOf hh = pre ++ x :: suf)
    (hpass : ∀ z ∈ pre, z.catchType ≠ 0 ∧ ∃ nm : String, Cond.classLink own z.catchType nm ∈ aw ∧ va_Nc cls nm s) (hx : covers x pc = true) (h0 : x.catchType ≠ 0) (hlink : Cond.classLink own x.catchType cls ∈ aw) (hcast : Cond.castable cls cls ∈ zs_nw)
    (hcell : H[q9]? = some ce) (hv : ce.vm = .none) (hcl : s.vm.findClass cls = some ce.cls) (h1 : lv_has ls nL lo) (hS : va_S A s.heap H locs)
    (K : zs_W A p l e R s m args below meth c nL Q H k n x.handlerPc lo [.ref q9]) : vx_W p l e R s m args below meth c H locs k n Q (F0 m pc ls st) q9 := by
  have hts := hE.2.2.2.2.1
  have hK := hE.2.2.2.2.2.1
  exact vx_catch hE.2.2.2.1 pre x suf (htab.trans hsplit) (fun z hz => by
    obtain ⟨a1, nm, a2, a3⟩ := hpass z hz
    exact Or.inr ⟨a1, nm, hts _ a2, a3⟩) hx h0 (hts _ hlink) (va_Nw.use rfl (hK.2.2.1 _ hcast)) hcell hv hcl (K ls locs h1 hS)
def zw_sS (own : String) (idx : Nat) (y : MethodName) (bytes : ByteArray) (nL : Nat) (hh : List (Nat × Nat × Nat × Nat)) (n : Nat) : Prop := Cond.methodLink own idx y ∈ aw ∧ Cond.static y ∈ aw ∧ Cond.initialized y.cls ∈ aw ∧ Cond.codeWith y bytes nL (some .int) hh ∈ aw ∧ (y.cls ≠ "java/lang/invoke/MethodHandle" ∧ y.cls ≠ "java/lang/invoke/VarHandle" ∧ (parseMethodDescriptor y.desc).map (fun d => d.parameters.length) = some n)
/-- a static call of a method with handlers -/
theorem zw_callW (hE : zs_E D E B A s m args meth c p cc nL own) (hN : zw_N s) {y : MethodName} {bytes : ByteArray} {nL2 idx : Nat} {hh : List (Nat × Nat × Nat × Nat)} {rm : Room} {av : List Value} {pre : Heap → Prop} {F1 : Nat → Prop} {post1 : Option Value → Heap → Heap → Prop} (hM : zw_Ct D E B l y bytes nL2 hh rm av pre F1 post1) (hs : zw_sS own idx y bytes nL2 hh av.length) (hpre : pre H) (hR : rm.frames + 1 ≤ R.frames ∧ 8 + (nL2 + 11) + rm.locals ≤ R.locals) (hcell : k + rm.cells ≤ R.cells ∧ n + rm.slots ≤ R.slots) (hF : ∀ q, F1 q → A q) (hst : (st.map fun v => v.category).sum ≤ 8) (hd : decode cc pc = .ok (.invokestatic idx, 3)) (K : ∀ (v : Option Value) (H1 : Heap), post1 v H H1 → H.size ≤ H1.size → (∀ q, q < H.size → ¬ F1 q → H1[q]? = H[q]?) → zs_W A p l e R s m args below meth c nL Q H1 (k + rm.cells) (n + rm.slots) (pc + 3) lo (v.toList ++ st)) : zs_W A p l e R s m args below meth c nL Q H k n (pc) lo (av.reverse ++ st) := fun ls locs h1 h2 => by
  have hts := hE.2.2.2.2.1
  have hK := hE.2.2.2.2.2.1
  have hAB := hE.2.2.2.2.2.2.2.1
  have hAs := hE.2.2.2.2.2.2.2.2
  have hM := hM H.size (Nat.le_trans hK.2.2.2.1 h2.1) (fun q h => hAB q (hF q h))
  have hpc : FrameBlind (zw_P D E B av pre H.size) ∧ ∀ U : State, U.heap = H → s.WarmedH U.vm → zw_P D E B av pre H.size (av).toArray U := ⟨zw_blind D E B _ pre _, fun U hU hW => by
    obtain ⟨g1, g2, g3, g4⟩ := zs_hold hK hAB h2 hpre hU hW
    exact ⟨g1, g2, hN.mv hW.alike, g3, g4⟩⟩
  obtain ⟨s1, s2, s3, s4, s5⟩ := hs
  have hr := vx_runSW (e := e) (below := below) (meth := meth) (locs := locs) (As := av) (rest := st) (g := F0 m pc ls (av.reverse ++ st)) ⟨hE.1, hE.2.1, hE.2.2.1, hE.2.2.2.1, hts⟩ hM (vx_cwSW av.length hts (zs_gS s1 s2 s3 s4) rfl rfl rfl s5 hR) hpc rfl rfl h1.1 rfl (lv_room hst) hd hcell
  exact zs_after hr h2 hF hAs (fun v H1 a1 a2 a3 locs1 a4 => K v H1 a1 a2 a3 ls locs1 h1 a4)
/-! the script, the switch -/
theorem zs_sld (hE : zs_E D E B A s m args meth c p cc nL own) {b L j : Nat} {xs : Nat → Int32} (hX : va_X b L xs s s.heap) (hbl : b < s.heap.size) (hbA : ¬ A b) (hj : j < L) (hL : L < 2 ^ 31) (hd : decode cc pc = .ok (.iaload, 1)) (K : zs_W A p l e R s m args below meth c nL Q H k n (pc + 1) lo (.int (xs j) :: st)) : zs_W A p l e R s m args below meth c nL Q H k n (pc) lo (.int (nI j) :: .ref b :: st) := fun ls locs h1 h2 => va_sld hE.1 hE.2.1 hX hbl hbA h2 (vp_in_nI hj hL) hd (by rw [nI_clamp (Nat.lt_trans hj hL)]; exact K ls locs h1 h2)
theorem zs_slen (hE : zs_E D E B A s m args meth c p cc nL own) {b L : Nat} {xs : Nat → Int32} (hX : va_X b L xs s s.heap) (hbl : b < s.heap.size) (hbA : ¬ A b) (hd : decode cc pc = .ok (.arraylength, 1)) (K : zs_W A p l e R s m args below meth c nL Q H k n (pc + 1) lo (.int (nI L) :: st)) : zs_W A p l e R s m args below meth c nL Q H k n (pc) lo (.ref b :: st) := fun ls locs h1 h2 => va_slen hE.1 hE.2.1 hX hbl hbA h2 hd (K ls locs h1 h2)
theorem zs_tab (hE : zs_E D E B A s m args meth c p cc nL own) {dflt hi off : Int} {offs : Array Int} {len j tgt : Nat} (hd : decode cc pc = .ok (.tableswitch dflt 0 hi offs, len)) (hj : j < 2 ^ 31) (h2 : (j : Int) ≤ hi) (ho : offs[j]? = some off) (ht : (pc : Int) + off = (tgt : Int)) (K : zs_W A p l e R s m args below meth c nL Q H k n tgt lo st) : zs_W A p l e R s m args below meth c nL Q H k n (pc) lo (.int (nI j) :: st) := fun ls locs g1 g2 => lv_tableIn hE.1 hE.2.1 hd (by rw [nI_toInt hj]; omega) (by rw [nI_toInt hj]; omega) (by rw [nI_toInt hj, show ((j : Int) - 0).toNat = j by omega]; exact ho) ht (K ls locs g1 g2)
end ZWC
theorem and_31 (x : Int32) : ∃ j, j < 32 ∧ x &&& nI 31 = nI j := by
  refine ⟨(x &&& nI 31).toBitVec.toNat, ?_, ?_⟩
  · have : (x &&& nI 31).toBitVec = x.toBitVec &&& (nI 31).toBitVec := rfl
    rw [this, BitVec.toNat_and]
    exact Nat.lt_of_le_of_lt Nat.and_le_right (by decide)
  · show _ = Int32.ofNat _
    apply Int32.toBitVec_inj.mp
    show (x &&& nI 31).toBitVec = BitVec.ofNat 32 _
    rw [BitVec.ofNat_toNat, BitVec.setWidth_eq]


/-- a method's words: it can be called -/
def kMw (z : kY) (np : Nat) : Prop := Cond.code z.1 z.2.1 z.2.2.1 z.2.2.2 ∈ kG ∧ Cond.initialized z.1.cls ∈ kG ∧ (z.1.cls ≠ "java/lang/invoke/MethodHandle" ∧ z.1.cls ≠ "java/lang/invoke/VarHandle" ∧ (parseMethodDescriptor z.1.desc).map (fun d => d.parameters.length) = some np) ∧ z.2.2.1 ≤ 20
section KC
variable {E : kE} {d : Nat} {y z : kY} {cl sl mc ms pc n np mc' ms' : Nat} {L : List (Option Value)} {st : List Value} {M : kM} {Q Qc : Option Value → kM → Prop}
theorem kPc.at {s : State} {H : Heap} {locs : List Loc} {as : List Value} (hA : kAmb E s s.heap) (hz : E.1 ≤ s.heap.size) (hH : khr E M H) (hS : va_S (kA E) s.heap H locs) : ∀ U : State, U.heap = H → s.WarmedH U.vm → kPc E as M (as.map (kcv E)).toArray U := by
  intro U hU hW
  refine ⟨rfl, ?_, ?_, by rw [hU]; exact hH⟩
  · rw [hU]
    exact (hA.kept (fun a h1 h2 => hS.2.1 a h1 h2)).warm hW
  · rw [hU]
    exact Nat.le_trans hz hS.1
/-- behind a call -/
theorem k_run {p : Program} {l : Launch} {e : Env} {R : Room} {s : State} {m : MethodId} {args : Array Value} {below : List Frame} {meth : Method} {c : Code} {H : Heap} {locs : List Loc} {ls : Array Slot} {Z : State → Prop} {a : Array Value} {st0 : List Value} {g : List Value}
    (hr : va_Run p l e R s m args below meth c H locs cl sl mc' ms' (F0 m pc ls g) (st.map (kcv E)) (kQc E Qc a) (kA E)) (hC : kCx E d y mc ms p R s m args meth c)
    (hx : ∀ (v : Option Value) (M' : kM) (H' : Heap) (locs' : List Loc) (ls' : Array Slot) (pc' : Nat), Q v M' → khr E M' H' → va_S (kA E) s.heap H' locs' → kret y v pc' → W p l e R s m args below meth c H' locs' mc ms Z (F0 m pc' ls' ((v.map (kcv E)).toList)))
    (hS : va_S (kA E) s.heap H locs) (hl : klr E ls y.2.2.1 L)
    (kk : ∀ (v : Option Value) (M' : kM), Qc v M' → Wd E d y (cl + mc') (sl + ms') mc ms (pc + 3) L (v.toList ++ st) M' Q) : W p l e R s m args below meth c H locs cl sl Z (F0 m pc ls g) := by
  intro T hT X
  obtain ⟨v, st₀, t, T', Lo, h0, X', hL, e1, e2, ⟨v', M', hv, hq, hh, hz, hk⟩, stp⟩ := hr T hT X
  cases hv
  rw [h0] at hz hk
  have hS' : va_S (kA E) s.heap T'.heap (locs ++ Lo) := by
    refine ⟨Nat.le_trans hS.1 (by rw [e1]; exact hz), fun q h1 h2 => by rw [e1, hk q (Nat.lt_of_lt_of_le h1 hS.1) h2]; exact hS.2.1 q h1 h2, fun q hq => ?_⟩
    rcases List.mem_append.mp hq with h | h
    · exact hS.2.2 q h
    · exact hL q h
  obtain ⟨t2, a1, b1⟩ := kk v' M' hq p l e R s m args below meth c T'.heap (locs ++ Lo) ls Z hC hx (by rw [e1]; exact hh) hS' hl T' rfl X'
  refine ⟨t2, stp t2 ?_, b1⟩
  cases v' <;> exact a1
theorem k_frm {R : Room} (h : d + 1 ≤ R.frames ∧ (d + 1) * 40 ≤ R.locals ∧ mc ≤ R.cells ∧ ms ≤ R.slots) (h1 : 1 ≤ d) (hm : z.2.2.1 ≤ 20) : (kRm (d - 1) mc' ms').frames + 1 ≤ R.frames ∧ 8 + (z.2.2.1 + 11) + (kRm (d - 1) mc' ms').locals ≤ R.locals := by
  refine ⟨by simp only [kRm]; omega, ?_⟩
  simp only [kRm]
  have : d - 1 + 1 = d := by omega
  rw [this]
  omega
theorem k_invV {i k ci zz N : Nat} {C : String} {T : u_T} {ty : Nat → FieldType} {As : List Value} (hd : decode y.2.1 pc = .ok (.invokevirtual i, 3)) (hn : pc + 3 = n) (hz : kMw z np) (hg : Cond.methodLink y.1.cls i z.1 ∈ kG) (hg2 : Cond.instanceMethod z.1 ∈ kG) (hg3 : Cond.selects C z.1 z.1 ∈ kG) (hc : kCls ci C T N ty) (hk : M.1[k]? = some (ci, zz)) (hnp : As.length = np) (hst : (st.map fun v => v.category).sum ≤ 8) (h1 : 1 ≤ d) (hr1 : cl + mc' ≤ mc) (hr2 : sl + ms' ≤ ms)
    (hM : Ct E (d - 1) z mc' ms' (.ref k :: As) M Qc) (kk : ∀ (v : Option Value) (M' : kM), Qc v M' → Wd E d y (cl + mc') (sl + ms') mc ms n L (v.toList ++ st) M' Q) : Wd E d y cl sl mc ms pc L (As.reverse ++ .ref k :: st) M Q := by
  intro p l e R s m args below meth c H locs ls Z hC hx hH hS hl
  subst hn
  have hR := kroom hC
  have hf := k_frm (z := z) (mc' := mc') (ms' := ms') hR h1 hz.2.2.2
  have hts := hC.2.2.2.2.2.2.2.1
  obtain ⟨cellV, g1, g2, g3, -⟩ := kOb hH hk hc.1 hc.2.1
  have hfc := ((kamb hC).1 ci _ hc.2.1).2.1
  refine k_run (st0 := []) (va_runV (As := As.map (kcv E)) (rest := st.map (kcv E)) (b := kad E k) (C := C) (g := F0 m pc ls ((As.reverse ++ .ref k :: st).map (kcv E))) ⟨hC.1, hC.2.1, hC.2.2.1, kown hC, hts⟩ (hM l)
    ⟨callB_of np hts (kG_good (fun w h => h) hz.1) rfl rfl rfl (kgood hC hz.2.1) (kgood hC hg) hz.2.2.1 hf, kgood hC hg2, kgood hC hg3⟩
    ⟨kPc.blind E _ M, ⟨cellV, by rw [hH.ad hk]; exact g1, by rw [g3]; rfl, by rw [g2]; exact hfc⟩, kPc.at (as := .ref k :: As) (kamb hC) hC.2.2.2.2.2.2.2.2.2.2 hH hS⟩ rfl (by rw [List.length_map]; exact hnp) hl.1 (by simp [kcv]) (lv_room (by rw [kcv_sum]; exact hst)) hd ⟨by omega, by omega⟩) hC hx hS hl kk
theorem k_invS {i : Nat} {As : List Value} (hd : decode y.2.1 pc = .ok (.invokestatic i, 3)) (hn : pc + 3 = n) (hz : kMw z np) (hg : Cond.methodLink y.1.cls i z.1 ∈ kG) (hg2 : Cond.static z.1 ∈ kG) (hnp : As.length = np) (hst : (st.map fun v => v.category).sum ≤ 8) (h1 : 1 ≤ d) (hr1 : cl + mc' ≤ mc) (hr2 : sl + ms' ≤ ms)
    (hM : Ct E (d - 1) z mc' ms' As M Qc) (kk : ∀ (v : Option Value) (M' : kM), Qc v M' → Wd E d y (cl + mc') (sl + ms') mc ms n L (v.toList ++ st) M' Q) : Wd E d y cl sl mc ms pc L (As.reverse ++ st) M Q := by
  intro p l e R s m args below meth c H locs ls Z hC hx hH hS hl
  subst hn
  have hR := kroom hC
  have hf := k_frm (z := z) (mc' := mc') (ms' := ms') hR h1 hz.2.2.2
  have hts := hC.2.2.2.2.2.2.2.1
  refine k_run (st0 := []) (va_runS (As := As.map (kcv E)) (rest := st.map (kcv E)) (g := F0 m pc ls ((As.reverse ++ st).map (kcv E))) ⟨hC.1, hC.2.1, hC.2.2.1, kown hC, hts⟩ (hM l)
    ⟨callB_of np hts (kG_good (fun w h => h) hz.1) rfl rfl rfl (kgood hC hz.2.1) (kgood hC hg) hz.2.2.1 hf, kgood hC hg2⟩
    ⟨kPc.blind E _ M, kPc.at (as := As) (kamb hC) hC.2.2.2.2.2.2.2.2.2.2 hH hS⟩ rfl (by rw [List.length_map]; exact hnp) hl.1 (by simp) (lv_room (by rw [kcv_sum]; exact hst)) hd ⟨by omega, by omega⟩) hC hx hS hl kk
theorem k_invI {i k : Nat} {As : List Value} (hd : decode y.2.1 pc = .ok (.invokespecial i, 3)) (hn : pc + 3 = n) (hz : kMw z np) (hret : z.2.2.2 = none) (hnm : z.1.name = "<init>") (hg : Cond.methodLink y.1.cls i z.1 ∈ kG) (hg2 : Cond.instanceMethod z.1 ∈ kG) (hnp : As.length = np) (hst : (st.map fun v => v.category).sum ≤ 8) (h1 : 1 ≤ d) (hr1 : cl + mc' ≤ mc) (hr2 : sl + ms' ≤ ms)
    (hM : Ct E (d - 1) z mc' ms' (.ref k :: As) M Qc) (kk : ∀ (v : Option Value) (M' : kM), Qc v M' → Wd E d y (cl + mc') (sl + ms') mc ms n L (v.toList ++ st) M' Q) : Wd E d y cl sl mc ms pc L (As.reverse ++ .ref k :: st) M Q := by
  intro p l e R s m args below meth c H locs ls Z hC hx hH hS hl
  subst hn
  have hR := kroom hC
  have hf := k_frm (z := z) (mc' := mc') (ms' := ms') hR h1 hz.2.2.2
  have hts := hC.2.2.2.2.2.2.2.1
  have hcb := callB_of (ret := z.2.2.2) np hts (kG_good (fun w h => h) hz.1) rfl (rm := kRm (d - 1) mc' ms') (mc := mc') (ms := ms') rfl rfl (kgood hC hz.2.1) (kgood hC hg) hz.2.2.1 hf
  rw [hret] at hcb
  have hMl := hM l
  rw [hret] at hMl
  refine k_run (st0 := []) (va_runI (As := As.map (kcv E)) (rest := st.map (kcv E)) (b := kad E k) (g := F0 m pc ls ((As.reverse ++ .ref k :: st).map (kcv E))) ⟨hC.1, hC.2.1, hC.2.2.1, kown hC, hts⟩ hMl
    ⟨hcb, hnm, kgood hC hg2⟩
    ⟨kPc.blind E _ M, kPc.at (as := .ref k :: As) (kamb hC) hC.2.2.2.2.2.2.2.2.2.2 hH hS⟩ rfl (by rw [List.length_map]; exact hnp) hl.1 (by simp [kcv]) (lv_room (by rw [kcv_sum]; exact hst)) hd ⟨by omega, by omega⟩) hC hx hS hl kk
theorem k_invIN {i k : Nat} {As : List Value} (hd : decode y.2.1 pc = .ok (.invokespecial i, 3)) (hn : pc + 3 = n) (hz : kMw z np) (hret : z.2.2.2 = none) (hnm : z.1.name = "<init>") (hg : (y.1.cls, i, z.1) ∈ kNestM) (hg2 : Cond.instanceMethod z.1 ∈ kG) (hnp : As.length = np) (hst : (st.map fun v => v.category).sum ≤ 8) (h1 : 1 ≤ d) (hr1 : cl + mc' ≤ mc) (hr2 : sl + ms' ≤ ms)
    (hM : Ct E (d - 1) z mc' ms' (.ref k :: As) M Qc) (kk : ∀ (v : Option Value) (M' : kM), Qc v M' → Wd E d y (cl + mc') (sl + ms') mc ms n L (v.toList ++ st) M' Q) : Wd E d y cl sl mc ms pc L (As.reverse ++ .ref k :: st) M Q := by
  intro p l e R s m args below meth c H locs ls Z hC hx hH hS hl
  subst hn
  have hR := kroom hC
  have hf := k_frm (z := z) (mc' := mc') (ms' := ms') hR h1 hz.2.2.2
  have hts := hC.2.2.2.2.2.2.2.1
  have hcb := va_cnB (ret := z.2.2.2) (R := R) np hts (kG_good (fun w h => h) hz.1) rfl (rm := kRm (d - 1) mc' ms') (mc := mc') (ms := ms') rfl rfl ((kamb hC).2.2.2.1 _ hg) (kgood hC hz.2.1) hz.2.2.1 hf
  dsimp only at hcb
  rw [hret] at hcb
  have hMl := hM l
  rw [hret] at hMl
  refine k_run (st0 := []) (va_runIN (As := As.map (kcv E)) (rest := st.map (kcv E)) (b := kad E k) (g := F0 m pc ls ((As.reverse ++ .ref k :: st).map (kcv E))) ⟨hC.1, hC.2.1, hC.2.2.1, kown hC, hts⟩ hMl
    ⟨hcb, hnm, kgood hC hg2⟩
    ⟨kPc.blind E _ M, kPc.at (as := .ref k :: As) (kamb hC) hC.2.2.2.2.2.2.2.2.2.2 hH hS⟩ rfl (by rw [List.length_map]; exact hnp) hl.1 (by simp [kcv]) (lv_room (by rw [kcv_sum]; exact hst)) hd ⟨by omega, by omega⟩) hC hx hS hl kk
/-- Object's own constructor -/
theorem k_obj {i k : Nat} (hd : decode y.2.1 pc = .ok (.invokespecial i, 3)) (hn : pc + 3 = n) (hg : Cond.methodLink y.1.cls i objectInit ∈ kG) (hg2 : Cond.instanceMethod objectInit ∈ kG) (hg3 : Cond.code objectInit ⟨#[0xb1]⟩ 1 none ∈ kG) (hst : (st.map fun v => v.category).sum ≤ 8) (kk : Wd E d y cl sl mc ms n L st M Q) : Wd E d y cl sl mc ms pc L (.ref k :: st) M Q := by
  intro p l e R s m args below meth c H locs ls Z hC hx hH hS hl
  subst hn
  have hR := kroom hC
  exact W.objInit hC.1 hC.2.1 (kown hC) (kgood hC hg) (kgood hC hg2) (kgood hC hg3) rfl (hl.1.trans hC.2.2.1.symm) rfl hd (by omega) (by
    have h8 : ((st.map (kcv E)).map fun v => v.category).sum ≤ 8 := by rw [kcv_sum]; exact hst
    show 2 * 0 + _ + 12 ≤ _; omega) (kk p l e R s m args below meth c H locs ls Z hC hx hH hS hl)
theorem k_max {i : Nat} {a b : Int32} (hd : decode y.2.1 pc = .ok (.invokestatic i, 3)) (hn : pc + 3 = n) (hg : Cond.methodLink y.1.cls i Lib.Math.max.name ∈ kG) (hg2 : Cond.static Lib.Math.max.name ∈ kG) (hg3 : Cond.initialized "java/lang/Math" ∈ kG) (hg4 : Cond.code Lib.Math.max.name Lib.Math.max.code 2 (some .int) ∈ kG) (hst : (st.map fun v => v.category).sum ≤ 8) (h1 : cl ≤ mc) (h2 : sl ≤ ms) (kk : Wd E d y cl sl mc ms n L (.int (if a < b then b else a) :: st) M Q) : Wd E d y cl sl mc ms pc L (.int b :: .int a :: st) M Q := by
  intro p l e R s m args below meth c H locs ls Z hC hx hH hS hl
  subst hn
  have hR := kroom hC
  exact va_mmax hC.1 hC.2.1 (hC.2.2.1.trans hl.1.symm) (kown hC) (kgood hC hg) (kgood hC hg2) (kgood hC hg3) (kgood hC hg4) (by omega) (by
    have h8 : ((st.map (kcv E)).map fun v => v.category).sum ≤ 8 := by rw [kcv_sum]; exact hst
    omega) (by omega) (by omega) hd (kk p l e R s m args below meth c H locs ls Z hC hx hH hS hl)
theorem k_min {i : Nat} {a b : Int32} (hd : decode y.2.1 pc = .ok (.invokestatic i, 3)) (hn : pc + 3 = n) (hg : Cond.methodLink y.1.cls i Lib.Math.min.name ∈ kG) (hg2 : Cond.static Lib.Math.min.name ∈ kG) (hg3 : Cond.initialized "java/lang/Math" ∈ kG) (hg4 : Cond.code Lib.Math.min.name Lib.Math.min.code 2 (some .int) ∈ kG) (hst : (st.map fun v => v.category).sum ≤ 8) (h1 : cl ≤ mc) (h2 : sl ≤ ms) (kk : Wd E d y cl sl mc ms n L (.int (if b < a then b else a) :: st) M Q) : Wd E d y cl sl mc ms pc L (.int b :: .int a :: st) M Q := by
  intro p l e R s m args below meth c H locs ls Z hC hx hH hS hl
  subst hn
  have hR := kroom hC
  exact va_mmin hC.1 hC.2.1 (hC.2.2.1.trans hl.1.symm) (kown hC) (kgood hC hg) (kgood hC hg2) (kgood hC hg3) (kgood hC hg4) (by omega) (by
    have h8 : ((st.map (kcv E)).map fun v => v.category).sum ≤ 8 := by rw [kcv_sum]; exact hst
    omega) (by omega) (by omega) hd (kk p l e R s m args below meth c H locs ls Z hC hx hH hS hl)
/-- a static array of the class's own, or of a nest mate -/
theorem k_gets {i k : Nat} {C nm : String} (hd : decode y.2.1 pc = .ok (.getstatic i, 3)) (hn : pc + 3 = n) (hm : (C, nm, k) ∈ kStat) (hg : Cond.fieldLink y.1.cls i C nm "[I" ∈ kG) (kk : Wd E d y cl sl mc ms n L (.ref k :: st) M Q) : Wd E d y cl sl mc ms pc L st M Q := by
  intro p l e R s m args below meth c H locs ls Z hC hx hH hS hl
  subst hn
  exact va_gets hC.1 hC.2.1 ((kamb hC).2.2.2.2.2.1 _ hm) hS (kown hC) (kgood hC hg) (fun x h => h) hd (kk p l e R s m args below meth c H locs ls Z hC hx hH hS hl)
theorem k_ldcS {i j : Nat} (hd : decode y.2.1 pc = .ok (.ldc i, 2)) (hn : pc + 2 = n) (hy : y.1.cls = "RopeBorder$Reader") (hi : (i = 15 ∧ j = 1005) ∨ (i = 24 ∧ j = 1006)) (kk : Wd E d y cl sl mc ms n L (.ref j :: st) M Q) : Wd E d y cl sl mc ms pc L st M Q := by
  intro p l e R s m args below meth c H locs ls Z hC hx hH hS hl
  subst hn
  have ho := kown hC
  rw [hy] at ho
  obtain ⟨-, -, -, -, -, -, -, -, h9, h10, -⟩ := kamb hC
  rcases hi with ⟨rfl, rfl⟩ | ⟨rfl, rfl⟩
  · exact va_ldcS hC.1 hC.2.1 ho h9 hd (kk p l e R s m args below meth c H locs ls Z hC hx hH hS hl)
  · exact va_ldcS hC.1 hC.2.1 ho h10 hd (kk p l e R s m args below meth c H locs ls Z hC hx hH hS hl)
/-- System.arraycopy of int arrays, from one that can be read into one of the memory -/
theorem k_copy {i k0 k1 n0 n1 a b z : Nat} {f : Nat → Int32} {ia ib iz : Int32} (hd : decode y.2.1 pc = .ok (.invokestatic i, 3)) (hn : pc + 3 = n) (hg : Cond.methodLink y.1.cls i arraycopyName ∈ kG) (hg2 : Cond.native arraycopyName ∈ kG) (hg3 : Cond.static arraycopyName ∈ kG) (hg4 : Cond.initialized "java/lang/System" ∈ kG)
    (hr : kRd E M k0 n0 f) (hk : M.1[k1]? = some (100, n1)) (ha : ia = nI a) (hb : ib = nI b) (hz : iz = nI z) (h0 : a + z ≤ n0) (h1 : b + z ≤ n1) (hn0 : n0 < 2 ^ 31) (hn1 : n1 < 2 ^ 31) (hst : (st.map fun v => v.category).sum ≤ 8)
    (kk : Wd E d y cl sl mc ms n L st (kcopy M k1 (va_cpy f (M.2.2 k1) a b z)) Q) : Wd E d y cl sl mc ms pc L (.int iz :: .int ib :: .ref k1 :: .int ia :: .ref k0 :: st) M Q := by
  intro p l e R s m args below meth c H locs ls Z hC hx hH hS hl
  subst hn
  have hR := kroom hC
  obtain ⟨c0, q1, q2, q3, q4, q5, q6, q7⟩ := hr.cell (kamb hC) hH hS
  have h2 := hH.2.2 k1 _ hk
  unfold kco at h2
  rw [if_neg (by show ¬ 100 < 100; omega), if_pos rfl] at h2
  have hd1 := (kamb hC).2.1.1 n1 (fun j => .int (M.2.2 k1 j))
  obtain ⟨-, kk0, hk0, cm0, hkk0⟩ := q2
  obtain ⟨-, kk1, hk1, cm1, hkk1⟩ := hd1
  have ca : ia.toNatClampNeg = a := by rw [ha]; exact nI_clamp (by omega)
  have cb : ib.toNatClampNeg = b := by rw [hb]; exact nI_clamp (by omega)
  have cz : iz.toNatClampNeg = z := by rw [hz]; exact nI_clamp (by omega)
  have ta : ia.toInt = (a : Int) := by rw [ha]; exact nI_toInt (by omega)
  have tb : ib.toInt = (b : Int) := by rw [hb]; exact nI_toInt (by omega)
  have tz : iz.toInt = (z : Int) := by rw [hz]; exact nI_toInt (by omega)
  have h8 : ((st.map (kcv E)).map fun v => v.category).sum ≤ 8 := by rw [kcv_sum]; exact hst
  show W p l e R s m args below meth c H locs cl sl Z (F0 m pc ls (.int iz :: .int ib :: .ref (kad E k1) :: .int ia :: .ref (kad E k0) :: st.map (kcv E)))
  rw [hH.ad hk]
  intro T hT X
  obtain ⟨vm', X', step⟩ := X.arraycopy hC.1 (kown hC) (kgood hC hg) (kgood hC hg2) (kgood hC hg3) (kgood hC hg4) (src := kad E k0) (dst := E.1 + k1) (cs := c0) (cd := arrV (E.2.2.2.1 100) n1 (fun j => .int (M.2.2 k1 j))) (srcPos := ia) (destPos := ib) (n := iz) (by rw [hT]; exact q1) (by rw [hT]; exact h2)
    (fun q h => q7 q h) (fun _ h => by cases h) q3 (fun h => by cases h) hk0 hk1 hkk0 hkk1 (by simp [refKind]) (by rw [ha]; exact nI_pos (by omega)) (by rw [hb]; exact nI_pos (by omega)) (by rw [hz]; exact nI_pos (by omega))
    (by rw [ta, tz]; omega)
    (by rw [tb, tz, arrV_size]; omega)
    (fun vm₁ _ j hj => by
      rw [cz] at hj
      have e : c0.slots.getD (ia.toNatClampNeg + j) .null = .int (f (a + j)) := by
        rw [ca, Array.getD_eq_getD_getElem?, q6 _ (by omega)]
        rfl
      refine ⟨?_, ?_⟩
      · rw [e]; rfl
      · rw [e]; exact trivial)
    (g := F0 m pc ls (.int iz :: .int ib :: .ref (E.1 + k1) :: .int ia :: .ref (kad E k0) :: st.map (kcv E))) rfl (hl.1.trans hC.2.2.1.symm) (rest := st.map (kcv E)) rfl (by rw [hC.2.1]; exact hd) (by omega) (by
      have h9 : nativeFrameWords "java/lang/System" "arraycopy" 5 + 11 ≤ 32 := by decide +kernel
      show 2 * 0 + _ + _ ≤ _; omega)
  have e1 : copied c0 (arrV (E.2.2.2.1 100) n1 (fun j => .int (M.2.2 k1 j))) ia ib iz = arrV (E.2.2.2.1 100) n1 (fun j => .int (va_cpy f (M.2.2 k1) a b z j)) := by
    unfold copied
    rw [ca, cb, cz]
    have e : c0.stretch a z = (List.range z).map (fun j => .int (f (a + j))) := by
      unfold Cell.stretch
      apply List.map_congr_left
      intro j hj
      have hj' := List.mem_range.mp hj
      rw [Array.getD_eq_getD_getElem?, q6 _ (by omega)]
      rfl
    rw [e, Cell.storeRun, va_pairs]
    congr 1
    funext k
    simp only [va_cpy, List.length_map, List.length_range, Nat.add_zero]
    by_cases h : b ≤ k ∧ k < b + z
    · rw [if_pos h, if_pos h, List.getD_eq_getElem?_getD, List.getElem?_map, List.getElem?_range (by omega)]
      rfl
    · rw [if_neg h, if_neg h]
  rw [e1] at X' step
  have hlt : E.1 + k1 < H.size := (Array.getElem?_eq_some_iff.mp h2).1
  have hheap : ((T.setVm vm').setCell (E.1 + k1) (arrV (E.2.2.2.1 100) n1 (fun j => .int (va_cpy f (M.2.2 k1) a b z j)))).heap = H.setIfInBounds (E.1 + k1) (arrV (E.2.2.2.1 100) n1 (fun j => .int (va_cpy f (M.2.2 k1) a b z j))) := by rw [← hT]; rfl
  have oq : ∀ q : Nat, q ≠ E.1 + k1 → (H.setIfInBounds (E.1 + k1) (arrV (E.2.2.2.1 100) n1 (fun j => .int (va_cpy f (M.2.2 k1) a b z j))))[q]? = H[q]? := fun q hq => by simp [Array.getElem?_setIfInBounds, Ne.symm hq]
  have hAk : kA E (E.1 + k1) := Nat.le_add_right _ _
  obtain ⟨t, a1, b1⟩ := kk p l e R s m args below meth c _ _ ls Z hC hx (hH.set (M' := kcopy M k1 (va_cpy f (M.2.2 k1) a b z)) rfl hk (by simp) oq (fun k' hne => ⟨rfl, funext fun j' => if_neg hne⟩) (by
      unfold kco
      rw [if_neg (by show ¬ 100 < 100; omega), if_pos rfl]
      simp [Array.getElem?_setIfInBounds, hlt, kcopy])) ⟨by simp; exact hS.1, fun q g1 g2 => by
      rw [oq q (fun e => g2 (by rw [e]; exact hAk))]
      exact hS.2.1 q g1 g2, fun q hq => by
      rcases List.mem_append.mp hq with h | h
      · exact hS.2.2 q h
      · obtain ⟨z, -, hz⟩ := List.mem_map.mp h
        rw [← hz]
        exact hAk⟩ hl _ hheap X'
  exact ⟨t, step t a1, b1⟩
end KC

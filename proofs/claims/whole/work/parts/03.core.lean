/-! THE COMPACT WALK. A memory is (shapes, pointers, numbers): cell k is an object of class q.1 (q.1 < 100), an int array (100) or an array of references (101 + class), of q.2 places; cells are numbered in the order in which they are made. References above 999 are cells that were there before (the script, static arrays, two Strings). -/
abbrev kM : Type := List (Nat × Nat) × (Nat → Nat → Option Nat) × (Nat → Nat → Int32)
abbrev kE : Type := Nat × (Nat → ClassId) × (Nat → Nat → Nat) × (Nat → ClassId) × (Nat → Nat) × Nat × (Nat → Int32)
abbrev kY : Type := MethodName × ByteArray × Nat × Option FieldType
def kad (E : kE) (k : Nat) : Nat := if k < 1000 then E.1 + k else E.2.2.2.2.1 (k - 1000)
def kcv (E : kE) (v : Value) : Value := match v with
  | .ref k => .ref (kad E k)
  | .int a => .int a
  | .long a => .long a
  | .float a => .float a
  | .double a => .double a
  | .null => .null
  | .retAddr a => .retAddr a
theorem kcv_cat (E : kE) (v : Value) : (kcv E v).category = v.category := by cases v <;> rfl
theorem kcv_sum (E : kE) : ∀ st : List Value, ((st.map (kcv E)).map fun v => v.category).sum = (st.map fun v => v.category).sum
  | [] => rfl
  | v :: st => by simp only [List.map_cons, List.sum_cons, kcv_cat, kcv_sum E st]
def kfkT : List (List Nat) := [[2,2,2,2,2,0,0,0,0,0,0,0,0],[0,0,0,0,0,0,0],[2,2,2,2,2,0,0,0],[2,2,0,0,0],[2,2,0,0,0,3],[2,0,0],[0,0],[2,0,0,0,0],[2,2,2,2,2,2,2,0],[2,2,2,2,1,0,2,0,0,0,0,0,0,0,1,2,2,2,2,2,0,0,0,0]]
def kfk (c j : Nat) : Nat := (kfkT.getD c []).getD j 0
def kfv (E : kE) (kd : Nat) (p : Option Nat) (i : Int32) : Value := if kd < 2 then .int i else if kd = 2 then va_rf (p.map (kad E)) else if i = 1 then .ref (kad E 1005) else if i = 2 then .ref (kad E 1006) else .null
def kA (E : kE) : Nat → Prop := fun q => E.1 ≤ q
def kco (E : kE) (H : Heap) (a kd n : Nat) (p : Nat → Option Nat) (i : Nat → Int32) : Prop :=
  if kd < 100 then ∃ r : vw_C, vwCl[kd]? = some r ∧ t_OB a (E.2.1 kd) r.2.2 (E.2.2.1 kd) H (fun j => kfv E (kfk kd j) (p j) (i j))
  else if kd = 100 then H[a]? = some (arrV (E.2.2.2.1 100) n (fun j => .int (i j)))
  else H[a]? = some (arrV (E.2.2.2.1 kd) n (fun j => va_rf ((p j).map (kad E))))
def khr (E : kE) (M : kM) (H : Heap) : Prop := H.size = E.1 + M.1.length ∧ M.1.length ≤ 1000 ∧ ∀ (k : Nat) (q : Nat × Nat), M.1[k]? = some q → kco E H (E.1 + k) q.1 q.2 (M.2.1 k) (M.2.2 k)
def kxt (E : kE) (k : Nat) : Nat × (Nat → Int32) :=
  if k = 1000 then E.2.2.2.2.2
  else if k = 1001 then (7, fun j => ([-1, 0, 0, 0, 1, 2, 3] : List Int32).getD j 0)
  else if k = 1002 then (5, fun j => ([1, -2, 20, -47, -43] : List Int32).getD j 0)
  else if k = 1003 then (7, fun j => ([-2, 100, -1, 1, -43, -42, -60] : List Int32).getD j 0)
  else (28, fun j => ([10, 11, 12, 13, 20, 0, 0, 0, 0, 30, 0, 0, 0, 0, 40, 0, 0, 0, 0, 50, 0, 60, 0, 0, 0, 0, 70, 71] : List Int32).getD j 0)
def kOA : List (Nat × String) := [(107, "RopeBorder$Turner"), (102, "RopeBorder$Crosser"), (106, "RopeBorder$Sheet")]
def kStat : List (String × String × Nat) := [("RopeBorder", "KIND_ABOVE", 1001), ("RopeBorder$Law", "JUMPS_UNWRITTEN", 1002), ("RopeBorder$Law", "JUMPED_UNWRITTEN", 1003), ("RopeBorder$Voices", "BODIES", 1004)]
def kNestM : List (String × Nat × MethodName) := [("RopeBorder", 9, ⟨"RopeBorder$Kept", "<init>", "()V"⟩), ("RopeBorder$Border", 44, ⟨"RopeBorder$Turner", "<init>", "()V"⟩), ("RopeBorder$Border", 45, ⟨"RopeBorder$Crosser", "<init>", "()V"⟩), ("RopeBorder", 50, ⟨"RopeBorder$Voices", "<init>", "()V"⟩), ("RopeBorder", 64, ⟨"RopeBorder$Sheet", "<init>", "()V"⟩)]
def kNestF : List (String × Nat) := [("RopeBorder$Crosser", 33), ("RopeBorder$Voices", 32)]
/-- what holds around: the tables' classes, and the cells that were there before -/
def kAmb (E : kE) (U : State) (H : Heap) : Prop :=
  (∀ (c : Nat) (q : vw_C), vwCl[c]? = some q → u_Kn U q.1 q.2.1 q.2.2 (E.2.1 c) (E.2.2.1 c)) ∧
  (ArrOfT U (E.2.2.2.1 100) .int ∧ va_RA U (E.2.2.2.1 100) .int) ∧
  (∀ q ∈ kOA, ArrOfT U (E.2.2.2.1 q.1) (.object q.2) ∧ va_RA U (E.2.2.2.1 q.1) (.object q.2) ∧ va_AO q.2 U) ∧
  (∀ q ∈ kNestM, va_Nw (.methodLinkNest q.1 q.2.1 q.2.2 "RopeBorder") U) ∧
  (∀ q ∈ kNestF, va_Nw (.fieldLinkNest q.1 q.2 "RopeBorder" "KIND_ABOVE" "[I" "RopeBorder") U) ∧
  (∀ q ∈ kStat, va_Z q.1 q.2.1 "[I" (.ref (kad E q.2.2)) (kA E) U H) ∧
  (∀ k : Nat, 1000 ≤ k → k ≤ 1004 → va_T .int (kad E k) (kxt E k).1 (fun j => .int ((kxt E k).2 j)) (kA E) U H) ∧
  vk_S 2 [3, 3] [[107, 108, 112], [107, 119, 98]] (fun i => kad E (1005 + i)) (fun i => kad E (1007 + i)) (kA E) U H ∧
  vk_R "RopeBorder$Reader" 15 "klp" (kad E 1005) U ∧ vk_R "RopeBorder$Reader" 24 "kwb" (kad E 1006) U ∧
  va_Z "java/lang/String" "COMPACT_STRINGS" "Z" (.int 1) (kA E) U H
theorem kAmb.kept {E : kE} {U : State} {H H1 : Heap} (h : kAmb E U H) (hq : ∀ a : Nat, a < H.size → ¬ kA E a → H1[a]? = H[a]?) : kAmb E U H1 := by
  obtain ⟨h1, h2, h3, h4, h5, h6, h7, h8, h9, h10, h11⟩ := h
  exact ⟨h1, h2, h3, h4, h5, fun q hm => (h6 q hm).kept hq, fun k a b => (h7 k a b).kept hq, h8.kept hq, h9, h10, h11.kept hq⟩
theorem kAmb.warm {E : kE} {s U : State} {H : Heap} (hW : s.WarmedH U.vm) (h : kAmb E s H) : kAmb E U H := by
  obtain ⟨h1, h2, h3, h4, h5, h6, h7, h8, h9, h10, h11⟩ := h
  have ha := hW.alike
  exact ⟨fun c q hq => u_Kn_moved ha (h1 c q hq), ⟨arrOfT_moved ha h2.1, h2.2.moved ha⟩, fun q hm => ⟨arrOfT_moved ha (h3 q hm).1, (h3 q hm).2.1.moved ha, (h3 q hm).2.2.moved ha⟩, fun q hm => va_Nw.warmM hW (h4 q hm), fun q hm => va_Nw.warmF hW (h5 q hm), fun q hm => (h6 q hm).moved ha, fun k a b => (h7 k a b).moved ha, h8.moved ha, h9.warm hW, h10.warm hW, h11.moved ha⟩
theorem kAmb.same {E : kE} {s U : State} {H : Heap} (hv : s.vm = U.vm) (h : kAmb E s H) : kAmb E U H := by
  obtain ⟨h1, h2, h3, h4, h5, h6, h7, h8, h9, h10, h11⟩ := h
  have ha : s.vm.Alike U.vm := hv ▸ Vm.Alike.refl s.vm
  exact ⟨fun c q hq => u_Kn_moved ha (h1 c q hq), ⟨arrOfT_moved ha h2.1, h2.2.moved ha⟩, fun q hm => ⟨arrOfT_moved ha (h3 q hm).1, (h3 q hm).2.1.moved ha, (h3 q hm).2.2.moved ha⟩, fun q hm => va_Nw.same rfl hv (h4 q hm), fun q hm => va_Nw.same rfl hv (h5 q hm), fun q hm => (h6 q hm).moved ha, fun k a b => (h7 k a b).moved ha, h8.moved ha, h9.same hv.symm, h10.same hv.symm, h11.moved ha⟩
/-- the words that every method carries -/
def kG : List Cond := lw_tbl.filter goodWord
theorem kG_of {w : Cond} (h : w ∈ lw_tbl) (hg : goodWord w = true) : w ∈ kG := List.mem_filter.mpr ⟨h, hg⟩
theorem kG_lw {args : Array Value} {s : State} (h : ∀ w ∈ lw_tbl, w.before args s = true) : ∀ w ∈ kG, w.before args s = true := fun w hw => h w (List.mem_filter.mp hw).1
theorem kG_good {big : List Cond} (h : ∀ w ∈ kG, w ∈ big) {y : Cond} (hy : y ∈ kG) : GoodIn big (y :: kG) := by
  intro w hw
  have hm : w ∈ kG := by
    rcases List.mem_cons.mp hw with rfl | h1
    · exact hy
    · exact h1
  exact ⟨h w hm, good_of_word (List.mem_filter.mp hm).2⟩
def klr (E : kE) (ls : Array Slot) (n : Nat) (L : List (Option Value)) : Prop := ls.size = n ∧ lv_wf ls ∧ (∀ (i : Nat) (v : Value), L[i]? = some (some v) → ls[i]? = some (.val (kcv E v))) ∧ L.length = n
def kpl (E : kE) (L : List (Option Value)) : List (Nat × Value) := (List.range L.length).filterMap fun i => match L[i]? with
  | some (some v) => some (i, kcv E v)
  | _ => none
theorem kpl_mem {E : kE} {L : List (Option Value)} {i : Nat} {v : Value} (h : L[i]? = some (some v)) : (i, kcv E v) ∈ kpl E L := by
  refine List.mem_filterMap.mpr ⟨i, List.mem_range.mpr (List.getElem?_eq_some_iff.mp h).1, ?_⟩
  simp only [h]
theorem klr.has {E : kE} {ls : Array Slot} {n : Nat} {L : List (Option Value)} (h : klr E ls n L) : lv_has ls n (kpl E L) := by
  refine ⟨h.1, h.2.1, fun q hq => ?_⟩
  obtain ⟨i, -, hi⟩ := List.mem_filterMap.mp hq
  split at hi
  · rename_i v hv
    cases hi
    exact h.2.2.1 _ _ hv
  · cases hi
def kno (v : Option Value) : Prop := match v with
  | some (.long _) => False
  | some (.double _) => False
  | _ => True
theorem kno_cat {v : Value} (h : kno (some v)) : v.category = 1 := by cases v <;> first | rfl | exact absurd h id
theorem klr.store {E : kE} {ls : Array Slot} {n i : Nat} {v : Value} {L : List (Option Value)} (hi : ∀ w, L[i - 1]? = some w → kno w ∨ i = 0)
    (h : lv_has ls n ((i, kcv E v) :: (kpl E L).filter (fun q => !(q.1 == i) && !(q.1 + 1 == i && q.2.category == 2)))) (hl : i < L.length) (hLn : L.length = n) : klr E ls n (L.set i (some v)) := by
  refine ⟨h.1, h.2.1, fun j w hj => ?_, by rw [List.length_set]; exact hLn⟩
  by_cases hji : j = i
  · subst hji
    rw [List.getElem?_set_self hl] at hj
    cases hj
    exact h.2.2 _ List.mem_cons_self
  · rw [List.getElem?_set_ne (fun e => hji e.symm)] at hj
    refine h.2.2 (j, kcv E w) (List.mem_cons_of_mem _ (List.mem_filter.mpr ⟨kpl_mem hj, ?_⟩))
    simp only [Bool.and_eq_true, Bool.not_eq_true', beq_eq_false_iff_ne, ne_eq, Bool.and_eq_false_iff]
    refine ⟨hji, ?_⟩
    by_cases h1 : j + 1 = i
    · refine Or.inr ?_
      have : i - 1 = j := by omega
      rcases hi (some w) (by rw [this]; exact hj) with hk | h0
      · rw [kcv_cat, kno_cat hk]; decide
      · omega
    · exact Or.inl h1
def kent : List Value → List (Option Value)
  | [] => []
  | v :: r => if v.category = 2 then some v :: none :: kent r else some v :: kent r
theorem kent_args (E : kE) : ∀ (as : List Value) (i0 i : Nat) (v : Value), (kent as)[i]? = some (some v) → (i0 + i, kcv E v) ∈ lv_args i0 (as.map (kcv E))
  | [], i0, i, v, h => by simp [kent] at h
  | a :: r, i0, i, v, h => by
    simp only [List.map_cons, lv_args, kcv_cat]
    unfold kent at h
    by_cases hc : a.category = 2
    · rw [if_pos hc] at h
      rw [if_pos hc]
      match i, h with
      | 0, h => cases h; exact List.mem_cons_self
      | 1, h => cases h
      | i + 2, h =>
        have h2 := kent_args E r (i0 + 2) i v h
        rw [show i0 + (i + 2) = i0 + 2 + i by omega]
        exact List.mem_cons_of_mem _ h2
    · rw [if_neg hc] at h
      rw [if_neg hc]
      match i, h with
      | 0, h => cases h; exact List.mem_cons_self
      | i + 1, h =>
        have h2 := kent_args E r (i0 + 1) i v h
        rw [show i0 + (i + 1) = i0 + 1 + i by omega]
        exact List.mem_cons_of_mem _ h2
theorem kent_len (E : kE) : ∀ as : List Value, (lg_sl (as.map (kcv E))).length = (kent as).length
  | [] => rfl
  | a :: r => by
    have ih := kent_len E r
    unfold lg_sl at ih ⊢
    have e : kent (a :: r) = if a.category = 2 then some a :: none :: kent r else some a :: kent r := rfl
    rw [e]
    simp only [List.map_cons, List.flatMap_cons, List.length_append, kcv_cat, ih]
    by_cases hc : a.category = 2
    · rw [if_pos hc, if_pos hc]; simp; omega
    · rw [if_neg hc, if_neg hc]; simp; omega
/-- how a method ends: a return that fits its type -/
def kret (y : kY) (v : Option Value) (pc : Nat) : Prop :=
  (v = none ∧ y.2.2.2 = none ∧ decode y.2.1 pc = .ok (.return_, 1)) ∨
  (∃ (x : Int32) (ty : FieldType), v = some (.int x) ∧ y.2.2.2 = some ty ∧ narrow ty (.int x) = .int x ∧ decode y.2.1 pc = .ok (.ireturn, 1)) ∨
  (∃ (k : Nat) (n : String), v = some (.ref k) ∧ y.2.2.2 = some (.object n) ∧ decode y.2.1 pc = .ok (.areturn, 1))
def kCx (E : kE) (d : Nat) (y : kY) (mc ms : Nat) (p : Program) (R : Room) (s : State) (m : MethodId) (args : Array Value) (meth : Method) (c : Code) : Prop :=
  p.tables.exec = Jvm.exec ∧ c.code = y.2.1 ∧ c.maxLocals = y.2.2.1 ∧ meth.sig.returnType = y.2.2.2 ∧ meth.locks = false ∧ meth.name = y.1.name ∧ s.vm.findClass y.1.cls = some m.cls ∧ (∀ w ∈ kG, w.before args s = true) ∧ kAmb E s s.heap ∧ (d + 1 ≤ R.frames ∧ (d + 1) * 40 ≤ R.locals ∧ mc ≤ R.cells ∧ ms ≤ R.slots) ∧ E.1 ≤ s.heap.size
/-- THE COMPACT WALK: from any machine whose frame, heap and tables are as told, the method comes to a return with Q; where a return with Q suffices for Z, Z is come to -/
def Wd (E : kE) (d : Nat) (y : kY) (cl sl mc ms pc : Nat) (L : List (Option Value)) (st : List Value) (M : kM) (Q : Option Value → kM → Prop) : Prop :=
  ∀ (p : Program) (l : Launch) (e : Env) (R : Room) (s : State) (m : MethodId) (args : Array Value) (below : List Frame) (meth : Method) (c : Code) (H : Heap) (locs : List Loc) (ls : Array Slot) (Z : State → Prop),
    kCx E d y mc ms p R s m args meth c →
    (∀ (v : Option Value) (M' : kM) (H' : Heap) (locs' : List Loc) (ls' : Array Slot) (pc' : Nat), Q v M' → khr E M' H' → va_S (kA E) s.heap H' locs' → kret y v pc' → W p l e R s m args below meth c H' locs' mc ms Z (F0 m pc' ls' ((v.map (kcv E)).toList))) →
    khr E M H → va_S (kA E) s.heap H locs → klr E ls y.2.2.1 L →
    W p l e R s m args below meth c H locs cl sl Z (F0 m pc ls (st.map (kcv E)))
def kRm (d mc ms : Nat) : Room := { frames := d + 1, cells := mc, slots := ms, locals := (d + 1) * 40 }
def kPc (E : kE) (as : List Value) (M : kM) : Array Value → State → Prop := fun v U => v = (as.map (kcv E)).toArray ∧ kAmb E U U.heap ∧ E.1 ≤ U.heap.size ∧ khr E M U.heap
def kQc (E : kE) (Q : Option Value → kM → Prop) : Array Value → State → Outcome → State → Prop := fun _ st o t => ∃ (v : Option Value) (M' : kM), o = .returned (v.map (kcv E)) ∧ Q v M' ∧ khr E M' t.heap ∧ va_F (kA E) st t
/-- A CONTRACT: y, called with as at the memory M, returns, with Q -/
def Ct (E : kE) (d : Nat) (y : kY) (mc ms : Nat) (as : List Value) (M : kM) (Q : Option Value → kM → Prop) : Prop :=
  ∀ l : Launch, Met l y.1 (.code y.1 y.2.1 y.2.2.1 y.2.2.2 :: kG) (kRm d mc ms) (kPc E as M) (kQc E Q) mc ms (kA E)
theorem kPc.blind (E : kE) (as : List Value) (M : kM) : FrameBlind (kPc E as M) := fun a U g mk h => ⟨h.1, kAmb.same (U := U.calling g mk a) rfl h.2.1, h.2.2⟩
theorem kfree {E : kE} {H0 H : Heap} {locs : List Loc} (hS : va_S (kA E) H0 H locs) : ∀ q ∈ locs, kA E q.base := fun q hq => hS.2.2 q hq
theorem Ct.of {E : kE} {d : Nat} {y : kY} {mc ms : Nat} {as : List Value} {M : kM} {Q : Option Value → kM → Prop} {L : List (Option Value)} (hy : plainName y.1.cls = true) (hL : kent as ++ List.replicate (y.2.2.1 - (kent as).length) none = L) (hn : (kent as).length ≤ y.2.2.1) (h : Wd E d y 0 0 mc ms 0 L [] M Q) : Ct E d y mc ms as M Q := by
  intro l
  refine Met.ofW (cc := y.2.1) (maxL := y.2.2.1) (ret := y.2.2.2) hy rfl ?_
  intro p e s m args below meth c s₁ B hml hv
  obtain ⟨rfl, hA, hsz, hH⟩ := hv
  have hts := atoms_spec (ws := .code y.1 y.2.1 y.2.2.1 y.2.2.2 :: kG) B.pre
  have hlocks := B.notSynchronized
  rw [lg_entry_eq]
  have hR : (headSpec (.code y.1 y.2.1 y.2.2.1 y.2.2.2 :: kG) (kRm d mc ms)).room = kRm d mc ms := rfl
  refine h p l e _ s m _ below meth c s.heap [] _ _ ⟨B.exec, B.bytes, hml, B.returns, hlocks, (name_of_methodNamed B.named B.method).1, findClass_of_methodNamed B.named, fun w hw => hts w (List.mem_cons_of_mem _ hw), hA, ⟨Nat.le_refl _, Nat.le_refl _, Nat.le_refl _, Nat.le_refl _⟩, hsz⟩ ?_ hH va_S.rf ?_
  · intro v M' H' locs' ls' pc' hQ hr hS hk
    rcases hk with ⟨rfl, h1, h2⟩ | ⟨x, ty, rfl, h1, h2, h3⟩ | ⟨k, n, rfl, h1, h2⟩
    · exact W.vret B.exec B.bytes (by rw [B.returns]; exact h1) (fun t ht _ => ⟨none, M', rfl, hQ, by rw [ht]; exact hr, hS.F ht⟩) (kfree hS) h2
    · exact W.zret (ty := ty) B.exec B.bytes (by rw [B.returns]; exact h1) h2 (fun t ht _ => ⟨some (.int x), M', rfl, hQ, by rw [ht]; exact hr, hS.F ht⟩) (kfree hS) h3
    · exact W.aret (rt := .object n) B.exec B.bytes (by rw [B.returns]; exact h1) (Or.inl ⟨n, rfl⟩) (Or.inr ⟨_, rfl⟩) (fun t ht _ => ⟨some (.ref k), M', rfl, hQ, by rw [ht]; exact hr, hS.F ht⟩) (kfree hS) h2
  · have he := lv_entry (as.map (kcv E)) (n := y.2.2.1) (by rw [kent_len]; exact hn)
    refine ⟨he.1, he.2.1, fun i v hi => ?_, by rw [← hL, List.length_append, List.length_replicate]; omega⟩
    have h1 : (kent as)[i]? = some (some v) := by
      rw [← hL] at hi
      by_cases hlt : i < (kent as).length
      · rwa [List.getElem?_append_left hlt] at hi
      · rw [List.getElem?_append_right (by omega)] at hi
        have h3 := List.mem_of_getElem? hi
        have h4 := List.eq_of_mem_replicate h3
        cases h4
    have h2 := kent_args E as 0 i v h1
    rw [Nat.zero_add] at h2
    exact he.2.2 _ h2
section KR
variable {E : kE} {d : Nat} {y : kY} {cl sl mc ms pc n : Nat} {L : List (Option Value)} {st : List Value} {M : kM} {Q : Option Value → kM → Prop}
/-- the return -/
theorem k_ret {v : Option Value} (hr : kret y v pc) (hq : Q v M) (h1 : cl ≤ mc) (h2 : sl ≤ ms) : Wd E d y cl sl mc ms pc L v.toList M Q := by
  intro p l e R s m args below meth c H locs ls Z hC hx hH hS hl
  refine W.widen h1 h2 ?_
  have := hx v M H locs ls pc hq hH hS hr
  cases v <;> exact this
theorem k_ireturn {a : Int32} {ty : FieldType} (hd : decode y.2.1 pc = .ok (.ireturn, 1)) (hty : y.2.2.2 = some ty) (hn : narrow ty (.int a) = .int a) (h1 : cl ≤ mc) (h2 : sl ≤ ms) (hq : Q (some (.int a)) M) : Wd E d y cl sl mc ms pc L [.int a] M Q := k_ret (v := some (.int a)) (Or.inr (Or.inl ⟨a, ty, rfl, hty, hn, hd⟩)) hq h1 h2
theorem k_return (hd : decode y.2.1 pc = .ok (.return_, 1)) (hty : y.2.2.2 = none) (h1 : cl ≤ mc) (h2 : sl ≤ ms) (hq : Q none M) : Wd E d y cl sl mc ms pc L [] M Q := k_ret (v := none) (Or.inl ⟨rfl, hty, hd⟩) hq h1 h2
theorem k_areturn {a : Nat} {nm : String} (hd : decode y.2.1 pc = .ok (.areturn, 1)) (hty : y.2.2.2 = some (.object nm)) (h1 : cl ≤ mc) (h2 : sl ≤ ms) (hq : Q (some (.ref a)) M) : Wd E d y cl sl mc ms pc L [.ref a] M Q := k_ret (v := some (.ref a)) (Or.inr (Or.inr ⟨a, nm, rfl, hty, hd⟩)) hq h1 h2
theorem k_iadd {a b : Int32} (hd : decode y.2.1 pc = .ok (.iadd, 1)) (hn : pc + 1 = n)  (k : Wd E d y cl sl mc ms n L (.int (a + b) :: st) M Q) : Wd E d y cl sl mc ms pc L (.int b :: .int a :: st) M Q := by
  intro p l e R s m args below meth c H locs ls Z hC hx hH hS hl
  subst hn
  exact lv_iadd hC.1 hC.2.1 hd  (k p l e R s m args below meth c H locs ls Z hC hx hH hS hl)
theorem k_isub {a b : Int32} (hd : decode y.2.1 pc = .ok (.isub, 1)) (hn : pc + 1 = n)  (k : Wd E d y cl sl mc ms n L (.int (a - b) :: st) M Q) : Wd E d y cl sl mc ms pc L (.int b :: .int a :: st) M Q := by
  intro p l e R s m args below meth c H locs ls Z hC hx hH hS hl
  subst hn
  exact lv_isub hC.1 hC.2.1 hd  (k p l e R s m args below meth c H locs ls Z hC hx hH hS hl)
theorem k_imul {a b : Int32} (hd : decode y.2.1 pc = .ok (.imul, 1)) (hn : pc + 1 = n)  (k : Wd E d y cl sl mc ms n L (.int (a * b) :: st) M Q) : Wd E d y cl sl mc ms pc L (.int b :: .int a :: st) M Q := by
  intro p l e R s m args below meth c H locs ls Z hC hx hH hS hl
  subst hn
  exact lv_imul hC.1 hC.2.1 hd  (k p l e R s m args below meth c H locs ls Z hC hx hH hS hl)
theorem k_iand {a b : Int32} (hd : decode y.2.1 pc = .ok (.iand, 1)) (hn : pc + 1 = n)  (k : Wd E d y cl sl mc ms n L (.int (a &&& b) :: st) M Q) : Wd E d y cl sl mc ms pc L (.int b :: .int a :: st) M Q := by
  intro p l e R s m args below meth c H locs ls Z hC hx hH hS hl
  subst hn
  exact lv_iand hC.1 hC.2.1 hd  (k p l e R s m args below meth c H locs ls Z hC hx hH hS hl)
theorem k_ior {a b : Int32} (hd : decode y.2.1 pc = .ok (.ior, 1)) (hn : pc + 1 = n)  (k : Wd E d y cl sl mc ms n L (.int (a ||| b) :: st) M Q) : Wd E d y cl sl mc ms pc L (.int b :: .int a :: st) M Q := by
  intro p l e R s m args below meth c H locs ls Z hC hx hH hS hl
  subst hn
  exact lv_ior hC.1 hC.2.1 hd  (k p l e R s m args below meth c H locs ls Z hC hx hH hS hl)
theorem k_ixor {a b : Int32} (hd : decode y.2.1 pc = .ok (.ixor, 1)) (hn : pc + 1 = n)  (k : Wd E d y cl sl mc ms n L (.int (a ^^^ b) :: st) M Q) : Wd E d y cl sl mc ms pc L (.int b :: .int a :: st) M Q := by
  intro p l e R s m args below meth c H locs ls Z hC hx hH hS hl
  subst hn
  exact lv_ixor hC.1 hC.2.1 hd  (k p l e R s m args below meth c H locs ls Z hC hx hH hS hl)
theorem k_ishl {a b : Int32} (hd : decode y.2.1 pc = .ok (.ishl, 1)) (hn : pc + 1 = n)  (k : Wd E d y cl sl mc ms n L (.int (a <<< (b &&& 31)) :: st) M Q) : Wd E d y cl sl mc ms pc L (.int b :: .int a :: st) M Q := by
  intro p l e R s m args below meth c H locs ls Z hC hx hH hS hl
  subst hn
  exact lv_ishl hC.1 hC.2.1 hd  (k p l e R s m args below meth c H locs ls Z hC hx hH hS hl)
theorem k_ishr {a b : Int32} (hd : decode y.2.1 pc = .ok (.ishr, 1)) (hn : pc + 1 = n)  (k : Wd E d y cl sl mc ms n L (.int (a >>> (b &&& 31)) :: st) M Q) : Wd E d y cl sl mc ms pc L (.int b :: .int a :: st) M Q := by
  intro p l e R s m args below meth c H locs ls Z hC hx hH hS hl
  subst hn
  exact lv_ishr hC.1 hC.2.1 hd  (k p l e R s m args below meth c H locs ls Z hC hx hH hS hl)
theorem k_idiv {a b : Int32} (hd : decode y.2.1 pc = .ok (.idiv, 1)) (hn : pc + 1 = n) (h0 : ¬ b = 0) (k : Wd E d y cl sl mc ms n L (.int (a / b) :: st) M Q) : Wd E d y cl sl mc ms pc L (.int b :: .int a :: st) M Q := by
  intro p l e R s m args below meth c H locs ls Z hC hx hH hS hl
  subst hn
  exact lv_idiv hC.1 hC.2.1 hd h0 (k p l e R s m args below meth c H locs ls Z hC hx hH hS hl)
theorem k_irem {a b : Int32} (hd : decode y.2.1 pc = .ok (.irem, 1)) (hn : pc + 1 = n) (h0 : ¬ b = 0) (k : Wd E d y cl sl mc ms n L (.int (a - a / b * b) :: st) M Q) : Wd E d y cl sl mc ms pc L (.int b :: .int a :: st) M Q := by
  intro p l e R s m args below meth c H locs ls Z hC hx hH hS hl
  subst hn
  exact lv_irem hC.1 hC.2.1 hd h0 (k p l e R s m args below meth c H locs ls Z hC hx hH hS hl)
theorem k_ineg {a : Int32} (hd : decode y.2.1 pc = .ok (.ineg, 1)) (hn : pc + 1 = n)  (k : Wd E d y cl sl mc ms n L (.int (-a) :: st) M Q) : Wd E d y cl sl mc ms pc L (.int a :: st) M Q := by
  intro p l e R s m args below meth c H locs ls Z hC hx hH hS hl
  subst hn
  exact lv_ineg hC.1 hC.2.1 hd  (k p l e R s m args below meth c H locs ls Z hC hx hH hS hl)
theorem k_iushr {a b : Int32} (hd : decode y.2.1 pc = .ok (.iushr, 1)) (hn : pc + 1 = n)  (k : Wd E d y cl sl mc ms n L (.int ((a.toUInt32 >>> (b.toUInt32 &&& Int32.toUInt32 31)).toInt32) :: st) M Q) : Wd E d y cl sl mc ms pc L (.int b :: .int a :: st) M Q := by
  intro p l e R s m args below meth c H locs ls Z hC hx hH hS hl
  subst hn
  exact lv_iushr hC.1 hC.2.1 hd rfl (k p l e R s m args below meth c H locs ls Z hC hx hH hS hl)
theorem k_i2l {a : Int32} (hd : decode y.2.1 pc = .ok (.i2l, 1)) (hn : pc + 1 = n)  (k : Wd E d y cl sl mc ms n L (.long a.toInt64 :: st) M Q) : Wd E d y cl sl mc ms pc L (.int a :: st) M Q := by
  intro p l e R s m args below meth c H locs ls Z hC hx hH hS hl
  subst hn
  exact lv_i2l hC.1 hC.2.1 hd rfl (k p l e R s m args below meth c H locs ls Z hC hx hH hS hl)
theorem k_l2i {a : Int64} (hd : decode y.2.1 pc = .ok (.l2i, 1)) (hn : pc + 1 = n)  (k : Wd E d y cl sl mc ms n L (.int a.toInt32 :: st) M Q) : Wd E d y cl sl mc ms pc L (.long a :: st) M Q := by
  intro p l e R s m args below meth c H locs ls Z hC hx hH hS hl
  subst hn
  exact lv_l2i hC.1 hC.2.1 hd rfl (k p l e R s m args below meth c H locs ls Z hC hx hH hS hl)
theorem k_i2b {a : Int32} (hd : decode y.2.1 pc = .ok (.i2b, 1)) (hn : pc + 1 = n)  (k : Wd E d y cl sl mc ms n L (.int a.toInt8.toInt32 :: st) M Q) : Wd E d y cl sl mc ms pc L (.int a :: st) M Q := by
  intro p l e R s m args below meth c H locs ls Z hC hx hH hS hl
  subst hn
  exact lv_i2b hC.1 hC.2.1 hd rfl (k p l e R s m args below meth c H locs ls Z hC hx hH hS hl)
theorem k_i2s {a : Int32} (hd : decode y.2.1 pc = .ok (.i2s, 1)) (hn : pc + 1 = n)  (k : Wd E d y cl sl mc ms n L (.int a.toInt16.toInt32 :: st) M Q) : Wd E d y cl sl mc ms pc L (.int a :: st) M Q := by
  intro p l e R s m args below meth c H locs ls Z hC hx hH hS hl
  subst hn
  exact lv_i2s hC.1 hC.2.1 hd rfl (k p l e R s m args below meth c H locs ls Z hC hx hH hS hl)
theorem k_i2c {a : Int32} (hd : decode y.2.1 pc = .ok (.i2c, 1)) (hn : pc + 1 = n)  (k : Wd E d y cl sl mc ms n L (.int (a.toUInt32 % 65536).toInt32 :: st) M Q) : Wd E d y cl sl mc ms pc L (.int a :: st) M Q := by
  intro p l e R s m args below meth c H locs ls Z hC hx hH hS hl
  subst hn
  exact lv_i2c hC.1 hC.2.1 hd rfl (k p l e R s m args below meth c H locs ls Z hC hx hH hS hl)
theorem k_land {a b : Int64} (hd : decode y.2.1 pc = .ok (.land, 1)) (hn : pc + 1 = n)  (k : Wd E d y cl sl mc ms n L (.long (a &&& b) :: st) M Q) : Wd E d y cl sl mc ms pc L (.long b :: .long a :: st) M Q := by
  intro p l e R s m args below meth c H locs ls Z hC hx hH hS hl
  subst hn
  exact lv_land hC.1 hC.2.1 hd  (k p l e R s m args below meth c H locs ls Z hC hx hH hS hl)
theorem k_lor {a b : Int64} (hd : decode y.2.1 pc = .ok (.lor, 1)) (hn : pc + 1 = n)  (k : Wd E d y cl sl mc ms n L (.long (a ||| b) :: st) M Q) : Wd E d y cl sl mc ms pc L (.long b :: .long a :: st) M Q := by
  intro p l e R s m args below meth c H locs ls Z hC hx hH hS hl
  subst hn
  exact lv_lor hC.1 hC.2.1 hd  (k p l e R s m args below meth c H locs ls Z hC hx hH hS hl)
theorem k_lshl {a : Int64} {b : Int32} (hd : decode y.2.1 pc = .ok (.lshl, 1)) (hn : pc + 1 = n)  (k : Wd E d y cl sl mc ms n L (.long (a <<< (b.toInt64 &&& 63)) :: st) M Q) : Wd E d y cl sl mc ms pc L (.int b :: .long a :: st) M Q := by
  intro p l e R s m args below meth c H locs ls Z hC hx hH hS hl
  subst hn
  exact lv_lshl hC.1 hC.2.1 hd rfl (k p l e R s m args below meth c H locs ls Z hC hx hH hS hl)
theorem k_lshr {a : Int64} {b : Int32} (hd : decode y.2.1 pc = .ok (.lshr, 1)) (hn : pc + 1 = n)  (k : Wd E d y cl sl mc ms n L (.long (a >>> (b.toInt64 &&& 63)) :: st) M Q) : Wd E d y cl sl mc ms pc L (.int b :: .long a :: st) M Q := by
  intro p l e R s m args below meth c H locs ls Z hC hx hH hS hl
  subst hn
  exact lv_lshr hC.1 hC.2.1 hd rfl (k p l e R s m args below meth c H locs ls Z hC hx hH hS hl)
theorem k_lushr {a : Int64} {b : Int32} (hd : decode y.2.1 pc = .ok (.lushr, 1)) (hn : pc + 1 = n)  (k : Wd E d y cl sl mc ms n L (.long ((a.toUInt64 >>> (b.toInt64.toUInt64 &&& Int64.toUInt64 63)).toInt64) :: st) M Q) : Wd E d y cl sl mc ms pc L (.int b :: .long a :: st) M Q := by
  intro p l e R s m args below meth c H locs ls Z hC hx hH hS hl
  subst hn
  exact lv_lushr hC.1 hC.2.1 hd rfl (k p l e R s m args below meth c H locs ls Z hC hx hH hS hl)
theorem k_iconst {i : Int} {a : Int32} (hd : decode y.2.1 pc = .ok (.iconst i, 1)) (hn : pc + 1 = n) (ha : Int32.ofInt i = a) (k : Wd E d y cl sl mc ms n L (.int a :: st) M Q) : Wd E d y cl sl mc ms pc L (st) M Q := by
  intro p l e R s m args below meth c H locs ls Z hC hx hH hS hl
  subst hn
  exact lv_iconst hC.1 hC.2.1 hd ha (k p l e R s m args below meth c H locs ls Z hC hx hH hS hl)
theorem k_bipush {i : Int} {a : Int32} (hd : decode y.2.1 pc = .ok (.bipush i, 2)) (hn : pc + 2 = n) (ha : (Int8.ofInt i).toInt32 = a) (k : Wd E d y cl sl mc ms n L (.int a :: st) M Q) : Wd E d y cl sl mc ms pc L (st) M Q := by
  intro p l e R s m args below meth c H locs ls Z hC hx hH hS hl
  subst hn
  exact lv_bipush hC.1 hC.2.1 hd ha (k p l e R s m args below meth c H locs ls Z hC hx hH hS hl)
theorem k_sipush {i : Int} {a : Int32} (hd : decode y.2.1 pc = .ok (.sipush i, 3)) (hn : pc + 3 = n) (ha : (Int16.ofInt i).toInt32 = a) (k : Wd E d y cl sl mc ms n L (.int a :: st) M Q) : Wd E d y cl sl mc ms pc L (st) M Q := by
  intro p l e R s m args below meth c H locs ls Z hC hx hH hS hl
  subst hn
  exact lv_sipush hC.1 hC.2.1 hd ha (k p l e R s m args below meth c H locs ls Z hC hx hH hS hl)
theorem k_dup {a : Value} (hd : decode y.2.1 pc = .ok (.dup, 1)) (hn : pc + 1 = n) (ha : a.category = 1) (k : Wd E d y cl sl mc ms n L (a :: a :: st) M Q) : Wd E d y cl sl mc ms pc L (a :: st) M Q := by
  intro p l e R s m args below meth c H locs ls Z hC hx hH hS hl
  subst hn
  exact lv_dup hC.1 hC.2.1 hd (by rw [kcv_cat]; exact ha) (k p l e R s m args below meth c H locs ls Z hC hx hH hS hl)
theorem k_dup2 {a b : Value} (hd : decode y.2.1 pc = .ok (.dup2, 1)) (hn : pc + 1 = n) (ha : a.category = 1) (hb : b.category = 1) (k : Wd E d y cl sl mc ms n L (a :: b :: a :: b :: st) M Q) : Wd E d y cl sl mc ms pc L (a :: b :: st) M Q := by
  intro p l e R s m args below meth c H locs ls Z hC hx hH hS hl
  subst hn
  exact lv_dup2_11 hC.1 hC.2.1 hd (by rw [kcv_cat]; exact ha) (by rw [kcv_cat]; exact hb) (k p l e R s m args below meth c H locs ls Z hC hx hH hS hl)
theorem k_pop {a : Value} (hd : decode y.2.1 pc = .ok (.pop, 1)) (hn : pc + 1 = n) (ha : a.category = 1) (k : Wd E d y cl sl mc ms n L (st) M Q) : Wd E d y cl sl mc ms pc L (a :: st) M Q := by
  intro p l e R s m args below meth c H locs ls Z hC hx hH hS hl
  subst hn
  exact lv_pop hC.1 hC.2.1 hd (by rw [kcv_cat]; exact ha) (k p l e R s m args below meth c H locs ls Z hC hx hH hS hl)
theorem k_goto {off : Int} (hd : decode y.2.1 pc = .ok (.goto off, 3)) (hn : (pc : Int) + off = (n : Int)) (k : Wd E d y cl sl mc ms n L st M Q) : Wd E d y cl sl mc ms pc L st M Q := by
  intro p l e R s m args below meth c H locs ls Z hC hx hH hS hl
  exact lv_goto hC.1 hC.2.1 hd hn (k p l e R s m args below meth c H locs ls Z hC hx hH hS hl)
theorem k_if_eq {a : Int32} {off : Int} {t : Nat} (hd : decode y.2.1 pc = .ok (.ifCond .eq off, 3)) (ht : (pc : Int) + off = (t : Int)) (hn : pc + 3 = n) (kt : a = 0 → Wd E d y cl sl mc ms t L st M Q) (kf : ¬ a = 0 → Wd E d y cl sl mc ms n L st M Q) : Wd E d y cl sl mc ms pc L (.int a :: st) M Q := by
  intro p l e R s m args below meth c H locs ls Z hC hx hH hS hl
  subst hn
  exact lv_if_eq hC.1 hC.2.1 hd ht (fun h => kt h p l e R s m args below meth c H locs ls Z hC hx hH hS hl) (fun h => kf h p l e R s m args below meth c H locs ls Z hC hx hH hS hl)
theorem k_icmp_eq {a b : Int32} {off : Int} {t : Nat} (hd : decode y.2.1 pc = .ok (.if_icmp .eq off, 3)) (ht : (pc : Int) + off = (t : Int)) (hn : pc + 3 = n) (kt : a = b → Wd E d y cl sl mc ms t L st M Q) (kf : ¬ a = b → Wd E d y cl sl mc ms n L st M Q) : Wd E d y cl sl mc ms pc L (.int b :: .int a :: st) M Q := by
  intro p l e R s m args below meth c H locs ls Z hC hx hH hS hl
  subst hn
  exact lv_icmp_eq hC.1 hC.2.1 hd ht (fun h => kt h p l e R s m args below meth c H locs ls Z hC hx hH hS hl) (fun h => kf h p l e R s m args below meth c H locs ls Z hC hx hH hS hl)
theorem k_if_ne {a : Int32} {off : Int} {t : Nat} (hd : decode y.2.1 pc = .ok (.ifCond .ne off, 3)) (ht : (pc : Int) + off = (t : Int)) (hn : pc + 3 = n) (kt : ¬ a = 0 → Wd E d y cl sl mc ms t L st M Q) (kf : a = 0 → Wd E d y cl sl mc ms n L st M Q) : Wd E d y cl sl mc ms pc L (.int a :: st) M Q := by
  intro p l e R s m args below meth c H locs ls Z hC hx hH hS hl
  subst hn
  exact lv_if_ne hC.1 hC.2.1 hd ht (fun h => kt h p l e R s m args below meth c H locs ls Z hC hx hH hS hl) (fun h => kf h p l e R s m args below meth c H locs ls Z hC hx hH hS hl)
theorem k_icmp_ne {a b : Int32} {off : Int} {t : Nat} (hd : decode y.2.1 pc = .ok (.if_icmp .ne off, 3)) (ht : (pc : Int) + off = (t : Int)) (hn : pc + 3 = n) (kt : ¬ a = b → Wd E d y cl sl mc ms t L st M Q) (kf : a = b → Wd E d y cl sl mc ms n L st M Q) : Wd E d y cl sl mc ms pc L (.int b :: .int a :: st) M Q := by
  intro p l e R s m args below meth c H locs ls Z hC hx hH hS hl
  subst hn
  exact lv_icmp_ne hC.1 hC.2.1 hd ht (fun h => kt h p l e R s m args below meth c H locs ls Z hC hx hH hS hl) (fun h => kf h p l e R s m args below meth c H locs ls Z hC hx hH hS hl)
theorem k_if_lt {a : Int32} {off : Int} {t : Nat} (hd : decode y.2.1 pc = .ok (.ifCond .lt off, 3)) (ht : (pc : Int) + off = (t : Int)) (hn : pc + 3 = n) (kt : a < 0 → Wd E d y cl sl mc ms t L st M Q) (kf : ¬ a < 0 → Wd E d y cl sl mc ms n L st M Q) : Wd E d y cl sl mc ms pc L (.int a :: st) M Q := by
  intro p l e R s m args below meth c H locs ls Z hC hx hH hS hl
  subst hn
  exact lv_if_lt hC.1 hC.2.1 hd ht (fun h => kt h p l e R s m args below meth c H locs ls Z hC hx hH hS hl) (fun h => kf h p l e R s m args below meth c H locs ls Z hC hx hH hS hl)
theorem k_icmp_lt {a b : Int32} {off : Int} {t : Nat} (hd : decode y.2.1 pc = .ok (.if_icmp .lt off, 3)) (ht : (pc : Int) + off = (t : Int)) (hn : pc + 3 = n) (kt : a < b → Wd E d y cl sl mc ms t L st M Q) (kf : ¬ a < b → Wd E d y cl sl mc ms n L st M Q) : Wd E d y cl sl mc ms pc L (.int b :: .int a :: st) M Q := by
  intro p l e R s m args below meth c H locs ls Z hC hx hH hS hl
  subst hn
  exact lv_icmp_lt hC.1 hC.2.1 hd ht (fun h => kt h p l e R s m args below meth c H locs ls Z hC hx hH hS hl) (fun h => kf h p l e R s m args below meth c H locs ls Z hC hx hH hS hl)
theorem k_if_ge {a : Int32} {off : Int} {t : Nat} (hd : decode y.2.1 pc = .ok (.ifCond .ge off, 3)) (ht : (pc : Int) + off = (t : Int)) (hn : pc + 3 = n) (kt : 0 ≤ a → Wd E d y cl sl mc ms t L st M Q) (kf : ¬ 0 ≤ a → Wd E d y cl sl mc ms n L st M Q) : Wd E d y cl sl mc ms pc L (.int a :: st) M Q := by
  intro p l e R s m args below meth c H locs ls Z hC hx hH hS hl
  subst hn
  exact lv_if_ge hC.1 hC.2.1 hd ht (fun h => kt h p l e R s m args below meth c H locs ls Z hC hx hH hS hl) (fun h => kf h p l e R s m args below meth c H locs ls Z hC hx hH hS hl)
theorem k_icmp_ge {a b : Int32} {off : Int} {t : Nat} (hd : decode y.2.1 pc = .ok (.if_icmp .ge off, 3)) (ht : (pc : Int) + off = (t : Int)) (hn : pc + 3 = n) (kt : b ≤ a → Wd E d y cl sl mc ms t L st M Q) (kf : ¬ b ≤ a → Wd E d y cl sl mc ms n L st M Q) : Wd E d y cl sl mc ms pc L (.int b :: .int a :: st) M Q := by
  intro p l e R s m args below meth c H locs ls Z hC hx hH hS hl
  subst hn
  exact lv_icmp_ge hC.1 hC.2.1 hd ht (fun h => kt h p l e R s m args below meth c H locs ls Z hC hx hH hS hl) (fun h => kf h p l e R s m args below meth c H locs ls Z hC hx hH hS hl)
theorem k_if_gt {a : Int32} {off : Int} {t : Nat} (hd : decode y.2.1 pc = .ok (.ifCond .gt off, 3)) (ht : (pc : Int) + off = (t : Int)) (hn : pc + 3 = n) (kt : 0 < a → Wd E d y cl sl mc ms t L st M Q) (kf : ¬ 0 < a → Wd E d y cl sl mc ms n L st M Q) : Wd E d y cl sl mc ms pc L (.int a :: st) M Q := by
  intro p l e R s m args below meth c H locs ls Z hC hx hH hS hl
  subst hn
  exact lv_if_gt hC.1 hC.2.1 hd ht (fun h => kt h p l e R s m args below meth c H locs ls Z hC hx hH hS hl) (fun h => kf h p l e R s m args below meth c H locs ls Z hC hx hH hS hl)
theorem k_icmp_gt {a b : Int32} {off : Int} {t : Nat} (hd : decode y.2.1 pc = .ok (.if_icmp .gt off, 3)) (ht : (pc : Int) + off = (t : Int)) (hn : pc + 3 = n) (kt : b < a → Wd E d y cl sl mc ms t L st M Q) (kf : ¬ b < a → Wd E d y cl sl mc ms n L st M Q) : Wd E d y cl sl mc ms pc L (.int b :: .int a :: st) M Q := by
  intro p l e R s m args below meth c H locs ls Z hC hx hH hS hl
  subst hn
  exact lv_icmp_gt hC.1 hC.2.1 hd ht (fun h => kt h p l e R s m args below meth c H locs ls Z hC hx hH hS hl) (fun h => kf h p l e R s m args below meth c H locs ls Z hC hx hH hS hl)
theorem k_if_le {a : Int32} {off : Int} {t : Nat} (hd : decode y.2.1 pc = .ok (.ifCond .le off, 3)) (ht : (pc : Int) + off = (t : Int)) (hn : pc + 3 = n) (kt : a ≤ 0 → Wd E d y cl sl mc ms t L st M Q) (kf : ¬ a ≤ 0 → Wd E d y cl sl mc ms n L st M Q) : Wd E d y cl sl mc ms pc L (.int a :: st) M Q := by
  intro p l e R s m args below meth c H locs ls Z hC hx hH hS hl
  subst hn
  exact lv_if_le hC.1 hC.2.1 hd ht (fun h => kt h p l e R s m args below meth c H locs ls Z hC hx hH hS hl) (fun h => kf h p l e R s m args below meth c H locs ls Z hC hx hH hS hl)
theorem k_icmp_le {a b : Int32} {off : Int} {t : Nat} (hd : decode y.2.1 pc = .ok (.if_icmp .le off, 3)) (ht : (pc : Int) + off = (t : Int)) (hn : pc + 3 = n) (kt : a ≤ b → Wd E d y cl sl mc ms t L st M Q) (kf : ¬ a ≤ b → Wd E d y cl sl mc ms n L st M Q) : Wd E d y cl sl mc ms pc L (.int b :: .int a :: st) M Q := by
  intro p l e R s m args below meth c H locs ls Z hC hx hH hS hl
  subst hn
  exact lv_icmp_le hC.1 hC.2.1 hd ht (fun h => kt h p l e R s m args below meth c H locs ls Z hC hx hH hS hl) (fun h => kf h p l e R s m args below meth c H locs ls Z hC hx hH hS hl)
theorem k_iload' {i : Nat} {a : Int32} (hd : decode y.2.1 pc = .ok (.iload i, 2)) (hn : pc + 2 = n) (hi : L[i]? = some (some (.int a))) (k : Wd E d y cl sl mc ms n L (.int a :: st) M Q) : Wd E d y cl sl mc ms pc L st M Q := by
  intro p l e R s m args below meth c H locs ls Z hC hx hH hS hl
  subst hn
  exact lv_iload hC.1 hC.2.1 hd (hl.2.2.1 i _ hi) (k p l e R s m args below meth c H locs ls Z hC hx hH hS hl)
theorem k_iload_n' {i : Fin 4} {a : Int32} (hd : decode y.2.1 pc = .ok (.iload_n i, 1)) (hn : pc + 1 = n) (hi : L[(i : Nat)]? = some (some (.int a))) (k : Wd E d y cl sl mc ms n L (.int a :: st) M Q) : Wd E d y cl sl mc ms pc L st M Q := by
  intro p l e R s m args below meth c H locs ls Z hC hx hH hS hl
  subst hn
  exact lv_iload_n hC.1 hC.2.1 hd rfl (hl.2.2.1 i _ hi) (k p l e R s m args below meth c H locs ls Z hC hx hH hS hl)
theorem k_lload_n' {i : Fin 4} {a : Int64} (hd : decode y.2.1 pc = .ok (.lload_n i, 1)) (hn : pc + 1 = n) (hi : L[(i : Nat)]? = some (some (.long a))) (k : Wd E d y cl sl mc ms n L (.long a :: st) M Q) : Wd E d y cl sl mc ms pc L st M Q := by
  intro p l e R s m args below meth c H locs ls Z hC hx hH hS hl
  subst hn
  exact lv_lload_n hC.1 hC.2.1 hd rfl (hl.2.2.1 i _ hi) (k p l e R s m args below meth c H locs ls Z hC hx hH hS hl)
theorem k_aload' {i a : Nat} (hd : decode y.2.1 pc = .ok (.aload i, 2)) (hn : pc + 2 = n) (hi : L[i]? = some (some (.ref a))) (k : Wd E d y cl sl mc ms n L (.ref a :: st) M Q) : Wd E d y cl sl mc ms pc L st M Q := by
  intro p l e R s m args below meth c H locs ls Z hC hx hH hS hl
  subst hn
  exact lv_aload hC.1 hC.2.1 hd (hl.2.2.1 i _ hi) (k p l e R s m args below meth c H locs ls Z hC hx hH hS hl)
theorem k_aload_n' {i : Fin 4} {a : Nat} (hd : decode y.2.1 pc = .ok (.aload_n i, 1)) (hn : pc + 1 = n) (hi : L[(i : Nat)]? = some (some (.ref a))) (k : Wd E d y cl sl mc ms n L (.ref a :: st) M Q) : Wd E d y cl sl mc ms pc L st M Q := by
  intro p l e R s m args below meth c H locs ls Z hC hx hH hS hl
  subst hn
  exact lv_aload_n hC.1 hC.2.1 hd rfl (hl.2.2.1 i _ hi) (k p l e R s m args below meth c H locs ls Z hC hx hH hS hl)
theorem k_istore' {i : Nat} {a : Int32} (hd : decode y.2.1 pc = .ok (.istore i, 2)) (hn : pc + 2 = n) (hi : i < L.length) (ho : ∀ w, L[i - 1]? = some w → kno w ∨ i = 0) (k : Wd E d y cl sl mc ms n (L.set i (some (.int a))) st M Q) : Wd E d y cl sl mc ms pc L (.int a :: st) M Q := by
  intro p l e R s m args below meth c H locs ls Z hC hx hH hS hl
  subst hn
  exact lv_istore hC.1 hC.2.1 hd hl.has (by have := hl.2.2.2; omega) rfl (fun ls' h' => k p l e R s m args below meth c H locs ls' Z hC hx hH hS (klr.store (v := .int a) ho h' hi hl.2.2.2))
theorem k_istore_n' {i : Fin 4} {a : Int32} (hd : decode y.2.1 pc = .ok (.istore_n i, 1)) (hn : pc + 1 = n) (hi : (i : Nat) < L.length) (ho : ∀ w, L[(i : Nat) - 1]? = some w → kno w ∨ (i : Nat) = 0) (k : Wd E d y cl sl mc ms n (L.set i (some (.int a))) st M Q) : Wd E d y cl sl mc ms pc L (.int a :: st) M Q := by
  intro p l e R s m args below meth c H locs ls Z hC hx hH hS hl
  subst hn
  exact lv_istore_n hC.1 hC.2.1 hd rfl hl.has (by have := hl.2.2.2; omega) rfl (fun ls' h' => k p l e R s m args below meth c H locs ls' Z hC hx hH hS (klr.store (v := .int a) ho h' hi hl.2.2.2))
theorem k_astore' {i a : Nat} (hd : decode y.2.1 pc = .ok (.astore i, 2)) (hn : pc + 2 = n) (hi : i < L.length) (ho : ∀ w, L[i - 1]? = some w → kno w ∨ i = 0) (k : Wd E d y cl sl mc ms n (L.set i (some (.ref a))) st M Q) : Wd E d y cl sl mc ms pc L (.ref a :: st) M Q := by
  intro p l e R s m args below meth c H locs ls Z hC hx hH hS hl
  subst hn
  exact lv_astore hC.1 hC.2.1 hd hl.has (by have := hl.2.2.2; omega) rfl (fun ls' h' => k p l e R s m args below meth c H locs ls' Z hC hx hH hS (klr.store (v := .ref a) ho h' hi hl.2.2.2))
theorem k_astore_n' {i : Fin 4} {a : Nat} (hd : decode y.2.1 pc = .ok (.astore_n i, 1)) (hn : pc + 1 = n) (hi : (i : Nat) < L.length) (ho : ∀ w, L[(i : Nat) - 1]? = some w → kno w ∨ (i : Nat) = 0) (k : Wd E d y cl sl mc ms n (L.set i (some (.ref a))) st M Q) : Wd E d y cl sl mc ms pc L (.ref a :: st) M Q := by
  intro p l e R s m args below meth c H locs ls Z hC hx hH hS hl
  subst hn
  exact lv_astore_n hC.1 hC.2.1 hd rfl hl.has (by have := hl.2.2.2; omega) rfl (fun ls' h' => k p l e R s m args below meth c H locs ls' Z hC hx hH hS (klr.store (v := .ref a) ho h' hi hl.2.2.2))
theorem kpl_at {i : Nat} {v : Value} (h : L[i]? = some (some v)) : ∃ k : Nat, (kpl E L)[k]? = some (i, kcv E v) := List.getElem?_of_mem (kpl_mem h)
theorem k_iinc' {i : Nat} {z : Int} {a b : Int32} (hd : decode y.2.1 pc = .ok (.iinc i z, 3)) (hn : pc + 3 = n) (hg : L[i]? = some (some (.int a))) (hb : a + Int32.ofInt z = b) (ho : ∀ w, L[i - 1]? = some w → kno w ∨ i = 0) (k : Wd E d y cl sl mc ms n (L.set i (some (.int b))) st M Q) : Wd E d y cl sl mc ms pc L st M Q := by
  intro p l e R s m args below meth c H locs ls Z hC hx hH hS hl
  subst hn
  have hi : i < L.length := (List.getElem?_eq_some_iff.mp hg).1
  obtain ⟨q, hq⟩ := kpl_at (E := E) hg
  exact lv_iinc hC.1 hC.2.1 hd hl.has hq hb (by have := hl.2.2.2; omega) rfl (fun ls' h' => k p l e R s m args below meth c H locs ls' Z hC hx hH hS (klr.store (v := .int b) ho h' hi hl.2.2.2))
theorem k_ldc {i : Nat} {a : Int32} (hd : decode y.2.1 pc = .ok (.ldc i, 2)) (hn : pc + 2 = n) (hg : Cond.constant y.1.cls i a ∈ kG) (k : Wd E d y cl sl mc ms n L (.int a :: st) M Q) : Wd E d y cl sl mc ms pc L st M Q := by
  intro p l e R s m args below meth c H locs ls Z hC hx hH hS hl
  subst hn
  exact lv_ldc hC.1 hC.2.1 hC.2.2.2.2.2.2.1 (hC.2.2.2.2.2.2.2.1 _ hg) hd (k p l e R s m args below meth c H locs ls Z hC hx hH hS hl)
theorem k_ldcw {i : Nat} {a : Int32} (hd : decode y.2.1 pc = .ok (.ldc_w i, 3)) (hn : pc + 3 = n) (hg : Cond.constant y.1.cls i a ∈ kG) (k : Wd E d y cl sl mc ms n L (.int a :: st) M Q) : Wd E d y cl sl mc ms pc L st M Q := by
  intro p l e R s m args below meth c H locs ls Z hC hx hH hS hl
  subst hn
  exact lv_ldcw hC.1 hC.2.1 hC.2.2.2.2.2.2.1 (hC.2.2.2.2.2.2.2.1 _ hg) hd (k p l e R s m args below meth c H locs ls Z hC hx hH hS hl)
theorem k_ldc2 {i : Nat} {a : Int64} (hd : decode y.2.1 pc = .ok (.ldc2_w i, 3)) (hn : pc + 3 = n) (hg : Cond.constantLong y.1.cls i a ∈ kG) (k : Wd E d y cl sl mc ms n L (.long a :: st) M Q) : Wd E d y cl sl mc ms pc L st M Q := by
  intro p l e R s m args below meth c H locs ls Z hC hx hH hS hl
  subst hn
  exact lv_ldc2 hC.1 hC.2.1 hC.2.2.2.2.2.2.1 (hC.2.2.2.2.2.2.2.1 _ hg) hd (k p l e R s m args below meth c H locs ls Z hC hx hH hS hl)
theorem k_swOut {df lo hi : Int} {offs : Array Int} {len t : Nat} {a : Int32} (hd : decode y.2.1 pc = .ok (.tableswitch df lo hi offs, len)) (h : a.toInt < lo ∨ hi < a.toInt) (ht : (pc : Int) + df = (t : Int)) (k : Wd E d y cl sl mc ms t L st M Q) : Wd E d y cl sl mc ms pc L (.int a :: st) M Q := by
  intro p l e R s m args below meth c H locs ls Z hC hx hH hS hl
  exact lv_tableOut hC.1 hC.2.1 hd h ht (k p l e R s m args below meth c H locs ls Z hC hx hH hS hl)
theorem k_swIn {df lo hi : Int} {offs : Array Int} {len t : Nat} {a : Int32} {off : Int} (hd : decode y.2.1 pc = .ok (.tableswitch df lo hi offs, len)) (h1 : ¬ a.toInt < lo) (h2 : ¬ hi < a.toInt) (ho : offs[(a.toInt - lo).toNat]? = some off) (ht : (pc : Int) + off = (t : Int)) (k : Wd E d y cl sl mc ms t L st M Q) : Wd E d y cl sl mc ms pc L (.int a :: st) M Q := by
  intro p l e R s m args below meth c H locs ls Z hC hx hH hS hl
  exact lv_tableIn hC.1 hC.2.1 hd h1 h2 ho ht (k p l e R s m args below meth c H locs ls Z hC hx hH hS hl)
theorem k_lookup {df : Int} {ps : Array (Int × Int)} {len t : Nat} {a : Int32} {off : Int} (hd : decode y.2.1 pc = .ok (.lookupswitch df ps, len)) (hp : (ps.toList.zip (ps.toList.drop 1)).all (fun (a, next) => a.1 < next.1) = true) (ho : Op.lookupswitch.offset ps.toList df a.toInt = off) (ht : (pc : Int) + off = (t : Int)) (k : Wd E d y cl sl mc ms t L st M Q) : Wd E d y cl sl mc ms pc L (.int a :: st) M Q := by
  intro p l e R s m args below meth c H locs ls Z hC hx hH hS hl
  exact lv_lookup hC.1 hC.2.1 hd hp ho ht (k p l e R s m args below meth c H locs ls Z hC hx hH hS hl)
end KR

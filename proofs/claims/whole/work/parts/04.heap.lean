def kput (M : kM) (k j : Nat) (a : Int32) : kM := (M.1, M.2.1, fun k' j' => if k' = k ∧ j' = j then a else M.2.2 k' j')
def kputP (M : kM) (k j : Nat) (a : Option Nat) : kM := (M.1, (fun k' j' => if k' = k ∧ j' = j then a else M.2.1 k' j'), M.2.2)
def kpush (M : kM) (q : Nat × Nat) : kM := (M.1 ++ [q], (fun k' j' => if k' = M.1.length then none else M.2.1 k' j'), fun k' j' => if k' = M.1.length then 0 else M.2.2 k' j')
def kcopy (M : kM) (k : Nat) (f : Nat → Int32) : kM := (M.1, M.2.1, fun k' j' => if k' = k then f j' else M.2.2 k' j')
theorem kco.kept {E : kE} {H H1 : Heap} {a kd n : Nat} {p : Nat → Option Nat} {i : Nat → Int32} (h : kco E H a kd n p i) (hq : H1[a]? = H[a]?) : kco E H1 a kd n p i := by
  unfold kco at h ⊢
  split
  · rename_i hk
    rw [if_pos hk] at h
    obtain ⟨r, h1, h2⟩ := h
    exact ⟨r, h1, h2.kept hq⟩
  · rename_i hk
    rw [if_neg hk] at h
    split
    · rename_i hk2
      rw [if_pos hk2] at h
      rw [hq]; exact h
    · rename_i hk2
      rw [if_neg hk2] at h
      rw [hq]; exact h
/-- a cell is written anew, the others stay -/
theorem khr.set {E : kE} {M M' : kM} {H H1 : Heap} {k : Nat} {q : Nat × Nat} (h : khr E M H) (hs : M'.1 = M.1) (hk : M.1[k]? = some q) (hz : H1.size = H.size) (ho : ∀ a : Nat, a ≠ E.1 + k → H1[a]? = H[a]?) (hP : ∀ k' : Nat, k' ≠ k → M'.2.1 k' = M.2.1 k' ∧ M'.2.2 k' = M.2.2 k') (hc : kco E H1 (E.1 + k) q.1 q.2 (M'.2.1 k) (M'.2.2 k)) : khr E M' H1 := by
  refine ⟨by rw [hs, hz]; exact h.1, by rw [hs]; exact h.2.1, fun k' q' hk' => ?_⟩
  rw [hs] at hk'
  by_cases e : k' = k
  · subst e
    cases hk.symm.trans hk'
    exact hc
  · rw [(hP k' e).1, (hP k' e).2]
    exact (h.2.2 k' q' hk').kept (ho _ (by omega))
theorem khr.lt {E : kE} {M : kM} {H : Heap} {k : Nat} {q : Nat × Nat} (h : khr E M H) (hk : M.1[k]? = some q) : k < 1000 := by
  have := (List.getElem?_eq_some_iff.mp hk).1
  have := h.2.1
  omega
theorem khr.ad {E : kE} {M : kM} {H : Heap} {k : Nat} {q : Nat × Nat} (h : khr E M H) (hk : M.1[k]? = some q) : kad E k = E.1 + k := if_pos (h.lt hk)
theorem kS_put {E : kE} {H0 H H1 : Heap} {locs : List Loc} {a i : Nat} (h : va_S (kA E) H0 H locs) (hz : H1.size = H.size) (ho : ∀ q : Nat, q ≠ a → H1[q]? = H[q]?) (ha : kA E a) : va_S (kA E) H0 H1 (locs ++ [⟨a, i⟩]) := by
  refine ⟨by rw [hz]; exact h.1, fun q h1 h2 => ?_, fun l hl => ?_⟩
  · rw [ho q (fun e => h2 (e ▸ ha))]
    exact h.2.1 q h1 h2
  · rcases List.mem_append.mp hl with h3 | h3
    · exact h.2.2 l h3
    · rw [List.mem_singleton.mp h3]
      exact ha
theorem kgood {E : kE} {d : Nat} {y : kY} {mc ms : Nat} {p : Program} {R : Room} {s : State} {m : MethodId} {args : Array Value} {meth : Method} {c : Code} (hC : kCx E d y mc ms p R s m args meth c) {w : Cond} (h : w ∈ kG) : w.before args s = true := hC.2.2.2.2.2.2.2.1 w h
theorem kown {E : kE} {d : Nat} {y : kY} {mc ms : Nat} {p : Program} {R : Room} {s : State} {m : MethodId} {args : Array Value} {meth : Method} {c : Code} (hC : kCx E d y mc ms p R s m args meth c) : s.vm.findClass y.1.cls = some m.cls := hC.2.2.2.2.2.2.1
theorem kamb {E : kE} {d : Nat} {y : kY} {mc ms : Nat} {p : Program} {R : Room} {s : State} {m : MethodId} {args : Array Value} {meth : Method} {c : Code} (hC : kCx E d y mc ms p R s m args meth c) : kAmb E s s.heap := hC.2.2.2.2.2.2.2.2.1
theorem kroom {E : kE} {d : Nat} {y : kY} {mc ms : Nat} {p : Program} {R : Room} {s : State} {m : MethodId} {args : Array Value} {meth : Method} {c : Code} (hC : kCx E d y mc ms p R s m args meth c) : d + 1 ≤ R.frames ∧ (d + 1) * 40 ≤ R.locals ∧ mc ≤ R.cells ∧ ms ≤ R.slots := hC.2.2.2.2.2.2.2.2.2.1
/-- a class as the rows need it: its number, its table, its types -/
def kCls (ci : Nat) (C : String) (T : u_T) (N : Nat) (ty : Nat → FieldType) : Prop := ci < 100 ∧ vwCl[ci]? = some (C, T, N) ∧ (∀ w ∈ u_ws C T N, w ∈ kG) ∧ (∀ k, k < N → parseFieldDescriptor (T k).2.2.1 = some (ty k)) ∧ (∀ a, a < N → ∀ b, b < N → a ≠ b → (T a).2.1 ≠ (T b).2.1)
theorem kOb {E : kE} {M : kM} {H : Heap} {k ci z N : Nat} {C : String} {T : u_T} (h : khr E M H) (hk : M.1[k]? = some (ci, z)) (hci : ci < 100) (hc : vwCl[ci]? = some (C, T, N)) : t_OB (E.1 + k) (E.2.1 ci) N (E.2.2.1 ci) H (fun j => kfv E (kfk ci j) (M.2.1 k j) (M.2.2 k j)) := by
  have h1 := h.2.2 k _ hk
  unfold kco at h1
  rw [if_pos hci] at h1
  obtain ⟨r, h2, h3⟩ := h1
  have e : r = (C, T, N) := Option.some.inj (h2.symm.trans hc)
  subst e
  exact h3
section KH
variable {E : kE} {d : Nat} {y : kY} {cl sl mc ms pc n : Nat} {L : List (Option Value)} {st : List Value} {M : kM} {Q : Option Value → kM → Prop}
/-- getfield, of any kind -/
theorem k_getv {ci z N i k j : Nat} {C ref : String} {T : u_T} {ty : Nat → FieldType} {v : Value} (hd : decode y.2.1 pc = .ok (.getfield i, 3)) (hn : pc + 3 = n) (hc : kCls ci C T N ty) (hj : j < N) (hg : Cond.fieldLink y.1.cls i C (T j).2.1 (T j).2.2.1 ∈ kG) (hT : (T j).1 = C) (hk : M.1[k]? = some (ci, z)) (hv : kfv E (kfk ci j) (M.2.1 k j) (M.2.2 k j) = kcv E v)
    (kk : Wd E d y cl sl mc ms n L (v :: st) M Q) : Wd E d y cl sl mc ms pc L (.ref k :: st) M Q := by
  intro p l e R s m args below meth c H locs ls Z hC hx hH hS hl
  subst hn
  obtain ⟨hci, hcl, hin, hty, hnm⟩ := hc
  obtain ⟨cell, q1, q2, q3, q4⟩ := kOb hH hk hci hcl
  obtain ⟨hSl, hfc, kC, hkC, hkind⟩ := (kamb hC).1 ci _ hcl
  obtain ⟨cf, kf, fi, f, hi, hsl⟩ := hSl j hj
  have hst := (u_facts hfc hkC (u_lays (hC.2.2.2.2.2.2.2.1) hin hj) hi).1
  dsimp only at hi
  rw [hT] at hi
  show W p l e R s m args below meth c H locs cl sl Z (F0 m pc ls (.ref (kad E k) :: st.map (kcv E)))
  rw [hH.ad hk]
  refine W.getf hC.1 hC.2.1 (kown hC) (kgood hC hg) hi hst q1 (by rw [q3]; exact fun h => by cases h) (v := kcv E v) ?_ rfl rfl hd (kk p l e R s m args below meth c H locs ls Z hC hx hH hS hl)
  rw [hsl, q4 j hj]
  exact congrArg some hv
theorem k_putv {ci z N i k j : Nat} {C : String} {T : u_T} {ty : Nat → FieldType} {v : Value} {M' : kM} (hd : decode y.2.1 pc = .ok (.putfield i, 3)) (hn : pc + 3 = n) (hc : kCls ci C T N ty) (hj : j < N) (hg : Cond.fieldLink y.1.cls i C (T j).2.1 (T j).2.2.1 ∈ kG) (hT : (T j).1 = C) (hf : (T j).2.2.2 = false ∨ ((T j).2.2.2 = true ∧ y.1.name = "<init>" ∧ C = y.1.cls)) (hk : M.1[k]? = some (ci, z)) (hs : M'.1 = M.1)
    (hv : kfv E (kfk ci j) (M'.2.1 k j) (M'.2.2 k j) = kcv E v) (ho : ∀ k' j', ¬ (k' = k ∧ j' = j) → M'.2.1 k' j' = M.2.1 k' j' ∧ M'.2.2 k' j' = M.2.2 k' j') (hnr : narrow (ty j) (kcv E v) = kcv E v) (hft : fits (ty j) (kcv E v) = true)
    (kk : Wd E d y cl sl mc ms n L st M' Q) : Wd E d y cl sl mc ms pc L (v :: .ref k :: st) M Q := by
  intro p l e R s m args below meth c H locs ls Z hC hx hH hS hl
  subst hn
  obtain ⟨hci, hcl, hin, hty, hnm⟩ := hc
  have hts := hC.2.2.2.2.2.2.2.1
  obtain ⟨cell, q1, q2, q3, q4⟩ := kOb hH hk hci hcl
  have hap := va_apart (own := y.1.cls) (D := (E.2.1, E.2.2.1)) (cl := vwCl) (tys := []) hts hin ty hty hnm ⟨(kamb hC).1, fun k q h => by simp at h⟩ hcl
  obtain ⟨hSl, hfc, kC, hkC, hkind⟩ := (kamb hC).1 ci _ hcl
  obtain ⟨cf, kf, fi, f, hi, hsl⟩ := hSl j hj
  have hst := (u_facts hfc hkC (u_lays hts hin hj) hi).1
  dsimp only at hi
  have hAk : kA E (E.1 + k) := Nat.le_add_right _ _
  show W p l e R s m args below meth c H locs cl sl Z (F0 m pc ls (kcv E v :: .ref (kad E k) :: st.map (kcv E)))
  rw [hH.ad hk]
  have fin : ∀ H' : Heap, H'[E.1 + k]? = some (cell.setSlot f.slot (kcv E v)) → H'.size = H.size → (∀ q, q ≠ E.1 + k → H'[q]? = H[q]?) → W p l e R s m args below meth c H' (locs ++ [⟨E.1 + k, f.slot⟩]) cl sl Z (F0 m (pc + 3) ls (st.map (kcv E))) := by
    intro H' e1 e2 e3
    rw [hsl] at e1 ⊢
    refine kk p l e R s m args below meth c H' _ ls Z hC hx (hH.set hs hk e2 e3 (fun k' hne => ⟨funext fun j' => (ho k' j' (fun h => hne h.1)).1, funext fun j' => (ho k' j' (fun h => hne h.1)).2⟩) ?_) (kS_put hS e2 e3 hAk) hl
    unfold kco
    rw [if_pos hci]
    refine ⟨_, hcl, t_OB.to (V := updV (fun j => kfv E (kfk ci j) (M.2.1 k j) (M.2.2 k j)) j (kcv E v)) ⟨_, e1, q2, q3, t_set q4 hap hj (kcv E v)⟩ (fun j' _ => ?_)⟩
    by_cases hjj : j' = j
    · subst hjj
      simp only [updV, if_pos]
      exact hv.symm
    · simp only [updV, if_neg hjj]
      rw [(ho k j' (fun h => hjj h.2)).1, (ho k j' (fun h => hjj h.2)).2]
  have hlay := hts _ (hin _ (u_in_lay hj))
  unfold u_lay at hlay
  rcases hf with hfin | ⟨hfin, hin2, hdecl⟩
  · rw [if_neg (by rw [hfin]; decide)] at hlay
    have h6 := u_store hfc hkC hkind hlay hi (hty j hj) hnr hft
    have hi2 := hi
    rw [hT] at hi2
    exact W.putK hC.1 hC.2.1 (f := f) ⟨kown hC, kgood hC hg, ⟨_, _, _, hi2⟩, hst⟩ (by rw [q2]; exact h6) q1 q3 (by rw [hsl]; exact k2_hasslot (q4 j hj)) rfl rfl hd fin
  · rw [if_pos hfin] at hlay
    have hcf : m.cls = cf := by
      obtain ⟨_, _, c', _, _, _, -, -, hf', -, -, -, hown2, -⟩ := Cond.laysFinal_spec hlay
      have e1 : c' = cf := by have := hi.symm.trans hf'; simp at this; exact this.1.symm
      rw [hT, hdecl] at hown2
      rw [← e1]; exact Option.some.inj ((kown hC).symm.trans hown2)
    have h6 := u_fits hfc hkC hkind (Or.inr hlay) hi (hty j hj) hnr hft
    have hi2 := hi
    rw [hT] at hi2
    exact W.putFinK hC.1 hC.2.1 (kown hC) (kgood hC hg) hi2 hst hcf (by rw [hC.2.2.2.2.2.1]; exact hin2) (by rw [q2]; exact h6) q1 q3 (by rw [hsl]; exact k2_hasslot (q4 j hj)) rfl rfl hd fin
/-- an int array that can be read: one of the memory, or one that was there -/
def kRd (E : kE) (M : kM) (k z : Nat) (f : Nat → Int32) : Prop := (M.1[k]? = some (100, z) ∧ f = M.2.2 k) ∨ (1000 ≤ k ∧ k ≤ 1004 ∧ z = (kxt E k).1 ∧ f = (kxt E k).2)
theorem kRd.cell {s : State} {H : Heap} {locs : List Loc} {k z : Nat} {f : Nat → Int32} (h : kRd E M k z f) (hA : kAmb E s s.heap) (hH : khr E M H) (hS : va_S (kA E) s.heap H locs) : ∃ cell : Cell, H[kad E k]? = some cell ∧ s.isArrayOf cell .int ∧ cell.vm ≠ .unknown ∧ z ≤ cell.slots.size ∧ cell.slots.size.toInt32 = Int32.ofNat z ∧ (∀ j, j < z → cell.slots[j]? = some (.int (f j))) ∧ (∀ q, cell.vm ≠ .statics q) := by
  rcases h with ⟨h1, rfl⟩ | ⟨h1, h2, rfl, rfl⟩
  · have h2 := hH.2.2 k _ h1
    unfold kco at h2
    rw [if_neg (by show ¬ 100 < 100; omega), if_pos rfl] at h2
    refine ⟨_, by rw [hH.ad h1]; exact h2, hA.2.1.1 _ _, (fun h => by cases h), by rw [arrV_size]; exact Nat.le_refl _, by rw [arrV_size]; first | done | rfl, fun j hj => arrV_read _ _ hj, fun q h => by cases h⟩
  · obtain ⟨cell, c1, c2, c3, c4, c5, c6, c7⟩ := hA.2.2.2.2.2.2.1 k h1 h2
    have hlt := (Array.getElem?_eq_some_iff.mp c1).1
    refine ⟨cell, by rw [hS.2.1 _ hlt c7]; exact c1, c2, c3, c4, c5, c6, ?_⟩
    exact fun q hq => absurd (c2.1 q hq) id
theorem k_iald {i : Int32} {k z j : Nat} {f : Nat → Int32} (hd : decode y.2.1 pc = .ok (.iaload, 1)) (hn : pc + 1 = n) (hr : kRd E M k z f) (hi : i = nI j) (hj : j < z) (hz : z < 2 ^ 31) (kk : Wd E d y cl sl mc ms n L (.int (f j) :: st) M Q) : Wd E d y cl sl mc ms pc L (.int i :: .ref k :: st) M Q := by
  intro p l e R s m args below meth c H locs ls Z hC hx hH hS hl
  subst hn
  obtain ⟨cell, c1, c2, c3, c4, c5, c6, -⟩ := hr.cell (kamb hC) hH hS
  have hcl : i.toNatClampNeg = j := by rw [hi]; exact nI_clamp (by omega)
  refine W.iald (v := .int (f j)) hC.1 hC.2.1 c1 c2 c3 ?_ (by rw [hcl]; exact c6 j hj) rfl rfl hd (kk p l e R s m args below meth c H locs ls Z hC hx hH hS hl)
  rw [hi]
  rintro (h | h)
  · exact nI_pos (by omega) h
  · rw [nI_clamp (by omega)] at h; omega
theorem k_alen {k z : Nat} {f : Nat → Int32} (hd : decode y.2.1 pc = .ok (.arraylength, 1)) (hn : pc + 1 = n) (hr : kRd E M k z f) (kk : Wd E d y cl sl mc ms n L (.int (nI z) :: st) M Q) : Wd E d y cl sl mc ms pc L (.ref k :: st) M Q := by
  intro p l e R s m args below meth c H locs ls Z hC hx hH hS hl
  subst hn
  obtain ⟨cell, c1, c2, c3, c4, c5, c6, -⟩ := hr.cell (kamb hC) hH hS
  exact W.alen (n := nI z) hC.1 hC.2.1 c1 c2 c5 rfl rfl hd (kk p l e R s m args below meth c H locs ls Z hC hx hH hS hl)
theorem k_iast {i a : Int32} {k z j : Nat} (hd : decode y.2.1 pc = .ok (.iastore, 1)) (hn : pc + 1 = n) (hk : M.1[k]? = some (100, z)) (hi : i = nI j) (hj : j < z) (hz : z < 2 ^ 31) (kk : Wd E d y cl sl mc ms n L st (kput M k j a) Q) : Wd E d y cl sl mc ms pc L (.int a :: .int i :: .ref k :: st) M Q := by
  intro p l e R s m args below meth c H locs ls Z hC hx hH hS hl
  subst hn
  have h2 := hH.2.2 k _ hk
  unfold kco at h2
  rw [if_neg (by show ¬ 100 < 100; omega), if_pos rfl] at h2
  show W p l e R s m args below meth c H locs cl sl Z (F0 m pc ls (.int a :: .int i :: .ref (kad E k) :: st.map (kcv E)))
  rw [hH.ad hk]
  have hcl : i.toNatClampNeg = j := by rw [hi]; exact nI_clamp (by omega)
  refine W.iast hC.1 hC.2.1 h2 ((kamb hC).2.1.1 _ _) (fun h => by cases h) ?_ rfl rfl hd fun H1 e1 e2 e3 => ?_
  · rw [hi, arrV_size]
    rintro (h | h)
    · exact nI_pos (by omega) h
    · rw [nI_clamp (by omega)] at h; omega
  · refine kk p l e R s m args below meth c H1 _ ls Z hC hx (hH.set rfl hk e2 e3 (fun k' hne => ⟨rfl, funext fun j' => if_neg (fun h => hne h.1)⟩) ?_) (kS_put hS e2 e3 (Nat.le_add_right _ _)) hl
    unfold kco
    rw [if_neg (by show ¬ 100 < 100; omega), if_pos rfl, e1, arrV_store, hcl]
    congr 2
    funext j'
    by_cases h : j' = j
    · subst h; simp [updV, kput]
    · simp [updV, kput, h]
/-- an array of references -/
theorem kRa {s : State} {H : Heap} {k kd z : Nat} {C : String} (hA : kAmb E s s.heap) (hH : khr E M H) (hk : M.1[k]? = some (kd, z)) (hkd : (kd, C) ∈ kOA) : 100 < kd ∧ H[E.1 + k]? = some (arrV (E.2.2.2.1 kd) z (fun j => va_rf ((M.2.1 k j).map (kad E)))) ∧ ArrOfT s (E.2.2.2.1 kd) (.object C) ∧ va_RA s (E.2.2.2.1 kd) (.object C) := by
  have h0 : 100 < kd := by
    simp only [kOA, List.mem_cons, Prod.mk.injEq, List.not_mem_nil, or_false] at hkd
    omega
  have h2 := hH.2.2 k _ hk
  unfold kco at h2
  dsimp only at h2
  rw [if_neg (by omega), if_neg (by omega)] at h2
  exact ⟨h0, h2, (hA.2.2.1 _ hkd).1, (hA.2.2.1 _ hkd).2.1⟩
theorem k_aald {i : Int32} {k z j kd b : Nat} {C : String} (hd : decode y.2.1 pc = .ok (.aaload, 1)) (hn : pc + 1 = n) (hk : M.1[k]? = some (kd, z)) (hkd : (kd, C) ∈ kOA) (hi : i = nI j) (hj : j < z) (hz : z < 2 ^ 31) (hb : M.2.1 k j = some b) (kk : Wd E d y cl sl mc ms n L (.ref b :: st) M Q) : Wd E d y cl sl mc ms pc L (.int i :: .ref k :: st) M Q := by
  intro p l e R s m args below meth c H locs ls Z hC hx hH hS hl
  subst hn
  obtain ⟨-, h2, h3, -⟩ := kRa (kamb hC) hH hk hkd
  show W p l e R s m args below meth c H locs cl sl Z (F0 m pc ls (.int i :: .ref (kad E k) :: st.map (kcv E)))
  rw [hH.ad hk]
  have hcl : i.toNatClampNeg = j := by rw [hi]; exact nI_clamp (by omega)
  refine W.aald (v := .ref (kad E b)) (ty := .object C) hC.1 hC.2.1 h2 (h3 _ _) rfl (fun h => by cases h) ?_ ?_ rfl rfl hd (kk p l e R s m args below meth c H locs ls Z hC hx hH hS hl)
  · rw [hi, arrV_size]
    rintro (h | h)
    · exact nI_pos (by omega) h
    · rw [nI_clamp (by omega)] at h; omega
  · rw [hcl, arrV_read _ _ hj, hb]
    rfl
theorem k_aast {i : Int32} {k z j kd b ci zb : Nat} {r : vw_C} (hd : decode y.2.1 pc = .ok (.aastore, 1)) (hn : pc + 1 = n) (hk : M.1[k]? = some (kd, z)) (hkd : (kd, r.1) ∈ kOA) (hi : i = nI j) (hj : j < z) (hz : z < 2 ^ 31) (hci : ci < 100) (hcl : vwCl[ci]? = some r) (hb : M.1[b]? = some (ci, zb)) (kk : Wd E d y cl sl mc ms n L st (kputP M k j (some b)) Q) : Wd E d y cl sl mc ms pc L (.ref b :: .int i :: .ref k :: st) M Q := by
  intro p l e R s m args below meth c H locs ls Z hC hx hH hS hl
  subst hn
  obtain ⟨h0, h2, h3, h4⟩ := kRa (kamb hC) hH hk hkd
  show W p l e R s m args below meth c H locs cl sl Z (F0 m pc ls (.ref (kad E b) :: .int i :: .ref (kad E k) :: st.map (kcv E)))
  rw [hH.ad hk, hH.ad hb]
  obtain ⟨cellV, g1, g2, g3, -⟩ := kOb (C := r.1) (T := r.2.1) (N := r.2.2) hH hb hci hcl
  have hcls := ((kamb hC).1 ci r hcl).2
  obtain ⟨kA0, comp, k1, k2, k3, -⟩ := h4
  have hcomp : comp = E.2.1 ci := Option.some.inj (k3.symm.trans hcls.1)
  subst hcomp
  obtain ⟨kC, hkC, -⟩ := hcls.2
  have hclm : i.toNatClampNeg = j := by rw [hi]; exact nI_clamp (by omega)
  refine W.aast hC.1 hC.2.1 h2 (fun q h => by cases h) (fun h => by cases h) k1 k2 rfl hkC ⟨by rw [hi]; exact nI_pos (by omega), by rw [hclm, arrV_size]; exact hj⟩ g1 (fun q h => by rw [g3] at h; cases h) (by rw [g2]; exact hkC) (by rw [g2]; exact va_assign hcls) rfl rfl hd fun H1 e1 e2 e3 => ?_
  refine kk p l e R s m args below meth c H1 _ ls Z hC hx (hH.set rfl hk e2 e3 (fun k' hne => ⟨funext fun j' => if_neg (fun h => hne h.1), rfl⟩) ?_) (kS_put hS e2 e3 (Nat.le_add_right _ _)) hl
  unfold kco
  dsimp only
  rw [if_neg (by omega), if_neg (by omega), e1, arrV_store, hclm]
  congr 2
  funext j'
  by_cases h : j' = j
  · subst h; simp [updV, kputP, va_rf, hH.ad hb]
  · simp [updV, kputP, h]
/-- a new cell behind the others -/
theorem khr.push {H H1 : Heap} {q : Nat × Nat} (h : khr E M H) (hl : M.1.length < 1000) (hz : H1.size = H.size + 1) (ho : ∀ a : Nat, a < H.size → H1[a]? = H[a]?) (hc : kco E H1 (E.1 + M.1.length) q.1 q.2 (fun _ => none) (fun _ => 0)) : khr E (kpush M q) H1 := by
  refine ⟨by rw [hz, h.1]; simp only [kpush, List.length_append, List.length_cons, List.length_nil]; omega, by simp only [kpush, List.length_append, List.length_cons, List.length_nil]; omega, fun k q' hk => ?_⟩
  by_cases hlt : k < M.1.length
  · have hk' : M.1[k]? = some q' := by
      have : (M.1 ++ [q])[k]? = some q' := hk
      rwa [List.getElem?_append_left hlt] at this
    have e1 : (kpush M q).2.1 k = M.2.1 k := funext fun j => if_neg (by omega)
    have e2 : (kpush M q).2.2 k = M.2.2 k := funext fun j => if_neg (by omega)
    rw [e1, e2]
    exact (h.2.2 k q' hk').kept (ho _ (by rw [h.1]; omega))
  · have hk' : (M.1 ++ [q])[k]? = some q' := hk
    rw [List.getElem?_append_right (by omega)] at hk'
    have hz2 : k - M.1.length < 1 := (List.getElem?_eq_some_iff.mp hk').1
    have e : k = M.1.length := by omega
    subst e
    rw [Nat.sub_self] at hk'
    cases hk'
    have e1 : (kpush M q).2.1 M.1.length = fun _ => none := funext fun j => if_pos rfl
    have e2 : (kpush M q).2.2 M.1.length = fun _ => 0 := funext fun j => if_pos rfl
    rw [e1, e2]
    exact hc
theorem kS_push {H0 H H1 : Heap} {locs : List Loc} (h : va_S (kA E) H0 H locs) (hz : H1.size = H.size + 1) (ho : ∀ a : Nat, a < H.size → H1[a]? = H[a]?) : va_S (kA E) H0 H1 locs :=
  ⟨by have := h.1; omega, fun q h1 h2 => (ho q (Nat.lt_of_lt_of_le h1 h.1)).trans (h.2.1 q h1 h2), h.2.2⟩
theorem k_new {ci N i : Nat} {C : String} {T : u_T} {ty : Nat → FieldType} (hd : decode y.2.1 pc = .ok (.new i, 3)) (hn : pc + 3 = n) (hc : kCls ci C T N ty) (hg : Cond.classLink y.1.cls i C ∈ kG) (hg2 : Cond.instantiable C N ∈ kG) (hg3 : Cond.initialized C ∈ kG) (hdf : ∀ j, j < N → defaultValue (ty j) = kfv E (kfk ci j) none 0) (h1 : cl + 1 ≤ mc) (h2 : sl + N ≤ ms) (hl1 : M.1.length < 1000)
    (kk : Wd E d y (cl + 1) (sl + N) mc ms n L (.ref M.1.length :: st) (kpush M (ci, N)) Q) : Wd E d y cl sl mc ms pc L st M Q := by
  intro p l e R s m args below meth c H locs ls Z hC hx hH hS hl
  subst hn
  obtain ⟨hci, hcl, hin, hty, hnm⟩ := hc
  have hKn := (kamb hC).1 ci _ hcl
  have hR := kroom hC
  refine W.newcK hC.1 hC.2.1 (kown hC) (kgood hC hg) (kgood hC hg2) (kgood hC hg3) rfl hd (by omega) (by omega) hKn.2.1 rfl fun H1 kC hkC e1 z1 o1 => ?_
  have e0 : H.size = kad E M.1.length := by rw [hH.1]; exact (if_pos hl1).symm
  have := kk p l e R s m args below meth c H1 locs ls Z hC hx (hH.push hl1 z1 o1 ?_) (kS_push hS z1 o1) hl
  · rw [e0]; exact this
  · unfold kco
    rw [if_pos hci]
    refine ⟨_, hcl, ?_⟩
    rw [← hH.1]
    exact (u_born ty hC.2.2.2.2.2.2.2.1 hin hKn hkC e1 hty).to hdf
theorem k_newa {i : Int32} {z : Nat} (hd : decode y.2.1 pc = .ok (.newarray .int, 2)) (hn : pc + 2 = n) (hg : Cond.arrayClass .int ∈ kG) (hi : i = nI z) (hz : z ≤ 1000) (h1 : cl + 1 ≤ mc) (h2 : sl + z ≤ ms) (hl1 : M.1.length < 1000)
    (kk : Wd E d y (cl + 1) (sl + z) mc ms n L (.ref M.1.length :: st) (kpush M (100, z)) Q) : Wd E d y cl sl mc ms pc L (.int i :: st) M Q := by
  intro p l e R s m args below meth c H locs ls Z hC hx hH hS hl
  subst hn
  have hR := kroom hC
  have hz31 : z < 2 ^ 31 := by omega
  refine va_newaK (atype := .int) (N := z) hC.1 hC.2.1 (kgood hC hg) rfl hd rfl (by rw [hi]; exact nI_pos hz31) (by rw [hi]; exact nI_clamp hz31) (by simp only [componentBytes, newarray.typeOf]; omega) (by omega) (by omega) rfl fun H1 cA e1 z1 o1 hAr hNm => ?_
  have hcA : cA = E.2.2.2.1 100 := Option.some.inj (hNm.symm.trans (kamb hC).2.1.2)
  subst hcA
  have e0 : H.size = kad E M.1.length := by rw [hH.1]; exact (if_pos hl1).symm
  have := kk p l e R s m args below meth c H1 locs ls Z hC hx (hH.push hl1 z1 o1 ?_) (kS_push hS z1 o1) hl
  · rw [e0]; exact this
  · unfold kco
    rw [if_neg (by show ¬ 100 < 100; omega), if_pos rfl, ← hH.1]
    exact e1
theorem k_anew {i : Int32} {z kd ix : Nat} {C : String} (hd : decode y.2.1 pc = .ok (.anewarray ix, 3)) (hn : pc + 3 = n) (hg : Cond.classLink y.1.cls ix C ∈ kG) (hkd : (kd, C) ∈ kOA) (hi : i = nI z) (hz : z ≤ 1000) (h1 : cl + 1 ≤ mc) (h2 : sl + z ≤ ms) (hl1 : M.1.length < 1000)
    (kk : Wd E d y (cl + 1) (sl + z) mc ms n L (.ref M.1.length :: st) (kpush M (kd, z)) Q) : Wd E d y cl sl mc ms pc L (.int i :: st) M Q := by
  intro p l e R s m args below meth c H locs ls Z hC hx hH hS hl
  subst hn
  have hR := kroom hC
  have hz31 : z < 2 ^ 31 := by omega
  have hcl : i.toNatClampNeg = z := by rw [hi]; exact nI_clamp hz31
  obtain ⟨q1, q2, q3⟩ := (kamb hC).2.2.1 _ hkd
  refine W.anew hC.1 hC.2.1 (kown hC) (kgood hC hg) q3.use rfl hd rfl (by rw [hi]; exact nI_pos hz31) (by rw [hcl]; omega) (by omega) (by rw [hcl]; omega) fun cA kA0 comp a1 a2 a3 a4 => ?_
  obtain ⟨kA1, comp1, b1, b2, b3, b4⟩ := q2
  have hcA : cA = E.2.2.2.1 kd := Option.some.inj (a1.symm.trans b4)
  subst hcA
  rw [hcl]
  have z1 : (H.push { cls := E.2.2.2.1 kd, slots := Array.replicate z .null, vm := .none } : Heap).size = H.size + 1 := by simp
  have o1 : ∀ a : Nat, a < H.size → (H.push { cls := E.2.2.2.1 kd, slots := Array.replicate z .null, vm := .none } : Heap)[a]? = H[a]? := fun a ha => by rw [Array.getElem?_push, if_neg (Nat.ne_of_lt ha)]
  have e0 : H.size = kad E M.1.length := by rw [hH.1]; exact (if_pos hl1).symm
  have := kk p l e R s m args below meth c _ locs ls Z hC hx (hH.push hl1 z1 o1 ?_) (kS_push hS z1 o1) hl
  · rw [e0] at *; exact this
  · have h0 : 100 < kd := by
      simp only [kOA, List.mem_cons, Prod.mk.injEq, List.not_mem_nil, or_false] at hkd
      omega
    unfold kco
    dsimp only
    rw [if_neg (by omega), if_neg (by omega), ← hH.1, arrV_new]
    simp [va_rf]
end KH

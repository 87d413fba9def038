section C27
variable {s : State} {args : Array Value}
theorem tb_in {w : Cond} (i : Nat) (h : tables_1[i]? = some w) : w ∈ lw_tbl := List.mem_append_right (k2_sels lw_privs) (List.mem_of_getElem? h)
theorem knowns (hG : ∀ w ∈ kG, w.before args s = true) : ∃ (dC : Nat → ClassId) (dI : Nat → Nat → Nat), ∀ (c : Nat) (q : vw_C), vwCl[c]? = some q → u_Kn s q.1 q.2.1 q.2.2 (dC c) (dI c) := by
  obtain ⟨c0, i0, h0⟩ := u_known (C := RX0) (T := TX0) (N := 13) (n := 13) hG kcX0.2.2.1 (hG (.instantiable RX0 13) (gwi 73 (by decide +kernel) rfl))
  obtain ⟨c1, i1, h1⟩ := u_known (C := RX1) (T := TX1) (N := 7) (n := 7) hG kcX1.2.2.1 (hG (.instantiable RX1 7) (gwi 98 (by decide +kernel) rfl))
  obtain ⟨c2, i2, h2⟩ := u_known (C := RX2) (T := TX2) (N := 8) (n := 8) hG kcX2.2.2.1 (hG (.instantiable RX2 8) (gwi 28 (by decide +kernel) rfl))
  obtain ⟨c3, i3, h3⟩ := u_known (C := RX3) (T := TX3) (N := 5) (n := 5) hG kcX3.2.2.1 (hG (.instantiable RX3 5) (gwi 34 (by decide +kernel) rfl))
  obtain ⟨c4, i4, h4⟩ := u_known (C := RX4) (T := TX4) (N := 6) (n := 6) hG kcX4.2.2.1 (hG (.instantiable RX4 6) (gwi 224 (by decide +kernel) rfl))
  obtain ⟨c5, i5, h5⟩ := u_known (C := RX5) (T := TX5) (N := 3) (n := 3) hG kcX5.2.2.1 (hG (.instantiable RX5 3) (gwi 279 (by decide +kernel) rfl))
  obtain ⟨c6, i6, h6⟩ := u_known (C := RX6) (T := TX6) (N := 2) (n := 2) hG kcX6.2.2.1 (hG (.instantiable RX6 2) (gwi 82 (by decide +kernel) rfl))
  obtain ⟨c7, i7, h7⟩ := u_known (C := RX7) (T := TX7) (N := 5) (n := 5) hG kcX7.2.2.1 (hG (.instantiable RX7 5) (gwi 254 (by decide +kernel) rfl))
  obtain ⟨c8, i8, h8⟩ := u_known (C := RX8) (T := TX8) (N := 8) (n := 8) hG kcX8.2.2.1 (hG (.instantiable RX8 8) (gwi 20 (by decide +kernel) rfl))
  obtain ⟨c9, i9, h9⟩ := u_known (C := RX9) (T := TX9) (N := 24) (n := 24) hG kcX9.2.2.1 (hG (.instantiable RX9 24) (gwi 871 (by decide +kernel) rfl))
  refine ⟨fun c => ([c0, c1, c2, c3, c4, c5, c6, c7, c8, c9] : List ClassId).getD c c0, fun c => ([i0, i1, i2, i3, i4, i5, i6, i7, i8, i9] : List (Nat → Nat)).getD c i0, ?_⟩
  intro c q hq
  match c, hq with
  | 0, hq => cases hq; exact h0
  | 1, hq => cases hq; exact h1
  | 2, hq => cases hq; exact h2
  | 3, hq => cases hq; exact h3
  | 4, hq => cases hq; exact h4
  | 5, hq => cases hq; exact h5
  | 6, hq => cases hq; exact h6
  | 7, hq => cases hq; exact h7
  | 8, hq => cases hq; exact h8
  | 9, hq => cases hq; exact h9
  | c + 10, hq => simp [vwCl] at hq
theorem arrs (hts : ∀ w ∈ lw_tbl, w.before args s = true) : ∃ dA : Nat → ClassId, (ArrOfT s (dA 100) .int ∧ va_RA s (dA 100) .int) ∧ ∀ q ∈ kOA, ArrOfT s (dA q.1) (.object q.2) ∧ va_RA s (dA q.1) (.object q.2) ∧ va_AO q.2 s := by
  obtain ⟨c0, k0, m0, a1, a2, a3⟩ := Cond.arrayClass_spec (hts (.arrayClass .int) (tb_in 69 (by decide +kernel)))
  have o1 := hts (.arrayOver (.object "RopeBorder$Turner")) (tb_in 79 (by decide +kernel))
  obtain ⟨m1, c1, k1, b11, b12, b13, b14, b15⟩ := Cond.arrayOver_spec o1
  have o2 := hts (.arrayOver (.object "RopeBorder$Crosser")) (tb_in 81 (by decide +kernel))
  obtain ⟨m2, c2, k2, b21, b22, b23, b24, b25⟩ := Cond.arrayOver_spec o2
  have o3 := hts (.arrayOver (.object "RopeBorder$Sheet")) (tb_in 278 (by decide +kernel))
  obtain ⟨m3, c3, k3, b31, b32, b33, b34, b35⟩ := Cond.arrayOver_spec o3
  refine ⟨fun k => if k = 100 then c0 else if k = 107 then c1 else if k = 102 then c2 else c3, ⟨fun N z => ⟨(fun k h => by cases h), k0, a2, m0, a3⟩, a1⟩, ?_⟩
  intro q hq
  simp only [kOA, List.mem_cons, List.not_mem_nil, or_false] at hq
  rcases hq with rfl | rfl | rfl
  · exact ⟨fun N z => ⟨(fun k h => by cases h), k1, b13, m1, b14⟩, ⟨k1, m1, b13, b14, b11, b15⟩, va_AO.of o1⟩
  · exact ⟨fun N z => ⟨(fun k h => by cases h), k2, b23, m2, b24⟩, ⟨k2, m2, b23, b24, b21, b25⟩, va_AO.of o2⟩
  · exact ⟨fun N z => ⟨(fun k h => by cases h), k3, b33, m3, b34⟩, ⟨k3, m3, b33, b34, b31, b35⟩, va_AO.of o3⟩
abbrev GV : Cond := Jvm.Cond.and given_1 narrow_1
def fX (E : kE) (k : Nat) : Nat → Int32 := (kxt E k).2
theorem stat1 {A : Nat → Prop} (hts : ∀ w ∈ lw_tbl, w.before args s = true) (hs : ∀ c ∈ flatC GV, c.before args s = true) (hA : ∀ a : Nat, a < s.heap.size → ¬ A a) : ∃ t : Nat, va_Z "RopeBorder" "KIND_ABOVE" "[I" (.ref t) A s s.heap ∧ va_T .int t 7 (fun j => .int (([-1, 0, 0, 0, 1, 2, 3] : List Int32).getD j 0)) A s s.heap := by
  have hel : ∀ j : Nat, j < 7 → Cond.eq (.elem (.static "RopeBorder" "KIND_ABOVE" "[I") (.int (Int32.ofNat j))) (.int (([-1, 0, 0, 0, 1, 2, 3] : List Int32).getD j 0)) ∈ flatC GV := by decide +kernel
  obtain ⟨t, ht, hT⟩ := va_Tof (tm := .static "RopeBorder" "KIND_ABOVE" "[I") (ty := .int) (N := 7) (f := fun j => .int (([-1, 0, 0, 0, 1, 2, 3] : List Int32).getD j 0)) (A := A) (by decide) (hs _ (by decide +kernel)) (va_eqt (hs _ (by decide +kernel))) (fun j hj => va_eqt (hs _ (hel j hj))) hA
  exact ⟨t, va_Zof (hts _ (tb_in 448 (by decide +kernel))) (hts (.initialized "RopeBorder") (tb_in 1 (by decide +kernel))) ht hA, hT⟩
theorem stat2 {A : Nat → Prop} (hts : ∀ w ∈ lw_tbl, w.before args s = true) (hs : ∀ c ∈ flatC GV, c.before args s = true) (hA : ∀ a : Nat, a < s.heap.size → ¬ A a) : ∃ t : Nat, va_Z "RopeBorder$Law" "JUMPS_UNWRITTEN" "[I" (.ref t) A s s.heap ∧ va_T .int t 5 (fun j => .int (([1, -2, 20, -47, -43] : List Int32).getD j 0)) A s s.heap := by
  have hel : ∀ j : Nat, j < 5 → Cond.eq (.elem (.static "RopeBorder$Law" "JUMPS_UNWRITTEN" "[I") (.int (Int32.ofNat j))) (.int (([1, -2, 20, -47, -43] : List Int32).getD j 0)) ∈ flatC GV := by decide +kernel
  obtain ⟨t, ht, hT⟩ := va_Tof (tm := .static "RopeBorder$Law" "JUMPS_UNWRITTEN" "[I") (ty := .int) (N := 5) (f := fun j => .int (([1, -2, 20, -47, -43] : List Int32).getD j 0)) (A := A) (by decide) (hs _ (by decide +kernel)) (va_eqt (hs _ (by decide +kernel))) (fun j hj => va_eqt (hs _ (hel j hj))) hA
  exact ⟨t, va_Zof (hts _ (tb_in 36 (by decide +kernel))) (hts (.initialized "RopeBorder$Law") (tb_in 3 (by decide +kernel))) ht hA, hT⟩
theorem stat3 {A : Nat → Prop} (hts : ∀ w ∈ lw_tbl, w.before args s = true) (hs : ∀ c ∈ flatC GV, c.before args s = true) (hA : ∀ a : Nat, a < s.heap.size → ¬ A a) : ∃ t : Nat, va_Z "RopeBorder$Law" "JUMPED_UNWRITTEN" "[I" (.ref t) A s s.heap ∧ va_T .int t 7 (fun j => .int (([-2, 100, -1, 1, -43, -42, -60] : List Int32).getD j 0)) A s s.heap := by
  have hel : ∀ j : Nat, j < 7 → Cond.eq (.elem (.static "RopeBorder$Law" "JUMPED_UNWRITTEN" "[I") (.int (Int32.ofNat j))) (.int (([-2, 100, -1, 1, -43, -42, -60] : List Int32).getD j 0)) ∈ flatC GV := by decide +kernel
  obtain ⟨t, ht, hT⟩ := va_Tof (tm := .static "RopeBorder$Law" "JUMPED_UNWRITTEN" "[I") (ty := .int) (N := 7) (f := fun j => .int (([-2, 100, -1, 1, -43, -42, -60] : List Int32).getD j 0)) (A := A) (by decide) (hs _ (by decide +kernel)) (va_eqt (hs _ (by decide +kernel))) (fun j hj => va_eqt (hs _ (hel j hj))) hA
  exact ⟨t, va_Zof (hts _ (tb_in 71 (by decide +kernel))) (hts (.initialized "RopeBorder$Law") (tb_in 3 (by decide +kernel))) ht hA, hT⟩
theorem stat4 {A : Nat → Prop} (hts : ∀ w ∈ lw_tbl, w.before args s = true) (hs : ∀ c ∈ flatC GV, c.before args s = true) (hA : ∀ a : Nat, a < s.heap.size → ¬ A a) : ∃ t : Nat, va_Z "RopeBorder$Voices" "BODIES" "[I" (.ref t) A s s.heap ∧ va_T .int t 28 (fun j => .int (([10, 11, 12, 13, 20, 0, 0, 0, 0, 30, 0, 0, 0, 0, 40, 0, 0, 0, 0, 50, 0, 60, 0, 0, 0, 0, 70, 71] : List Int32).getD j 0)) A s s.heap := by
  have hel : ∀ j : Nat, j < 28 → Cond.eq (.elem (.static "RopeBorder$Voices" "BODIES" "[I") (.int (Int32.ofNat j))) (.int (([10, 11, 12, 13, 20, 0, 0, 0, 0, 30, 0, 0, 0, 0, 40, 0, 0, 0, 0, 50, 0, 60, 0, 0, 0, 0, 70, 71] : List Int32).getD j 0)) ∈ flatC GV := by decide +kernel
  obtain ⟨t, ht, hT⟩ := va_Tof (tm := .static "RopeBorder$Voices" "BODIES" "[I") (ty := .int) (N := 28) (f := fun j => .int (([10, 11, 12, 13, 20, 0, 0, 0, 0, 30, 0, 0, 0, 0, 40, 0, 0, 0, 0, 50, 0, 60, 0, 0, 0, 0, 70, 71] : List Int32).getD j 0)) (A := A) (by decide) (hs _ (by decide +kernel)) (va_eqt (hs _ (by decide +kernel))) (fun j hj => va_eqt (hs _ (hel j hj))) hA
  exact ⟨t, va_Zof (hts _ (tb_in 796 (by decide +kernel))) (hts (.initialized "RopeBorder$Voices") (tb_in 10 (by decide +kernel))) ht hA, hT⟩
theorem strs {A : Nat → Prop} (hs : ∀ c ∈ flatC GV, c.before args s = true) (hA : ∀ a : Nat, a < s.heap.size → ¬ A a) : ∃ adK adV : Nat → Nat, vk_S 2 [3, 3] [[107, 108, 112], [107, 119, 98]] adK adV A s s.heap ∧ (Term.string "RopeBorder$Reader" 15).eval args s none [] s = some (.ref (adK 0)) ∧ (Term.string "RopeBorder$Reader" 24).eval args s none [] s = some (.ref (adK 1)) := by
  have q1 : ∀ i, i < 2 → Cond.exactly (.string "RopeBorder$Reader" (if i = 0 then 15 else 24)) "java/lang/String" ∈ flatC GV := by decide +kernel
  have q2 : ∀ i, i < 2 → Cond.eq (.field (.string "RopeBorder$Reader" (if i = 0 then 15 else 24)) "java/lang/String" "coder" "B") (.int 0) ∈ flatC GV := by decide +kernel
  have q3 : ∀ i, i < 2 → Cond.arrayOf (.field (.string "RopeBorder$Reader" (if i = 0 then 15 else 24)) "java/lang/String" "value" "[B") .byte ∈ flatC GV := by decide +kernel
  have q4 : ∀ i, i < 2 → Cond.eq (.length (.field (.string "RopeBorder$Reader" (if i = 0 then 15 else 24)) "java/lang/String" "value" "[B")) (.int (Int32.ofNat (([3, 3] : List Nat).getD i 0))) ∈ flatC GV := by decide +kernel
  have q5 : ∀ i, i < 2 → ∀ j, j < ([3, 3] : List Nat).getD i 0 → Cond.eq (.elem (.field (.string "RopeBorder$Reader" (if i = 0 then 15 else 24)) "java/lang/String" "value" "[B") (.int (Int32.ofNat j))) (.int ((([[107, 108, 112], [107, 119, 98]] : List (List Int32)).getD i []).getD j 0)) ∈ flatC GV := by decide +kernel
  have q6 : Cond.not (Cond.eq (.string "RopeBorder$Reader" 15) (.string "RopeBorder$Reader" 24)) ∈ flatC GV := by decide +kernel
  obtain ⟨adK, adV, h1, h2⟩ := vk_Sof (args := args) (s := s) (N := 2) (tm := fun i => .string "RopeBorder$Reader" (if i = 0 then 15 else 24)) (len := [3, 3]) (byt := [[107, 108, 112], [107, 119, 98]]) (A := A) (by decide) (fun i hi => hs _ (q1 i hi)) (fun i hi => hs _ (q2 i hi)) (fun i hi => hs _ (q3 i hi)) (fun i hi => hs _ (q4 i hi)) (fun i hi j hj => hs _ (q5 i hi j hj)) (fun i j hi hj hij => by
    rcases (show (i = 0 ∧ j = 1) ∨ (i = 1 ∧ j = 0) by omega) with ⟨rfl, rfl⟩ | ⟨rfl, rfl⟩
    · exact Or.inl (hs _ q6)
    · exact Or.inr (hs _ q6)) hA
  exact ⟨adK, adV, h1, h2 0 (by decide), h2 1 (by decide)⟩
theorem amb {b L : Nat} {xs : Nat → Int32} (hts : ∀ w ∈ lw_tbl, w.before args s = true) (hgv : GV.before args s = true) (hX : va_X b L xs s s.heap) (hbl : b < s.heap.size) : ∃ E : kE, E.1 = s.heap.size ∧ kAmb E s s.heap ∧ kad E 1000 = b ∧ (kxt E 1000).1 = L := by
  have hs := flat_of_before _ hgv
  have hA : ∀ a : Nat, a < s.heap.size → ¬ (fun q : Nat => s.heap.size ≤ q) a := fun a h => Nat.not_le.mpr h
  obtain ⟨dC, dI, hK⟩ := knowns (kG_lw hts)
  obtain ⟨dA, hA1, hA2⟩ := arrs hts
  obtain ⟨t1, z1, y1⟩ := stat1 hts hs hA
  obtain ⟨t2, z2, y2⟩ := stat2 hts hs hA
  obtain ⟨t3, z3, y3⟩ := stat3 hts hs hA
  obtain ⟨t4, z4, y4⟩ := stat4 hts hs hA
  obtain ⟨aK, aV, hS, hr1, hr2⟩ := strs hs hA
  have hC : va_Z "java/lang/String" "COMPACT_STRINGS" "Z" (.int 1) (fun q : Nat => s.heap.size ≤ q) s s.heap := va_Zof (hts _ (tb_in 514 (by decide +kernel))) (hts (.initialized "java/lang/String") (tb_in 13 (by decide +kernel))) (va_eqt (hs _ (by decide +kernel))) hA
  have hT : va_T .int b L (fun j => .int (xs j)) (fun q : Nat => s.heap.size ≤ q) s s.heap := by
    obtain ⟨scr, x1, x2, x3, x4, x5⟩ := hX
    exact ⟨scr, x1, x2, x3, Nat.le_of_eq x4.symm, by rw [x4], x5, hA b hbl⟩
  refine ⟨(s.heap.size, dC, dI, dA, fun j => ([b, t1, t2, t3, t4, aK 0, aK 1, aV 0, aV 1] : List Nat).getD j 0, L, xs), rfl, ⟨hK, hA1, hA2, ?_, ?_, ?_, ?_, ?_, ?_, ?_, hC⟩, rfl, rfl⟩
  · intro q hq
    simp only [kNestM, List.mem_cons, List.not_mem_nil, or_false] at hq
    rcases hq with rfl | rfl | rfl | rfl | rfl
    · exact va_Nw.of rfl (hts _ (tb_in 29 (by decide +kernel)))
    · exact va_Nw.of rfl (hts _ (tb_in 83 (by decide +kernel)))
    · exact va_Nw.of rfl (hts _ (tb_in 99 (by decide +kernel)))
    · exact va_Nw.of rfl (hts _ (tb_in 255 (by decide +kernel)))
    · exact va_Nw.of rfl (hts _ (tb_in 280 (by decide +kernel)))
  · intro q hq
    simp only [kNestF, List.mem_cons, List.not_mem_nil, or_false] at hq
    rcases hq with rfl | rfl
    · exact va_Nw.of rfl (hts _ (tb_in 447 (by decide +kernel)))
    · exact va_Nw.of rfl (hts _ (tb_in 794 (by decide +kernel)))
  · intro q hq
    simp only [kStat, List.mem_cons, List.not_mem_nil, or_false] at hq
    rcases hq with rfl | rfl | rfl | rfl
    · exact z1
    · exact z2
    · exact z3
    · exact z4
  · intro k h1 h2
    rcases (show k = 1000 ∨ k = 1001 ∨ k = 1002 ∨ k = 1003 ∨ k = 1004 by omega) with rfl | rfl | rfl | rfl | rfl
    · exact hT
    · exact y1
    · exact y2
    · exact y3
    · exact y4
  · refine ⟨fun i hi => ?_, fun i j hi hj e => ?_⟩
    · rcases (show i = 0 ∨ i = 1 by omega) with rfl | rfl
      · exact hS.1 0 (by decide)
      · exact hS.1 1 (by decide)
    · rcases (show i = 0 ∨ i = 1 by omega) with rfl | rfl <;> rcases (show j = 0 ∨ j = 1 by omega) with rfl | rfl
      · rfl
      · exact hS.2 0 1 (by decide) (by decide) e
      · exact hS.2 1 0 (by decide) (by decide) e
      · rfl
  · exact vk_R.of (hts (.stringRef "RopeBorder$Reader" 15 "klp") (tb_in 229 (by decide +kernel))) hr1
  · exact vk_R.of (hts (.stringRef "RopeBorder$Reader" 24 "kwb") (tb_in 472 (by decide +kernel))) hr2
end C27
def lw_P (b : Addr) (xs : List Int32) (args : Array Value) (s : State) : Prop := args = #[.ref b] ∧ s.IntsAt b xs ∧ xs.length ≤ 3072 ∧ (Jvm.Cond.and given_1 narrow_1).before args s = true
def lw_Q (_ : Array Value) (s : State) (o : Outcome) (t : State) : Prop := o = .returned (some (.int 1)) ∧ Framed s o t [] 600000 7302250
def lw_Z (below : List Frame) (a : Array Value) (s : State) : State → Prop := fun t => ∃ o, t.status = .running ∧ Ended t below o ∧ lw_Q a s o t
/-- the law's own end, with 1 on the stack, nothing written that was there before, its room as the claim has it -/
theorem lw_ret {p : Program} {l : Launch} {e : Env} {s : State} {m : MethodId} {below : List Frame} {meth : Method} {c : Code} {b : Nat} (hx : p.tables.exec = Jvm.exec) (hb : c.code = code) (hr : meth.sig.returnType = ret) (hlocks : meth.locks = false) {pc : Nat} {H : Heap} {ls : Array Slot} (hdg : decode code pc = .ok (.ireturn, 1)) : W p l e room_1 s m #[Value.ref b] below meth c H [] 600000 7302250 (lw_Z below #[Value.ref b] s) (F0 m pc ls [.int 1]) := by
  intro T hT X
  obtain ⟨fs, hret, hrun, hended, hW, hframe⟩ := X.leave (v := some (.int 1)) (hlocks := hlocks) (fun h => by rw [hr] at h; cases h)
  have hmeth' : T.vm.method? m = some meth := X.method'
  refine ⟨T.setFrames fs, ?_, .returned (some (.int 1)), hrun, hended, rfl, ⟨_, rfl⟩, hW, hframe⟩
  jvm_step X.here [X.here.top, hx, hb, hdg, hmeth', hr, ret, narrow_b1]
  (try refine ⟨rfl, ?_⟩); (try refine ⟨rfl, ?_⟩)
  first | (intro acts; rw [hret _ acts rfl rfl rfl]) | rw [hret _ _ rfl rfl rfl]
  exact Steps.refl _
/-- what holds at the law's entry: the machine, the code, the tables' words (any of lw_tbl by 'hts w (by decide +kernel)'), the script of L ints xs at the cell b, what the Statement gives of the start (any of its parts by flat_of_before) -/
def lw_At (p : Program) (s : State) (m : MethodId) (meth : Method) (c : Code) (b L : Nat) (xs : Nat → Int32) : Prop :=
  p.tables.exec = Jvm.exec ∧ c.code = code ∧ meth.sig.returnType = ret ∧ c.maxLocals = 4 ∧ s.vm.findClass R_law = some m.cls ∧ (∀ w ∈ lw_tbl, w.before #[Value.ref b] s = true) ∧ va_X b L xs s s.heap ∧ b < s.heap.size ∧ meth.locks = false ∧ (Jvm.Cond.and given_1 narrow_1).before #[Value.ref b] s = true
theorem whole_start {p : Program} {e : Env} {s : State} {m : MethodId} {below : List Frame} {meth : Method} {c : Code} (l : Launch) {b L : Nat} {xs : Nat → Int32} (hL : L ≤ 3072) (hnm : meth.name = x.name) (C0 : lw_At p s m meth c b L xs) : W p l e room_1 s m #[Value.ref b] below meth c s.heap [] 0 0 (lw_Z below #[Value.ref b] s) (entryFrame m ([Value.ref b] : List Value).toArray 4) := by
  obtain ⟨hx, hb, hr, hml, hown, hts, hX, hbl, hlocks, hgv⟩ := C0
  obtain ⟨E, hE, hA, hk, hlen⟩ := amb hts hgv hX hbl
  have he := lv_entry ([.ref b]) (n := 4) (Nat.le_of_ble_eq_true rfl)
  rw [lg_entry_eq]
  refine law_all (E := E) (Q := fun v _ => v = some (.int 1)) (by rw [hlen]; exact hL) (fun _ => rfl) p l e room_1 s m #[Value.ref b] below meth c s.heap [] _ _ ⟨hx, hb, hml, hr, hlocks, hnm, hown, kG_lw hts, hA, ⟨by decide, by decide, by decide, by decide⟩, Nat.le_of_eq hE⟩ ?_ ⟨hE.symm, Nat.zero_le _, fun k q h => by cases h⟩ va_S.rf ⟨he.1, he.2.1, fun i v hi => ?_, rfl⟩
  · intro v M' H' locs' ls' pc' hQ hr' hS hk'
    subst hQ
    have hd : decode code pc' = .ok (.ireturn, 1) := by
      rcases hk' with ⟨h, -⟩ | ⟨x, ty, -, -, -, h⟩ | ⟨k, n, h, -⟩
      · cases h
      · exact h
      · cases h
    exact va_forget (fun q hq => by have := hS.2.2 q hq; unfold kA at this; rw [hE] at this; exact this) (W.widen (k := 600000) (n := 7302250) (by decide) (by decide) (lw_ret hx hb hr hlocks hd))
  · match i, hi with
    | 0, hi =>
      cases hi
      have := he.2.2 (0, .ref b) List.mem_cons_self
      show _ = some (Slot.val (Value.ref (kad E 1000)))
      rw [hk]; exact this
    | 1, hi => cases hi
    | 2, hi => cases hi
    | 3, hi => cases hi
    | i + 4, hi => cases hi
set_option maxHeartbeats 4000000 in
theorem lw_walk (l : Launch) (b : Addr) (xs : List Int32) : MetFree l x (headSpec (Jvm.Cond.code x code maxLocals ret :: tables_1) room_1) (lw_P b xs) (fun _ _ _ _ _ => True) lw_Q := by
  refine MetFree.of_bodyS (code := code) (maxLocals := maxLocals) (ret := ret) (by decide) ?_ ?_
  · intro args s m h hn
    obtain ⟨meth, c, h1, h2, h3, h4, h5, h6, -, -⟩ := Cond.code_spec hn (atoms_spec (ws := Jvm.Cond.code x code maxLocals ret :: tables_1) h _ List.mem_cons_self)
    exact ⟨meth, c, h1, h2, h3, h4, h5, h6⟩
  · intro p e s m args below meth c s₁ B hml0 hP _
    obtain ⟨rfl, hx, hbd, hgv⟩ := hP
    obtain ⟨scr, harrAt, hlist, hof, hsmall⟩ := hx
    obtain ⟨hcb, hkn, -, -⟩ := State.arrayAt?_spec harrAt
    have hown : s.vm.findClass R_law = some m.cls := findClass_of_methodNamed B.named
    have hts0 : ∀ c ∈ (Jvm.Cond.code x code maxLocals ret :: tables_1), c.before #[Value.ref b] s = true := atoms_spec (ws := Jvm.Cond.code x code maxLocals ret :: tables_1) B.pre
    have hts : ∀ w ∈ lw_tbl, w.before #[Value.ref b] s = true := k2_hts_sels lw_privs (fun w hw => hts0 w (List.mem_cons_of_mem _ hw)) lw_privs_ok
    have hml : c.maxLocals = 4 := B.maxLocals_eq (hts0 _ List.mem_cons_self)
    have X₀ : Stand p l e room_1 s m #[Value.ref b] below meth c s₁ [] 0 0 := Stand.of_body B
    have hh0 : s₁.heap = s.heap := by rw [B.state]; rfl
    have hsz : scr.slots.size = xs.length := by rw [← Array.length_toList, hlist, List.length_map]
    have hval : ∀ j : Nat, j < xs.length → scr.slots[j]? = some (.int (xs.getD j 0)) := fun j hj => by
      rw [← Array.getElem?_toList, hlist]
      simp [hj]
    have hbl : b < s.heap.size := (Array.getElem?_eq_some_iff.mp hcb).1
    have hX : va_X b xs.length (fun j => xs.getD j 0) s s.heap := ⟨scr, hcb, hof, hkn, hsz, hval⟩
    have K : W p l e room_1 s m #[Value.ref b] below meth c s₁.heap [] 0 0 (lw_Z below #[Value.ref b] s) (entryFrame m ([Value.ref b] : List Value).toArray 4) := by
      rw [hh0]
      exact whole_start l hbd (name_of_methodNamed B.named B.method).1 ⟨B.exec, B.bytes, B.returns, hml, hown, hts, hX, hbl, B.notSynchronized, hgv⟩
    obtain ⟨t, a1, o, b1, b2, b3⟩ := K s₁ rfl X₀
    exact ⟨t, o, a1, b1, b2, b3⟩
theorem lw_pre_spec {args : Array Value} {s : State} (h : (Jvm.Cond.and given_1 narrow_1).before args s = true) (hr : rest_1_c.before args s = true) : ∃ (b : Addr) (xs : List Int32), lw_P b xs args s := by
  have hs := flat_of_before _ h
  have hq := flat_of_before _ hr
  have hc : (Cond.count 1).before args s = true := hs _ (by decide +kernel)
  have harr : (Cond.arrayOf (.arg 0) .int).before args s = true := hs _ (by decide +kernel)
  have hle : (Cond.le (.length (.arg 0)) (.int 3072)).before args s = true := hs _ (by decide +kernel)
  have hlen : (Cond.isInt (.length (.arg 0))).before args s = true := hq _ (by decide +kernel)
  have hall : (Cond.all (.arg 0) (.isInt (.elem (.arg 0) (.index 0)))).before args s = true := hq _ (by decide +kernel)
  obtain ⟨b, xs, hb, hx⟩ := State.ints_of_pre rfl harr hlen hall
  have hsm : xs.length < 2 ^ 31 := hx.choose_spec.2.2.2
  have hev : (Term.length (.arg 0)).eval args s none [] s = some (.int xs.length.toInt32) := hx.length_eval hb
  have hv := Cond.le_ints hev (show (Term.int 3072).eval args s none [] s = some (.int 3072) from rfl)
  have hd : xs.length.toInt32 ≤ 3072 := by
    simpa [Cond.before, Cond.holds, hv] using hle
  have hN : xs.length ≤ 3072 := (Int32.ofNat_le_ofNat hsm (by decide)).mp (show Int32.ofNat xs.length ≤ Int32.ofNat 3072 from hd)
  exact ⟨b, xs, Cond.one_arg hc (show args[0]? = some (.ref b) from hb), hx, hN, h⟩
theorem lw_comes (l : Launch) : Comes l x (Jvm.Cond.code x code maxLocals ret :: tables_1) room_1 (fun tb e args s => Calls_1 tb e args s ∧ rest_1 tb e args s ∧ Pre_1 tb e args s)
    (fun _ _ args s o t => lw_Q args s o t) := by
  intro p e ha hc hk s m args below hf hfit hheap happ hpre
  obtain ⟨b, xs, hP⟩ := lw_pre_spec hpre.2.2 hpre.2.1
  obtain ⟨k, o, h1, h2, h3, hQ⟩ := lw_walk l b xs p e ha hc hk s m args below hf ((Spec.applies_iff_loose hf).mp happ).1 hP trivial
  exact ⟨k, o, h1, h2, h3, hQ⟩
theorem lw_frame {s t : State} {o : Outcome} {args : Array Value} (h : Framed s o t [] 600000 7302250) :
    Framed s o t (fieldLocs frame_1_writes args s ++ arrayLocs frame_1_arrays args s ++ staticLocs frame_1_statics s) 600000 7302250 := h
theorem lw_limb (L : Cond) (hL : ∀ (args : Array Value) (s t : State), L.after args s (.returned (some (.int 1))) t = true) :
    ArmFor flags0 classFile x code maxLocals ret World_1 tables_1 room_1 Calls_1 rest_1 Pre_1
      (fun tb e a s o t => postC L tb e a s o t ∧ Framed s o t (fieldLocs frame_1_writes a s ++ arrayLocs frame_1_arrays a s ++ staticLocs frame_1_statics s) 600000 7302250) := by
  intro l _ _ _ p e ha hc hk s m args below hf hfit hheap happ hpre
  obtain ⟨k, o, h1, h2, h3, rfl, hF⟩ := lw_comes l p e ha hc hk s m args below hf hfit hheap happ hpre
  exact ⟨k, _, h1, h2, h3, hL args s _, lw_frame hF⟩
theorem i_vc : Claimed_1_1 ∧ Claimed_1_2 := ⟨lw_limb limb_1_1 (fun args s t => by simp [limb_1_1, Cond.after, Cond.holds, Cond.value]), lw_limb limb_1_2 (fun args s t => Cond.after_iff.mpr (by
  first | (rw [show limb_1_2 = Cond.eq .result (.int 1) from rfl, Cond.eq_ints (x := 1) (y := 1) rfl rfl]; simp; done) | (simp [limb_1_2, Cond.value, Term.eval]; done)))⟩

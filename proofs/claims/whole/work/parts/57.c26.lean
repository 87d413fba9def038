section C26
variable {E : kE} {d : Nat} {y : kY} {cl sl mc ms pc n : Nat} {L : List (Option Value)} {st : List Value} {M N : kM} {Q : Option Value → kM → Prop}
theorem arrV_cg {cI : ClassId} {n : Nat} {f g : Nat → Value} (h : ∀ j, j < n → f j = g j) : arrV cI n f = arrV cI n g := by
  unfold arrV
  congr 2
  funext j
  exact h j.val j.isLt
theorem cl_n {c : Nat} {r : vw_C} (h : vwCl[c]? = some r) : r.2.2 ≤ 24 := by
  have hl : c < 10 := (List.getElem?_eq_some_iff.mp h).1
  rcases (show c = 0 ∨ c = 1 ∨ c = 2 ∨ c = 3 ∨ c = 4 ∨ c = 5 ∨ c = 6 ∨ c = 7 ∨ c = 8 ∨ c = 9 by omega) with rfl | rfl | rfl | rfl | rfl | rfl | rfl | rfl | rfl | rfl <;> (cases h; exact Nat.le_of_ble_eq_true rfl)
theorem kco_cg {H : Heap} {a kd n : Nat} {p p' : Nat → Option Nat} {i i' : Nat → Int32} (hN : 100 < kd → n ≤ 24) (hp : kd ≠ 100 → ∀ j, j < 24 → p j = p' j) (hi : kd ≤ 100 → ∀ j, j < (if kd < 100 then 24 else n) → i j = i' j) (h : kco E H a kd n p i) : kco E H a kd n p' i' := by
  unfold kco at h ⊢
  by_cases h1 : kd < 100
  · rw [if_pos h1] at h ⊢
    obtain ⟨r, hr, ho⟩ := h
    refine ⟨r, hr, ho.to (fun j hj => ?_)⟩
    have h24 : j < 24 := Nat.lt_of_lt_of_le hj (cl_n hr)
    rw [hp (by omega) j h24, hi (by omega) j (by rw [if_pos h1]; exact h24)]
  · rw [if_neg h1] at h ⊢
    by_cases h2 : kd = 100
    · rw [if_pos h2] at h ⊢
      rw [h, arrV_cg (fun j hj => by rw [hi (by omega) j (by rw [if_neg h1]; exact hj)])]
    · rw [if_neg h2] at h ⊢
      rw [h, arrV_cg (fun j hj => by rw [hp h2 j (Nat.lt_of_lt_of_le hj (hN (by omega)))])]
def ckC (q : Nat × Nat) (p p' : Nat → Option Nat) (i i' : Nat → Int32) : Bool := (Nat.ble q.1 100 || Nat.ble q.2 24) && (Nat.beq q.1 100 || (List.range 24).all fun j => decide (p j = p' j)) && (Nat.blt 100 q.1 || (List.range (cond (Nat.blt q.1 100) 24 q.2)).all fun j => decide (i j = i' j))
theorem ckC_co {H : Heap} {a : Nat} {q : Nat × Nat} {p p' : Nat → Option Nat} {i i' : Nat → Int32} (hc : ckC q p p' i i' = true) (h : kco E H a q.1 q.2 p i) : kco E H a q.1 q.2 p' i' := by
  unfold ckC at hc
  simp only [Bool.and_eq_true, Bool.or_eq_true, List.all_eq_true, List.mem_range, decide_eq_true_eq, Nat.ble_eq, Nat.beq_eq] at hc
  obtain ⟨⟨h1, h2⟩, h3⟩ := hc
  refine kco_cg (fun z => ?_) (fun z j hj => ?_) (fun z j hj => ?_) h
  · rcases h1 with h1 | h1
    · omega
    · exact h1
  · rcases h2 with h2 | h2
    · exact absurd h2 z
    · exact h2 j hj
  · rcases h3 with h3 | h3
    · have : q.1 ≤ 100 := z
      have : 100 < q.1 := Nat.le_of_ble_eq_true h3
      omega
    · refine h3 j ?_
      by_cases h4 : q.1 < 100
      · rw [if_pos h4] at hj
        have : Nat.blt q.1 100 = true := Nat.ble_eq_true_of_le h4
        rw [this]; exact hj
      · rw [if_neg h4] at hj
        have : Nat.blt q.1 100 = false := by
          rw [Bool.eq_false_iff]
          intro z
          exact h4 (Nat.le_of_ble_eq_true z)
        rw [this]; exact hj
def ckM (S : List (Nat × Nat)) (p p' : Nat → Nat → Option Nat) (i i' : Nat → Nat → Int32) : Bool := (List.range S.length).all fun k => ckC (S.getD k (0, 0)) (p k) (p' k) (i k) (i' k)
theorem Wd.cg (h1 : M.1 = N.1) (hc : ckM N.1 M.2.1 N.2.1 M.2.2 N.2.2 = true) (h : Wd E d y cl sl mc ms pc L st N Q) : Wd E d y cl sl mc ms pc L st M Q := by
  intro p l e R s m args below meth c H locs ls Z hC hx hH hS hl
  refine h p l e R s m args below meth c H locs ls Z hC hx ⟨by rw [hH.1, h1], by rw [← h1]; exact hH.2.1, fun k q hk => ?_⟩ hS hl
  have hlt : k < N.1.length := (List.getElem?_eq_some_iff.mp hk).1
  have hk2 : N.1.getD k (0, 0) = q := by rw [List.getD_eq_getElem?_getD, hk]; rfl
  have := List.all_eq_true.mp hc k (List.mem_range.mpr hlt)
  rw [hk2] at this
  exact ckC_co this (hH.2.2 k q (by rw [h1]; exact hk))
def IT0 : List (List Int32) := [[],[0,0,0,0,0,0,0,1],[0,0,1,9,5],[1,-2,20,-47,-43],[],[0,0,0,1,7],[-2,100,-1,1,-43,-42,-60],[],[0,0,0,0,0,4,4,1],[],[],[],[],[],[],[],[],[],[],[],[],[],[],[],[],[],[0,0,0,0,0,0,0,1],[0,0,1,9,5],[1,-2,20,-47,-43],[],[0,0,0,1,7],[-2,100,-1,1,-43,-42,-60],[],[0,0,0,0,0,4,4,1],[],[],[],[],[],[],[],[],[],[],[],[],[],[],[],[],[],[0,0,0,0,0,4,4,1],[],[],[],[],[],[],[],[],[],[],[],[],[],[],[],[0,0,0,0,0,1],[],[],[],[],[],[],[],[],[],[],[],[],[],[],[0,4,1,4,0,0,-1,-1,0,0,1],[],[],[],[],[],[],[],[],[]]
def I0 : Nat → Nat → Int32 := fun k j => (IT0.getD k []).getD j 0
theorem ck0 : ckM SS W223.2.1 PP W223.2.2 I0 = true := by decide +kernel
theorem z82 (j : Nat) (h : 11 ≤ j) : I0 82 j = 0 := by
  show (IT0.getD 82 []).getD j 0 = 0
  rw [List.getD_eq_getElem?_getD, List.getElem?_eq_none (show (IT0.getD 82 []).length ≤ j from h)]; rfl
theorem st_push {a b c i : Int32} {s : Nat → Int32} {n : Nat} (h : -3 ≤ i) (hn : n < 50) : stpF a b c i (s, n) = (upd s n (if 0 ≤ i then i else if i = -1 then a else if i = -2 then b else c), n + 1) := if_pos ⟨h, hn⟩
theorem st_join {a b c i : Int32} {s : Nat → Int32} {n : Nat} (h1 : ¬ -3 ≤ i) (h2 : ¬ i = -33) : stpF a b c i (s, n + 2) = (upd s n (jnF (-i) (s n) (s (n + 1))), n + 1) := by
  unfold stpF
  rw [if_neg (fun z => h1 z.1), if_neg (fun z => h2 z.1), if_pos (by show 2 ≤ n + 2; omega)]
  rfl
theorem run_0 (s : Nat → Int32) (a b c : Int32) : (runF fU0 a b c (s, 0) 5).1 0 = 1 + b / 20 := by
  have e1 : runF fU0 a b c (s, 0) 1 = (upd s 0 1, 1) := st_push (i := 1) (by decide) (by decide)
  have e2 : runF fU0 a b c (s, 0) 2 = (upd (upd s 0 1) 1 b, 2) := by
    show stpF a b c (-2) (runF fU0 a b c (s, 0) 1) = _
    rw [e1, st_push (by decide) (by decide)]; rfl
  have e3 : runF fU0 a b c (s, 0) 3 = (upd (upd (upd s 0 1) 1 b) 2 20, 3) := by
    show stpF a b c 20 (runF fU0 a b c (s, 0) 2) = _
    rw [e2, st_push (by decide) (by decide)]; rfl
  have e4 : runF fU0 a b c (s, 0) 4 = (upd (upd (upd (upd s 0 1) 1 b) 2 20) 1 (b / 20), 2) := by
    show stpF a b c (-47) (runF fU0 a b c (s, 0) 3) = _
    rw [e3, st_join (n := 1) (by decide) (by decide), pk_us, pk_un (by decide), pk_us]; rfl
  show (stpF a b c (-43) (runF fU0 a b c (s, 0) 4)).1 0 = _
  rw [e4, st_join (n := 0) (by decide) (by decide)]
  dsimp only
  rw [pk_us, pk_us, pk_un (by decide), pk_un (by decide), pk_un (by decide), pk_us]; rfl
theorem run_1 (s : Nat → Int32) (a b c : Int32) : (runF fU1 a b c (s, 0) 7).1 0 = kb (b < 100 * (a + 1)) := by
  have e1 : runF fU1 a b c (s, 0) 1 = (upd s 0 b, 1) := st_push (i := -2) (by decide) (by decide)
  have e2 : runF fU1 a b c (s, 0) 2 = (upd (upd s 0 b) 1 100, 2) := by
    show stpF a b c 100 (runF fU1 a b c (s, 0) 1) = _
    rw [e1, st_push (by decide) (by decide)]; rfl
  have e3 : runF fU1 a b c (s, 0) 3 = (upd (upd (upd s 0 b) 1 100) 2 a, 3) := by
    show stpF a b c (-1) (runF fU1 a b c (s, 0) 2) = _
    rw [e2, st_push (by decide) (by decide)]; rfl
  have e4 : runF fU1 a b c (s, 0) 4 = (upd (upd (upd (upd s 0 b) 1 100) 2 a) 3 1, 4) := by
    show stpF a b c 1 (runF fU1 a b c (s, 0) 3) = _
    rw [e3, st_push (by decide) (by decide)]; rfl
  have e5 : runF fU1 a b c (s, 0) 5 = (upd (upd (upd (upd (upd s 0 b) 1 100) 2 a) 3 1) 2 (a + 1), 3) := by
    show stpF a b c (-43) (runF fU1 a b c (s, 0) 4) = _
    rw [e4, st_join (n := 2) (by decide) (by decide), pk_us, pk_un (by decide), pk_us]; rfl
  have e6 : runF fU1 a b c (s, 0) 6 = (upd (upd (upd (upd (upd (upd s 0 b) 1 100) 2 a) 3 1) 2 (a + 1)) 1 (100 * (a + 1)), 2) := by
    show stpF a b c (-42) (runF fU1 a b c (s, 0) 5) = _
    rw [e5, st_join (n := 1) (by decide) (by decide), pk_us, pk_un (by decide), pk_un (by decide), pk_un (by decide), pk_us]; rfl
  show (stpF a b c (-60) (runF fU1 a b c (s, 0) 6)).1 0 = _
  rw [e6, st_join (n := 0) (by decide) (by decide)]
  dsimp only
  rw [pk_us, pk_us, pk_un (by decide), pk_un (by decide), pk_un (by decide), pk_un (by decide), pk_un (by decide), pk_us]; rfl
theorem LW_0 : LW 1 I0 (I0 82) 0 := by
  refine ⟨by decide +kernel, by decide +kernel, 5, by decide, by decide +kernel, ?_, fun s a b c => ?_⟩
  · intro i hi
    rcases (show i = 0 ∨ i = 1 ∨ i = 2 ∨ i = 3 ∨ i = 4 by omega) with rfl | rfl | rfl | rfl | rfl
    · exact Or.inl (by decide +kernel)
    · exact Or.inl (by decide +kernel)
    · exact Or.inl (by decide +kernel)
    · exact Or.inr (Or.inr ⟨47, by decide +kernel, by decide⟩)
    · exact Or.inr (Or.inr ⟨43, by decide +kernel, by decide⟩)
  · have e : ∀ i, i < 5 → I0 (1 + 2 + 3 * 0) i = fU0 i := by decide +kernel
    rw [run_cg 5 e, run_0]
    unfold lawF
    rw [if_pos (show I0 82 (6 + 0) < 0 by decide +kernel), if_pos rfl, if_pos rfl, if_pos rfl]
theorem held_kb (p : Prop) [Decidable p] : heldF (kb p) 0 1 = kb p := by
  unfold kb; split <;> decide
theorem LW_1 : LW 1 I0 (I0 82) 1 := by
  refine ⟨by decide +kernel, by decide +kernel, 7, by decide, by decide +kernel, ?_, fun s a b c => ?_⟩
  · intro i hi
    rcases (show i = 0 ∨ i = 1 ∨ i = 2 ∨ i = 3 ∨ i = 4 ∨ i = 5 ∨ i = 6 by omega) with rfl | rfl | rfl | rfl | rfl | rfl | rfl
    · exact Or.inl (by decide +kernel)
    · exact Or.inl (by decide +kernel)
    · exact Or.inl (by decide +kernel)
    · exact Or.inl (by decide +kernel)
    · exact Or.inr (Or.inr ⟨43, by decide +kernel, by decide⟩)
    · exact Or.inr (Or.inr ⟨42, by decide +kernel, by decide⟩)
    · exact Or.inr (Or.inr ⟨60, by decide +kernel, by decide⟩)
  · have e : ∀ i, i < 7 → I0 (1 + 2 + 3 * 1) i = fU1 i := by decide +kernel
    rw [run_cg 7 e, run_1]
    unfold lawF
    rw [if_pos (show I0 82 (6 + 1) < 0 by decide +kernel), if_neg (by decide), if_neg (by decide), if_neg (by decide)]
    exact held_kb _
theorem BR_0 : BR 8 I0 (I0 82) 0 0 := by unfold BR; decide +kernel
theorem RV_0 : RV (I0 82) := by
  refine ⟨⟨⟨0, by decide +kernel, by decide⟩, ⟨0, by decide +kernel, by decide⟩, ⟨0, by decide +kernel, by decide⟩, ⟨4, by decide +kernel, by decide⟩, ⟨0, by decide +kernel, by decide⟩, ⟨0, by decide +kernel, by decide⟩, ⟨4, by decide +kernel, by decide⟩, fun k hk => ⟨⟨0, z82 _ (by omega), by decide⟩, ⟨0, z82 _ (by omega), by decide⟩⟩, fun k hk => Or.inl ?_⟩, ⟨fun k hk => ?_, 0, 0, by decide +kernel, by decide +kernel, by decide, Or.inr rfl⟩, fun k hk => ⟨0, by decide, z82 _ (by omega)⟩⟩
  · rcases (show k = 0 ∨ k = 1 by omega) with rfl | rfl <;> decide +kernel
  · have h13 : 13 ≤ k := Nat.le_of_not_lt fun z => hk (if_pos z)
    exact ⟨0, z82 _ (by omega), Nat.zero_le _⟩
theorem INV_0 : INV 0 I0 := by
  refine ⟨⟨0, 0, ⟨BR_0, LW_0, LW_1⟩, by decide +kernel, by decide +kernel, by decide +kernel⟩, RV_0, by decide +kernel, by unfold SH; decide +kernel, fun a ha => ⟨0, ?_, by decide⟩, ⟨⟨0, by decide +kernel, by decide⟩, by decide +kernel, by decide +kernel⟩, ⟨0, Nat.le_refl _, by decide +kernel, by decide +kernel, by decide +kernel⟩, by unfold LC; decide +kernel, fun h => absurd (by decide +kernel) h⟩
  rcases (show a = 0 ∨ a = 1 ∨ a = 2 ∨ a = 3 by omega) with rfl | rfl | rfl | rfl <;> decide +kernel
theorem law_all (hlen : (kxt E 1000).1 ≤ 3072) (hQ : ∀ K, Q (some (.int 1)) (kJ K)) : Wd E 100 mL_law 0 0 92 2456 0 [some (.ref 1000), none, none, none] [] W0 Q :=
  law_0 (Wd.cg (N := kJ I0) (e223.trans (by decide +kernel)) ck0 (law_l hlen hQ 520 0 I0 rfl INV_0 (by decide)))
end C26

section M14
variable {E : kE} {d : Nat} {I : Nat → Nat → Int32} {r : Nat → Int32}
/-- one more body is told; a list of them -/
def vA (I : Nat → Nat → Int32) (n : Nat) (b : Int32) : Nat → Nat → Int32 := kset (kset I 91 (upd (I 91) n b)) 81 (upd (I 81) 20 (nI n + 1))
def vL : (Nat → Nat → Int32) → Nat → List Int32 → (Nat → Nat → Int32)
  | I, _, [] => I
  | I, n, b :: l => vL (vA I n b) (n + 1) l
theorem vL_app : ∀ (l1 l2 : List Int32) (I : Nat → Nat → Int32) (n : Nat), vL (vL I n l1) (n + l1.length) l2 = vL I n (l1 ++ l2)
  | [], l2, I, n => rfl
  | b :: l1, l2, I, n => by
    show vL (vL (vA I n b) (n + 1) l1) (n + (l1.length + 1)) l2 = vL (vA I n b) (n + 1) (l1 ++ l2)
    rw [← vL_app l1 l2 (vA I n b) (n + 1), show n + 1 + l1.length = n + (l1.length + 1) by omega]
theorem vA_20 (I : Nat → Nat → Int32) (n : Nat) (b : Int32) : vA I n b 81 20 = nI (n + 1) := by
  unfold vA; rw [kset_same, pk_us, nI_1]
theorem vA_ne (I : Nat → Nat → Int32) (n : Nat) (b : Int32) {j : Nat} (h : j ≠ 20) : vA I n b 81 j = I 81 j := by
  unfold vA; rw [kset_same, pk_un h]
theorem vL_20 : ∀ (l : List Int32) (I : Nat → Nat → Int32) (n : Nat), I 81 20 = nI n → vL I n l 81 20 = nI (n + l.length)
  | [], I, n, h => h
  | b :: l, I, n, h => by
    show vL (vA I n b) (n + 1) l 81 20 = _
    rw [vL_20 l _ _ (vA_20 I n b)]
    congr 1
    simp only [List.length_cons]; omega
theorem vL_ne {j : Nat} (hj : j ≠ 20) : ∀ (l : List Int32) (I : Nat → Nat → Int32) (n : Nat), vL I n l 81 j = I 81 j
  | [], I, n => rfl
  | b :: l, I, n => by
    show vL (vA I n b) (n + 1) l 81 j = _
    rw [vL_ne hj l, vA_ne I n b hj]
theorem vL_k {k : Nat} (h1 : k ≠ 81) (h2 : k ≠ 91) : ∀ (l : List Int32) (I : Nat → Nat → Int32) (n : Nat), vL I n l k = I k
  | [], I, n => rfl
  | b :: l, I, n => by
    show vL (vA I n b) (n + 1) l k = _
    rw [vL_k h1 h2 l]
    unfold vA
    rw [kset_ne _ _ h1, kset_ne _ _ h2]
set_option maxHeartbeats 2000000 in
set_option maxRecDepth 20000 in
theorem m_ran (n : Nat) (hn : n < 40) (h20 : I 81 20 = nI n) (b : Int32) : Ct E d mX9_ran 0 0 [.ref 81, .int b] (kJ I) (kRv (vA I n b)) := by
  refine Ct.of (L := [some (.ref 81), some (.int b)]) rfl rfl (Nat.le_of_ble_eq_true rfl) ?_
  refine al0 (n := 1) dX9_ran_0 rfl ?_
  refine gX9_212 (n := 4) dX9_ran_1 rfl rfl rfl ?_
  refine k_bipush (a := 40) (n := 6) dX9_ran_4 rfl rfl ?_
  rw [h20]
  refine k_icmp_ge (t := 29) (n := 9) dX9_ran_6 (by decide) rfl (fun h6 => ?_) (fun h6 => ?_)
  · exact absurd h6 (nI_ge (show n < 40 by omega) (by decide))
  · refine al0 (n := 10) dX9_ran_9 rfl ?_
    refine gX9_37 (n := 13) dX9_ran_10 rfl rfl rfl rfl ?_
    refine al0 (n := 14) dX9_ran_13 rfl ?_
    refine gX9_212 (n := 17) dX9_ran_14 rfl rfl rfl ?_
    refine il1 (n := 18) dX9_ran_17 rfl ?_
    refine j_iast (j := n) (n := 19) dX9_ran_18 rfl rfl h20 hn (by decide) ?_
    refine al0 (n := 20) dX9_ran_19 rfl ?_
    refine k_dup (n := 21) dX9_ran_20 rfl rfl ?_
    refine gX9_212 (n := 24) dX9_ran_21 rfl rfl rfl ?_
    try rw [kset_ne _ _ (show (81 : Nat) ≠ 91 by decide)]
    refine k_iconst (a := 1) (n := 25) dX9_ran_24 rfl rfl ?_
    refine k_iadd (n := 26) dX9_ran_25 rfl ?_
    refine pX9_212 (n := 29) dX9_ran_26 rfl rfl rfl ?_
    refine k_return dX9_ran_29 rfl (Nat.le_refl _) (Nat.le_refl _) ?_
    exact ⟨rfl, by unfold vA; rw [kset_ne _ _ (show (81 : Nat) ≠ 91 by decide), h20]⟩
abbrev vR : Type := Int32 × List Int32
def vC (c : Nat) (N x : Int32) : vR := if c = 1 then ((x + N) * 3, [20, 10]) else if c = 4 then ((x + N) * 3, [20, 10]) else (x + N, [10])
def vT (c : Nat) (N M x : Int32) : vR := if c = 6 then ((-(x - M)) ^^^ N, [70, 40, 12]) else if c = 3 then (-(x - M), [40, 12]) else (x - M, [12])
def vJ0 (k : Nat) (N x : Int32) : vR := ((vC k N x).1 * 2, 11 :: (vC k N x).2)
def vJ2 (k : Nat) (N M x : Int32) : vR := ((vJ0 k N x).1 - (vT k N M 1).1, 30 :: ((vJ0 k N x).2 ++ (vT k N M 1).2))
def vJ (k c : Nat) (N M x : Int32) : vR := if c = 5 then ((vJ2 k N M (x + 1)).1, 60 :: (vJ2 k N M (x + 1)).2) else if c = 2 then vJ2 k N M x else vJ0 k N x
def vR0 (k : Nat) (N M x : Int32) : vR := ((vJ k k N M x).1 ^^^ (vT k N M x).1, 13 :: ((vJ k k N M x).2 ++ (vT k N M x).2))
def vRu (k c : Nat) (N M x : Int32) : vR := if c = 6 then ((vJ k k N M x).1 - (vR0 k N M x).1, 71 :: ((vJ k k N M x).2 ++ (vR0 k N M x).2)) else if c = 4 then ((vR0 k N M x).1 - (vC k N 2).1, 50 :: ((vR0 k N M x).2 ++ (vC k N 2).2)) else vR0 k N M x
theorem vC_len (c : Nat) (N x : Int32) : (vC c N x).2.length ≤ 2 := by
  unfold vC
  repeat' split
  all_goals simp
theorem vT_len (c : Nat) (N M x : Int32) : (vT c N M x).2.length ≤ 3 := by
  unfold vT
  repeat' split
  all_goals simp
theorem vJ0_len (k : Nat) (N x : Int32) : (vJ0 k N x).2.length ≤ 3 := by have := vC_len k N x; simp only [vJ0, List.length_cons]; omega
theorem vJ2_len (k : Nat) (N M x : Int32) : (vJ2 k N M x).2.length ≤ 7 := by have := vJ0_len k N x; have := vT_len k N M 1; simp only [vJ2, List.length_cons, List.length_append]; omega
theorem vJ_len (k c : Nat) (N M x : Int32) : (vJ k c N M x).2.length ≤ 8 := by
  have := vJ0_len k N x; have := vJ2_len k N M x; have := vJ2_len k N M (x + 1)
  unfold vJ
  repeat' split
  all_goals (first | (simp only [List.length_cons]; omega) | omega)
theorem vR0_len (k : Nat) (N M x : Int32) : (vR0 k N M x).2.length ≤ 12 := by have := vJ_len k k N M x; have := vT_len k N M x; simp only [vR0, List.length_cons, List.length_append]; omega
set_option maxHeartbeats 2000000 in
set_option maxRecDepth 20000 in
theorem m_counts_0 (hd : 1 ≤ d) (n : Nat) (h20 : I 81 20 = nI n) (hn : n + 1 ≤ 40) (x : Int32) : Ct E d mX9_countsIn 0 0 [.ref 81, .int 0, .int x] (kJ I) (kR (vC 0 (I 81 22) x).1 (vL I n (vC 0 (I 81 22) x).2)) := by
  refine Ct.of (L := [some (.ref 81), some (.int 0), some (.int x)]) rfl rfl (Nat.le_of_ble_eq_true rfl) ?_
  refine il1 (n := 1) dX9_countsIn_0 rfl ?_
  refine k_if_ne (t := 17) (n := 4) dX9_countsIn_1 (by decide) rfl (fun h1 => ?_) (fun h1 => ?_)
  · exact absurd h1 (by decide)
  · refine al0 (n := 5) dX9_countsIn_4 rfl ?_
    refine k_bipush (a := 10) (n := 7) dX9_countsIn_5 rfl rfl ?_
    refine qiX9_215 (n := 10) dX9_countsIn_7 rfl rfl (Nat.le_of_ble_eq_true rfl) (by omega) rfl (m_ran n (by omega) h20 _) (Nat.le_refl _) (Nat.le_refl _) ?_
    refine il2 (n := 11) dX9_countsIn_10 rfl ?_
    refine al0 (n := 12) dX9_countsIn_11 rfl ?_
    refine gX9_218 (n := 15) dX9_countsIn_12 rfl rfl rfl ?_
    refine k_iadd (n := 16) dX9_countsIn_15 rfl ?_
    refine k_ireturn (ty := .int) dX9_countsIn_16 rfl rfl (Nat.le_refl _) (Nat.le_refl _) ?_
    exact ⟨by first | rfl | (rw [vA_ne _ _ _ (by decide)]; rfl), by first | rfl | (rw [vA_ne _ _ _ (by decide)]; rfl)⟩
set_option maxHeartbeats 2000000 in
set_option maxRecDepth 20000 in
theorem m_counts_1 (hd : 2 ≤ d) (n : Nat) (h20 : I 81 20 = nI n) (hn : n + 2 ≤ 40) (x : Int32) : Ct E d mX9_countsIn 0 0 [.ref 81, .int 1, .int x] (kJ I) (kR (vC 1 (I 81 22) x).1 (vL I n (vC 1 (I 81 22) x).2)) := by
  refine Ct.of (L := [some (.ref 81), some (.int 1), some (.int x)]) rfl rfl (Nat.le_of_ble_eq_true rfl) ?_
  refine il1 (n := 1) dX9_countsIn_0 rfl ?_
  refine k_if_ne (t := 17) (n := 4) dX9_countsIn_1 (by decide) rfl (fun h1 => ?_) (fun h1 => ?_)
  · refine il1 (n := 18) dX9_countsIn_17 rfl ?_
    refine k_iconst (a := 1) (n := 19) dX9_countsIn_18 rfl rfl ?_
    refine k_icmp_ne (t := 37) (n := 22) dX9_countsIn_19 (by decide) rfl (fun h19 => ?_) (fun h19 => ?_)
    · exact absurd h19 (by decide)
    · refine al0 (n := 23) dX9_countsIn_22 rfl ?_
      refine k_bipush (a := 20) (n := 25) dX9_countsIn_23 rfl rfl ?_
      refine qiX9_215 (n := 28) dX9_countsIn_25 rfl rfl (Nat.le_of_ble_eq_true rfl) (by omega) rfl (m_ran n (by omega) h20 _) (Nat.le_refl _) (Nat.le_refl _) ?_
      refine al0 (n := 29) dX9_countsIn_28 rfl ?_
      refine k_iconst (a := 0) (n := 30) dX9_countsIn_29 rfl rfl ?_
      refine il2 (n := 31) dX9_countsIn_30 rfl ?_
      refine qiX9_221 (n := 34) dX9_countsIn_31 rfl rfl (Nat.le_of_ble_eq_true rfl) (by omega) rfl (m_counts_0 (by omega) (n + 1) (vA_20 I n 20) (by omega) _) (Nat.le_refl _) (Nat.le_refl _) ?_
      refine k_iconst (a := 3) (n := 35) dX9_countsIn_34 rfl rfl ?_
      refine k_imul (n := 36) dX9_countsIn_35 rfl ?_
      refine k_ireturn (ty := .int) dX9_countsIn_36 rfl rfl (Nat.le_refl _) (Nat.le_refl _) ?_
      exact ⟨by first | rfl | (rw [vA_ne _ _ _ (by decide)]; rfl), by first | rfl | (rw [vA_ne _ _ _ (by decide)]; rfl)⟩
  · exact absurd h1 (by decide)
set_option maxHeartbeats 2000000 in
set_option maxRecDepth 20000 in
theorem m_counts_2 (hd : 2 ≤ d) (n : Nat) (h20 : I 81 20 = nI n) (hn : n + 1 ≤ 40) (x : Int32) : Ct E d mX9_countsIn 0 0 [.ref 81, .int 2, .int x] (kJ I) (kR (vC 2 (I 81 22) x).1 (vL I n (vC 2 (I 81 22) x).2)) := by
  refine Ct.of (L := [some (.ref 81), some (.int 2), some (.int x)]) rfl rfl (Nat.le_of_ble_eq_true rfl) ?_
  refine il1 (n := 1) dX9_countsIn_0 rfl ?_
  refine k_if_ne (t := 17) (n := 4) dX9_countsIn_1 (by decide) rfl (fun h1 => ?_) (fun h1 => ?_)
  · refine il1 (n := 18) dX9_countsIn_17 rfl ?_
    refine k_iconst (a := 1) (n := 19) dX9_countsIn_18 rfl rfl ?_
    refine k_icmp_ne (t := 37) (n := 22) dX9_countsIn_19 (by decide) rfl (fun h19 => ?_) (fun h19 => ?_)
    · refine al0 (n := 38) dX9_countsIn_37 rfl ?_
      refine il1 (n := 39) dX9_countsIn_38 rfl ?_
      refine qiX9_83 (n := 42) dX9_countsIn_39 rfl rfl (Nat.le_of_ble_eq_true rfl) (by omega) (m_above _) (Nat.le_refl _) (Nat.le_refl _) ?_
      rw [show kAb 2 = 0 from rfl]
      refine il2 (n := 43) dX9_countsIn_42 rfl ?_
      refine qiX9_221 (n := 46) dX9_countsIn_43 rfl rfl (Nat.le_of_ble_eq_true rfl) (by omega) rfl (m_counts_0 (by omega) n h20 (by omega) _) (Nat.le_refl _) (Nat.le_refl _) ?_
      refine k_ireturn (ty := .int) dX9_countsIn_46 rfl rfl (Nat.le_refl _) (Nat.le_refl _) ?_
      exact ⟨by first | rfl | (rw [vA_ne _ _ _ (by decide)]; rfl), by first | rfl | (rw [vA_ne _ _ _ (by decide)]; rfl)⟩
    · exact absurd h19 (by decide)
  · exact absurd h1 (by decide)
set_option maxHeartbeats 2000000 in
set_option maxRecDepth 20000 in
theorem m_counts_3 (hd : 2 ≤ d) (n : Nat) (h20 : I 81 20 = nI n) (hn : n + 1 ≤ 40) (x : Int32) : Ct E d mX9_countsIn 0 0 [.ref 81, .int 3, .int x] (kJ I) (kR (vC 3 (I 81 22) x).1 (vL I n (vC 3 (I 81 22) x).2)) := by
  refine Ct.of (L := [some (.ref 81), some (.int 3), some (.int x)]) rfl rfl (Nat.le_of_ble_eq_true rfl) ?_
  refine il1 (n := 1) dX9_countsIn_0 rfl ?_
  refine k_if_ne (t := 17) (n := 4) dX9_countsIn_1 (by decide) rfl (fun h1 => ?_) (fun h1 => ?_)
  · refine il1 (n := 18) dX9_countsIn_17 rfl ?_
    refine k_iconst (a := 1) (n := 19) dX9_countsIn_18 rfl rfl ?_
    refine k_icmp_ne (t := 37) (n := 22) dX9_countsIn_19 (by decide) rfl (fun h19 => ?_) (fun h19 => ?_)
    · refine al0 (n := 38) dX9_countsIn_37 rfl ?_
      refine il1 (n := 39) dX9_countsIn_38 rfl ?_
      refine qiX9_83 (n := 42) dX9_countsIn_39 rfl rfl (Nat.le_of_ble_eq_true rfl) (by omega) (m_above _) (Nat.le_refl _) (Nat.le_refl _) ?_
      rw [show kAb 3 = 0 from rfl]
      refine il2 (n := 43) dX9_countsIn_42 rfl ?_
      refine qiX9_221 (n := 46) dX9_countsIn_43 rfl rfl (Nat.le_of_ble_eq_true rfl) (by omega) rfl (m_counts_0 (by omega) n h20 (by omega) _) (Nat.le_refl _) (Nat.le_refl _) ?_
      refine k_ireturn (ty := .int) dX9_countsIn_46 rfl rfl (Nat.le_refl _) (Nat.le_refl _) ?_
      exact ⟨by first | rfl | (rw [vA_ne _ _ _ (by decide)]; rfl), by first | rfl | (rw [vA_ne _ _ _ (by decide)]; rfl)⟩
    · exact absurd h19 (by decide)
  · exact absurd h1 (by decide)
set_option maxHeartbeats 2000000 in
set_option maxRecDepth 20000 in
theorem m_counts_4 (hd : 3 ≤ d) (n : Nat) (h20 : I 81 20 = nI n) (hn : n + 2 ≤ 40) (x : Int32) : Ct E d mX9_countsIn 0 0 [.ref 81, .int 4, .int x] (kJ I) (kR (vC 4 (I 81 22) x).1 (vL I n (vC 4 (I 81 22) x).2)) := by
  refine Ct.of (L := [some (.ref 81), some (.int 4), some (.int x)]) rfl rfl (Nat.le_of_ble_eq_true rfl) ?_
  refine il1 (n := 1) dX9_countsIn_0 rfl ?_
  refine k_if_ne (t := 17) (n := 4) dX9_countsIn_1 (by decide) rfl (fun h1 => ?_) (fun h1 => ?_)
  · refine il1 (n := 18) dX9_countsIn_17 rfl ?_
    refine k_iconst (a := 1) (n := 19) dX9_countsIn_18 rfl rfl ?_
    refine k_icmp_ne (t := 37) (n := 22) dX9_countsIn_19 (by decide) rfl (fun h19 => ?_) (fun h19 => ?_)
    · refine al0 (n := 38) dX9_countsIn_37 rfl ?_
      refine il1 (n := 39) dX9_countsIn_38 rfl ?_
      refine qiX9_83 (n := 42) dX9_countsIn_39 rfl rfl (Nat.le_of_ble_eq_true rfl) (by omega) (m_above _) (Nat.le_refl _) (Nat.le_refl _) ?_
      rw [show kAb 4 = 1 from rfl]
      refine il2 (n := 43) dX9_countsIn_42 rfl ?_
      refine qiX9_221 (n := 46) dX9_countsIn_43 rfl rfl (Nat.le_of_ble_eq_true rfl) (by omega) rfl (m_counts_1 (by omega) n h20 (by omega) _) (Nat.le_refl _) (Nat.le_refl _) ?_
      refine k_ireturn (ty := .int) dX9_countsIn_46 rfl rfl (Nat.le_refl _) (Nat.le_refl _) ?_
      exact ⟨by first | rfl | (rw [vA_ne _ _ _ (by decide)]; rfl), by first | rfl | (rw [vA_ne _ _ _ (by decide)]; rfl)⟩
    · exact absurd h19 (by decide)
  · exact absurd h1 (by decide)
set_option maxHeartbeats 2000000 in
set_option maxRecDepth 20000 in
theorem m_counts_5 (hd : 3 ≤ d) (n : Nat) (h20 : I 81 20 = nI n) (hn : n + 1 ≤ 40) (x : Int32) : Ct E d mX9_countsIn 0 0 [.ref 81, .int 5, .int x] (kJ I) (kR (vC 5 (I 81 22) x).1 (vL I n (vC 5 (I 81 22) x).2)) := by
  refine Ct.of (L := [some (.ref 81), some (.int 5), some (.int x)]) rfl rfl (Nat.le_of_ble_eq_true rfl) ?_
  refine il1 (n := 1) dX9_countsIn_0 rfl ?_
  refine k_if_ne (t := 17) (n := 4) dX9_countsIn_1 (by decide) rfl (fun h1 => ?_) (fun h1 => ?_)
  · refine il1 (n := 18) dX9_countsIn_17 rfl ?_
    refine k_iconst (a := 1) (n := 19) dX9_countsIn_18 rfl rfl ?_
    refine k_icmp_ne (t := 37) (n := 22) dX9_countsIn_19 (by decide) rfl (fun h19 => ?_) (fun h19 => ?_)
    · refine al0 (n := 38) dX9_countsIn_37 rfl ?_
      refine il1 (n := 39) dX9_countsIn_38 rfl ?_
      refine qiX9_83 (n := 42) dX9_countsIn_39 rfl rfl (Nat.le_of_ble_eq_true rfl) (by omega) (m_above _) (Nat.le_refl _) (Nat.le_refl _) ?_
      rw [show kAb 5 = 2 from rfl]
      refine il2 (n := 43) dX9_countsIn_42 rfl ?_
      refine qiX9_221 (n := 46) dX9_countsIn_43 rfl rfl (Nat.le_of_ble_eq_true rfl) (by omega) rfl (m_counts_2 (by omega) n h20 (by omega) _) (Nat.le_refl _) (Nat.le_refl _) ?_
      refine k_ireturn (ty := .int) dX9_countsIn_46 rfl rfl (Nat.le_refl _) (Nat.le_refl _) ?_
      exact ⟨by first | rfl | (rw [vA_ne _ _ _ (by decide)]; rfl), by first | rfl | (rw [vA_ne _ _ _ (by decide)]; rfl)⟩
    · exact absurd h19 (by decide)
  · exact absurd h1 (by decide)
set_option maxHeartbeats 2000000 in
set_option maxRecDepth 20000 in
theorem m_counts_6 (hd : 3 ≤ d) (n : Nat) (h20 : I 81 20 = nI n) (hn : n + 1 ≤ 40) (x : Int32) : Ct E d mX9_countsIn 0 0 [.ref 81, .int 6, .int x] (kJ I) (kR (vC 6 (I 81 22) x).1 (vL I n (vC 6 (I 81 22) x).2)) := by
  refine Ct.of (L := [some (.ref 81), some (.int 6), some (.int x)]) rfl rfl (Nat.le_of_ble_eq_true rfl) ?_
  refine il1 (n := 1) dX9_countsIn_0 rfl ?_
  refine k_if_ne (t := 17) (n := 4) dX9_countsIn_1 (by decide) rfl (fun h1 => ?_) (fun h1 => ?_)
  · refine il1 (n := 18) dX9_countsIn_17 rfl ?_
    refine k_iconst (a := 1) (n := 19) dX9_countsIn_18 rfl rfl ?_
    refine k_icmp_ne (t := 37) (n := 22) dX9_countsIn_19 (by decide) rfl (fun h19 => ?_) (fun h19 => ?_)
    · refine al0 (n := 38) dX9_countsIn_37 rfl ?_
      refine il1 (n := 39) dX9_countsIn_38 rfl ?_
      refine qiX9_83 (n := 42) dX9_countsIn_39 rfl rfl (Nat.le_of_ble_eq_true rfl) (by omega) (m_above _) (Nat.le_refl _) (Nat.le_refl _) ?_
      rw [show kAb 6 = 3 from rfl]
      refine il2 (n := 43) dX9_countsIn_42 rfl ?_
      refine qiX9_221 (n := 46) dX9_countsIn_43 rfl rfl (Nat.le_of_ble_eq_true rfl) (by omega) rfl (m_counts_3 (by omega) n h20 (by omega) _) (Nat.le_refl _) (Nat.le_refl _) ?_
      refine k_ireturn (ty := .int) dX9_countsIn_46 rfl rfl (Nat.le_refl _) (Nat.le_refl _) ?_
      exact ⟨by first | rfl | (rw [vA_ne _ _ _ (by decide)]; rfl), by first | rfl | (rw [vA_ne _ _ _ (by decide)]; rfl)⟩
    · exact absurd h19 (by decide)
  · exact absurd h1 (by decide)
set_option maxHeartbeats 2000000 in
set_option maxRecDepth 20000 in
theorem m_counts (hd : 3 ≤ d) (n : Nat) (h20 : I 81 20 = nI n) (hn : n + 2 ≤ 40)  (k : Nat) (hk : k < 7) (x : Int32) : Ct E d mX9_countsIn 0 0 [.ref 81, .int (nI k), .int x] (kJ I) (kR (vC k (I 81 22) x).1 (vL I n (vC k (I 81 22) x).2)) := by
  rcases (show k = 0 ∨ k = 1 ∨ k = 2 ∨ k = 3 ∨ k = 4 ∨ k = 5 ∨ k = 6 by omega) with rfl | rfl | rfl | rfl | rfl | rfl | rfl
  · exact m_counts_0 (by omega) n h20 (by omega) x
  · exact m_counts_1 (by omega) n h20 (by omega) x
  · exact m_counts_2 (by omega) n h20 (by omega) x
  · exact m_counts_3 (by omega) n h20 (by omega) x
  · exact m_counts_4 (by omega) n h20 (by omega) x
  · exact m_counts_5 (by omega) n h20 (by omega) x
  · exact m_counts_6 (by omega) n h20 (by omega) x
set_option maxHeartbeats 2000000 in
set_option maxRecDepth 20000 in
theorem m_trips_0 (hd : 1 ≤ d) (n : Nat) (h20 : I 81 20 = nI n) (hn : n + 1 ≤ 40) (x : Int32) : Ct E d mX9_tripsIn 0 0 [.ref 81, .int 0, .int x] (kJ I) (kR (vT 0 (I 81 22) (I 81 23) x).1 (vL I n (vT 0 (I 81 22) (I 81 23) x).2)) := by
  refine Ct.of (L := [some (.ref 81), some (.int 0), some (.int x)]) rfl rfl (Nat.le_of_ble_eq_true rfl) ?_
  refine il1 (n := 1) dX9_tripsIn_0 rfl ?_
  refine k_if_ne (t := 17) (n := 4) dX9_tripsIn_1 (by decide) rfl (fun h1 => ?_) (fun h1 => ?_)
  · exact absurd h1 (by decide)
  · refine al0 (n := 5) dX9_tripsIn_4 rfl ?_
    refine k_bipush (a := 12) (n := 7) dX9_tripsIn_5 rfl rfl ?_
    refine qiX9_215 (n := 10) dX9_tripsIn_7 rfl rfl (Nat.le_of_ble_eq_true rfl) (by omega) rfl (m_ran n (by omega) h20 _) (Nat.le_refl _) (Nat.le_refl _) ?_
    refine il2 (n := 11) dX9_tripsIn_10 rfl ?_
    refine al0 (n := 12) dX9_tripsIn_11 rfl ?_
    refine gX9_224 (n := 15) dX9_tripsIn_12 rfl rfl rfl ?_
    refine k_isub (n := 16) dX9_tripsIn_15 rfl ?_
    refine k_ireturn (ty := .int) dX9_tripsIn_16 rfl rfl (Nat.le_refl _) (Nat.le_refl _) ?_
    exact ⟨by simp only [vT, vA_ne _ _ _ (show (22 : Nat) ≠ 20 by decide), vA_ne _ _ _ (show (23 : Nat) ≠ 20 by decide), vL_ne (show (22 : Nat) ≠ 20 by decide)]; rfl, by simp only [vT, vA_ne _ _ _ (show (22 : Nat) ≠ 20 by decide), vA_ne _ _ _ (show (23 : Nat) ≠ 20 by decide)]; rfl⟩
set_option maxHeartbeats 2000000 in
set_option maxRecDepth 20000 in
theorem m_trips_1 (hd : 2 ≤ d) (n : Nat) (h20 : I 81 20 = nI n) (hn : n + 1 ≤ 40) (x : Int32) : Ct E d mX9_tripsIn 0 0 [.ref 81, .int 1, .int x] (kJ I) (kR (vT 1 (I 81 22) (I 81 23) x).1 (vL I n (vT 1 (I 81 22) (I 81 23) x).2)) := by
  refine Ct.of (L := [some (.ref 81), some (.int 1), some (.int x)]) rfl rfl (Nat.le_of_ble_eq_true rfl) ?_
  refine il1 (n := 1) dX9_tripsIn_0 rfl ?_
  refine k_if_ne (t := 17) (n := 4) dX9_tripsIn_1 (by decide) rfl (fun h1 => ?_) (fun h1 => ?_)
  · refine il1 (n := 18) dX9_tripsIn_17 rfl ?_
    refine k_iconst (a := 3) (n := 19) dX9_tripsIn_18 rfl rfl ?_
    refine k_icmp_ne (t := 36) (n := 22) dX9_tripsIn_19 (by decide) rfl (fun h19 => ?_) (fun h19 => ?_)
    · refine il1 (n := 37) dX9_tripsIn_36 rfl ?_
      refine k_bipush (a := 6) (n := 39) dX9_tripsIn_37 rfl rfl ?_
      refine k_icmp_ne (t := 60) (n := 42) dX9_tripsIn_39 (by decide) rfl (fun h39 => ?_) (fun h39 => ?_)
      · refine al0 (n := 61) dX9_tripsIn_60 rfl ?_
        refine il1 (n := 62) dX9_tripsIn_61 rfl ?_
        refine qiX9_83 (n := 65) dX9_tripsIn_62 rfl rfl (Nat.le_of_ble_eq_true rfl) (by omega) (m_above _) (Nat.le_refl _) (Nat.le_refl _) ?_
        rw [show kAb 1 = 0 from rfl]
        refine il2 (n := 66) dX9_tripsIn_65 rfl ?_
        refine qiX9_227 (n := 69) dX9_tripsIn_66 rfl rfl (Nat.le_of_ble_eq_true rfl) (by omega) rfl (m_trips_0 (by omega) n h20 (by omega) _) (Nat.le_refl _) (Nat.le_refl _) ?_
        refine k_ireturn (ty := .int) dX9_tripsIn_69 rfl rfl (Nat.le_refl _) (Nat.le_refl _) ?_
        exact ⟨by simp only [vT, vA_ne _ _ _ (show (22 : Nat) ≠ 20 by decide), vA_ne _ _ _ (show (23 : Nat) ≠ 20 by decide), vL_ne (show (22 : Nat) ≠ 20 by decide)]; rfl, by simp only [vT, vA_ne _ _ _ (show (22 : Nat) ≠ 20 by decide), vA_ne _ _ _ (show (23 : Nat) ≠ 20 by decide)]; rfl⟩
      · exact absurd h39 (by decide)
    · exact absurd h19 (by decide)
  · exact absurd h1 (by decide)
set_option maxHeartbeats 2000000 in
set_option maxRecDepth 20000 in
theorem m_trips_2 (hd : 2 ≤ d) (n : Nat) (h20 : I 81 20 = nI n) (hn : n + 1 ≤ 40) (x : Int32) : Ct E d mX9_tripsIn 0 0 [.ref 81, .int 2, .int x] (kJ I) (kR (vT 2 (I 81 22) (I 81 23) x).1 (vL I n (vT 2 (I 81 22) (I 81 23) x).2)) := by
  refine Ct.of (L := [some (.ref 81), some (.int 2), some (.int x)]) rfl rfl (Nat.le_of_ble_eq_true rfl) ?_
  refine il1 (n := 1) dX9_tripsIn_0 rfl ?_
  refine k_if_ne (t := 17) (n := 4) dX9_tripsIn_1 (by decide) rfl (fun h1 => ?_) (fun h1 => ?_)
  · refine il1 (n := 18) dX9_tripsIn_17 rfl ?_
    refine k_iconst (a := 3) (n := 19) dX9_tripsIn_18 rfl rfl ?_
    refine k_icmp_ne (t := 36) (n := 22) dX9_tripsIn_19 (by decide) rfl (fun h19 => ?_) (fun h19 => ?_)
    · refine il1 (n := 37) dX9_tripsIn_36 rfl ?_
      refine k_bipush (a := 6) (n := 39) dX9_tripsIn_37 rfl rfl ?_
      refine k_icmp_ne (t := 60) (n := 42) dX9_tripsIn_39 (by decide) rfl (fun h39 => ?_) (fun h39 => ?_)
      · refine al0 (n := 61) dX9_tripsIn_60 rfl ?_
        refine il1 (n := 62) dX9_tripsIn_61 rfl ?_
        refine qiX9_83 (n := 65) dX9_tripsIn_62 rfl rfl (Nat.le_of_ble_eq_true rfl) (by omega) (m_above _) (Nat.le_refl _) (Nat.le_refl _) ?_
        rw [show kAb 2 = 0 from rfl]
        refine il2 (n := 66) dX9_tripsIn_65 rfl ?_
        refine qiX9_227 (n := 69) dX9_tripsIn_66 rfl rfl (Nat.le_of_ble_eq_true rfl) (by omega) rfl (m_trips_0 (by omega) n h20 (by omega) _) (Nat.le_refl _) (Nat.le_refl _) ?_
        refine k_ireturn (ty := .int) dX9_tripsIn_69 rfl rfl (Nat.le_refl _) (Nat.le_refl _) ?_
        exact ⟨by simp only [vT, vA_ne _ _ _ (show (22 : Nat) ≠ 20 by decide), vA_ne _ _ _ (show (23 : Nat) ≠ 20 by decide), vL_ne (show (22 : Nat) ≠ 20 by decide)]; rfl, by simp only [vT, vA_ne _ _ _ (show (22 : Nat) ≠ 20 by decide), vA_ne _ _ _ (show (23 : Nat) ≠ 20 by decide)]; rfl⟩
      · exact absurd h39 (by decide)
    · exact absurd h19 (by decide)
  · exact absurd h1 (by decide)
set_option maxHeartbeats 2000000 in
set_option maxRecDepth 20000 in
theorem m_trips_3 (hd : 2 ≤ d) (n : Nat) (h20 : I 81 20 = nI n) (hn : n + 2 ≤ 40) (x : Int32) : Ct E d mX9_tripsIn 0 0 [.ref 81, .int 3, .int x] (kJ I) (kR (vT 3 (I 81 22) (I 81 23) x).1 (vL I n (vT 3 (I 81 22) (I 81 23) x).2)) := by
  refine Ct.of (L := [some (.ref 81), some (.int 3), some (.int x)]) rfl rfl (Nat.le_of_ble_eq_true rfl) ?_
  refine il1 (n := 1) dX9_tripsIn_0 rfl ?_
  refine k_if_ne (t := 17) (n := 4) dX9_tripsIn_1 (by decide) rfl (fun h1 => ?_) (fun h1 => ?_)
  · refine il1 (n := 18) dX9_tripsIn_17 rfl ?_
    refine k_iconst (a := 3) (n := 19) dX9_tripsIn_18 rfl rfl ?_
    refine k_icmp_ne (t := 36) (n := 22) dX9_tripsIn_19 (by decide) rfl (fun h19 => ?_) (fun h19 => ?_)
    · exact absurd h19 (by decide)
    · refine al0 (n := 23) dX9_tripsIn_22 rfl ?_
      refine k_bipush (a := 40) (n := 25) dX9_tripsIn_23 rfl rfl ?_
      refine qiX9_215 (n := 28) dX9_tripsIn_25 rfl rfl (Nat.le_of_ble_eq_true rfl) (by omega) rfl (m_ran n (by omega) h20 _) (Nat.le_refl _) (Nat.le_refl _) ?_
      refine al0 (n := 29) dX9_tripsIn_28 rfl ?_
      refine k_iconst (a := 0) (n := 30) dX9_tripsIn_29 rfl rfl ?_
      refine il2 (n := 31) dX9_tripsIn_30 rfl ?_
      refine qiX9_227 (n := 34) dX9_tripsIn_31 rfl rfl (Nat.le_of_ble_eq_true rfl) (by omega) rfl (m_trips_0 (by omega) (n + 1) (vA_20 I n 40) (by omega) _) (Nat.le_refl _) (Nat.le_refl _) ?_
      refine k_ineg (n := 35) dX9_tripsIn_34 rfl ?_
      refine k_ireturn (ty := .int) dX9_tripsIn_35 rfl rfl (Nat.le_refl _) (Nat.le_refl _) ?_
      exact ⟨by simp only [vT, vA_ne _ _ _ (show (22 : Nat) ≠ 20 by decide), vA_ne _ _ _ (show (23 : Nat) ≠ 20 by decide), vL_ne (show (22 : Nat) ≠ 20 by decide)]; rfl, by simp only [vT, vA_ne _ _ _ (show (22 : Nat) ≠ 20 by decide), vA_ne _ _ _ (show (23 : Nat) ≠ 20 by decide)]; rfl⟩
  · exact absurd h1 (by decide)
set_option maxHeartbeats 2000000 in
set_option maxRecDepth 20000 in
theorem m_trips_4 (hd : 3 ≤ d) (n : Nat) (h20 : I 81 20 = nI n) (hn : n + 1 ≤ 40) (x : Int32) : Ct E d mX9_tripsIn 0 0 [.ref 81, .int 4, .int x] (kJ I) (kR (vT 4 (I 81 22) (I 81 23) x).1 (vL I n (vT 4 (I 81 22) (I 81 23) x).2)) := by
  refine Ct.of (L := [some (.ref 81), some (.int 4), some (.int x)]) rfl rfl (Nat.le_of_ble_eq_true rfl) ?_
  refine il1 (n := 1) dX9_tripsIn_0 rfl ?_
  refine k_if_ne (t := 17) (n := 4) dX9_tripsIn_1 (by decide) rfl (fun h1 => ?_) (fun h1 => ?_)
  · refine il1 (n := 18) dX9_tripsIn_17 rfl ?_
    refine k_iconst (a := 3) (n := 19) dX9_tripsIn_18 rfl rfl ?_
    refine k_icmp_ne (t := 36) (n := 22) dX9_tripsIn_19 (by decide) rfl (fun h19 => ?_) (fun h19 => ?_)
    · refine il1 (n := 37) dX9_tripsIn_36 rfl ?_
      refine k_bipush (a := 6) (n := 39) dX9_tripsIn_37 rfl rfl ?_
      refine k_icmp_ne (t := 60) (n := 42) dX9_tripsIn_39 (by decide) rfl (fun h39 => ?_) (fun h39 => ?_)
      · refine al0 (n := 61) dX9_tripsIn_60 rfl ?_
        refine il1 (n := 62) dX9_tripsIn_61 rfl ?_
        refine qiX9_83 (n := 65) dX9_tripsIn_62 rfl rfl (Nat.le_of_ble_eq_true rfl) (by omega) (m_above _) (Nat.le_refl _) (Nat.le_refl _) ?_
        rw [show kAb 4 = 1 from rfl]
        refine il2 (n := 66) dX9_tripsIn_65 rfl ?_
        refine qiX9_227 (n := 69) dX9_tripsIn_66 rfl rfl (Nat.le_of_ble_eq_true rfl) (by omega) rfl (m_trips_1 (by omega) n h20 (by omega) _) (Nat.le_refl _) (Nat.le_refl _) ?_
        refine k_ireturn (ty := .int) dX9_tripsIn_69 rfl rfl (Nat.le_refl _) (Nat.le_refl _) ?_
        exact ⟨by simp only [vT, vA_ne _ _ _ (show (22 : Nat) ≠ 20 by decide), vA_ne _ _ _ (show (23 : Nat) ≠ 20 by decide), vL_ne (show (22 : Nat) ≠ 20 by decide)]; rfl, by simp only [vT, vA_ne _ _ _ (show (22 : Nat) ≠ 20 by decide), vA_ne _ _ _ (show (23 : Nat) ≠ 20 by decide)]; rfl⟩
      · exact absurd h39 (by decide)
    · exact absurd h19 (by decide)
  · exact absurd h1 (by decide)
set_option maxHeartbeats 2000000 in
set_option maxRecDepth 20000 in
theorem m_trips_5 (hd : 3 ≤ d) (n : Nat) (h20 : I 81 20 = nI n) (hn : n + 1 ≤ 40) (x : Int32) : Ct E d mX9_tripsIn 0 0 [.ref 81, .int 5, .int x] (kJ I) (kR (vT 5 (I 81 22) (I 81 23) x).1 (vL I n (vT 5 (I 81 22) (I 81 23) x).2)) := by
  refine Ct.of (L := [some (.ref 81), some (.int 5), some (.int x)]) rfl rfl (Nat.le_of_ble_eq_true rfl) ?_
  refine il1 (n := 1) dX9_tripsIn_0 rfl ?_
  refine k_if_ne (t := 17) (n := 4) dX9_tripsIn_1 (by decide) rfl (fun h1 => ?_) (fun h1 => ?_)
  · refine il1 (n := 18) dX9_tripsIn_17 rfl ?_
    refine k_iconst (a := 3) (n := 19) dX9_tripsIn_18 rfl rfl ?_
    refine k_icmp_ne (t := 36) (n := 22) dX9_tripsIn_19 (by decide) rfl (fun h19 => ?_) (fun h19 => ?_)
    · refine il1 (n := 37) dX9_tripsIn_36 rfl ?_
      refine k_bipush (a := 6) (n := 39) dX9_tripsIn_37 rfl rfl ?_
      refine k_icmp_ne (t := 60) (n := 42) dX9_tripsIn_39 (by decide) rfl (fun h39 => ?_) (fun h39 => ?_)
      · refine al0 (n := 61) dX9_tripsIn_60 rfl ?_
        refine il1 (n := 62) dX9_tripsIn_61 rfl ?_
        refine qiX9_83 (n := 65) dX9_tripsIn_62 rfl rfl (Nat.le_of_ble_eq_true rfl) (by omega) (m_above _) (Nat.le_refl _) (Nat.le_refl _) ?_
        rw [show kAb 5 = 2 from rfl]
        refine il2 (n := 66) dX9_tripsIn_65 rfl ?_
        refine qiX9_227 (n := 69) dX9_tripsIn_66 rfl rfl (Nat.le_of_ble_eq_true rfl) (by omega) rfl (m_trips_2 (by omega) n h20 (by omega) _) (Nat.le_refl _) (Nat.le_refl _) ?_
        refine k_ireturn (ty := .int) dX9_tripsIn_69 rfl rfl (Nat.le_refl _) (Nat.le_refl _) ?_
        exact ⟨by simp only [vT, vA_ne _ _ _ (show (22 : Nat) ≠ 20 by decide), vA_ne _ _ _ (show (23 : Nat) ≠ 20 by decide), vL_ne (show (22 : Nat) ≠ 20 by decide)]; rfl, by simp only [vT, vA_ne _ _ _ (show (22 : Nat) ≠ 20 by decide), vA_ne _ _ _ (show (23 : Nat) ≠ 20 by decide)]; rfl⟩
      · exact absurd h39 (by decide)
    · exact absurd h19 (by decide)
  · exact absurd h1 (by decide)
set_option maxHeartbeats 2000000 in
set_option maxRecDepth 20000 in
theorem m_trips_6 (hd : 3 ≤ d) (n : Nat) (h20 : I 81 20 = nI n) (hn : n + 3 ≤ 40) (x : Int32) : Ct E d mX9_tripsIn 0 0 [.ref 81, .int 6, .int x] (kJ I) (kR (vT 6 (I 81 22) (I 81 23) x).1 (vL I n (vT 6 (I 81 22) (I 81 23) x).2)) := by
  refine Ct.of (L := [some (.ref 81), some (.int 6), some (.int x)]) rfl rfl (Nat.le_of_ble_eq_true rfl) ?_
  refine il1 (n := 1) dX9_tripsIn_0 rfl ?_
  refine k_if_ne (t := 17) (n := 4) dX9_tripsIn_1 (by decide) rfl (fun h1 => ?_) (fun h1 => ?_)
  · refine il1 (n := 18) dX9_tripsIn_17 rfl ?_
    refine k_iconst (a := 3) (n := 19) dX9_tripsIn_18 rfl rfl ?_
    refine k_icmp_ne (t := 36) (n := 22) dX9_tripsIn_19 (by decide) rfl (fun h19 => ?_) (fun h19 => ?_)
    · refine il1 (n := 37) dX9_tripsIn_36 rfl ?_
      refine k_bipush (a := 6) (n := 39) dX9_tripsIn_37 rfl rfl ?_
      refine k_icmp_ne (t := 60) (n := 42) dX9_tripsIn_39 (by decide) rfl (fun h39 => ?_) (fun h39 => ?_)
      · exact absurd h39 (by decide)
      · refine al0 (n := 43) dX9_tripsIn_42 rfl ?_
        refine k_bipush (a := 70) (n := 45) dX9_tripsIn_43 rfl rfl ?_
        refine qiX9_215 (n := 48) dX9_tripsIn_45 rfl rfl (Nat.le_of_ble_eq_true rfl) (by omega) rfl (m_ran n (by omega) h20 _) (Nat.le_refl _) (Nat.le_refl _) ?_
        refine al0 (n := 49) dX9_tripsIn_48 rfl ?_
        refine k_iconst (a := 3) (n := 50) dX9_tripsIn_49 rfl rfl ?_
        refine il2 (n := 51) dX9_tripsIn_50 rfl ?_
        refine qiX9_227 (n := 54) dX9_tripsIn_51 rfl rfl (Nat.le_of_ble_eq_true rfl) (by omega) rfl (m_trips_3 (by omega) (n + 1) (vA_20 I n 70) (by omega) _) (Nat.le_refl _) (Nat.le_refl _) ?_
        refine al0 (n := 55) dX9_tripsIn_54 rfl ?_
        refine gX9_218 (n := 58) dX9_tripsIn_55 rfl rfl rfl ?_
        refine k_ixor (n := 59) dX9_tripsIn_58 rfl ?_
        refine k_ireturn (ty := .int) dX9_tripsIn_59 rfl rfl (Nat.le_refl _) (Nat.le_refl _) ?_
        exact ⟨by simp only [vT, vA_ne _ _ _ (show (22 : Nat) ≠ 20 by decide), vA_ne _ _ _ (show (23 : Nat) ≠ 20 by decide), vL_ne (show (22 : Nat) ≠ 20 by decide)]; rfl, by simp only [vT, vA_ne _ _ _ (show (22 : Nat) ≠ 20 by decide), vA_ne _ _ _ (show (23 : Nat) ≠ 20 by decide)]; rfl⟩
    · exact absurd h19 (by decide)
  · exact absurd h1 (by decide)
set_option maxHeartbeats 2000000 in
set_option maxRecDepth 20000 in
theorem m_trips (hd : 3 ≤ d) (n : Nat) (h20 : I 81 20 = nI n) (hn : n + 3 ≤ 40)  (k : Nat) (hk : k < 7) (x : Int32) : Ct E d mX9_tripsIn 0 0 [.ref 81, .int (nI k), .int x] (kJ I) (kR (vT k (I 81 22) (I 81 23) x).1 (vL I n (vT k (I 81 22) (I 81 23) x).2)) := by
  rcases (show k = 0 ∨ k = 1 ∨ k = 2 ∨ k = 3 ∨ k = 4 ∨ k = 5 ∨ k = 6 by omega) with rfl | rfl | rfl | rfl | rfl | rfl | rfl
  · exact m_trips_0 (by omega) n h20 (by omega) x
  · exact m_trips_1 (by omega) n h20 (by omega) x
  · exact m_trips_2 (by omega) n h20 (by omega) x
  · exact m_trips_3 (by omega) n h20 (by omega) x
  · exact m_trips_4 (by omega) n h20 (by omega) x
  · exact m_trips_5 (by omega) n h20 (by omega) x
  · exact m_trips_6 (by omega) n h20 (by omega) x
set_option maxHeartbeats 2000000 in
set_option maxRecDepth 20000 in
theorem m_jumps_0 (hd : 4 ≤ d) (n : Nat) (h20 : I 81 20 = nI n) (hn : n + 3 ≤ 40) (k : Nat) (hk : k < 7) (h21 : I 81 21 = nI k) (x : Int32) : Ct E d mX9_jumpsIn 0 0 [.ref 81, .int 0, .int x] (kJ I) (kR (vJ0 k (I 81 22) x).1 (vL I n (vJ0 k (I 81 22) x).2)) := by
  refine Ct.of (L := [some (.ref 81), some (.int 0), some (.int x), none]) rfl rfl (Nat.le_of_ble_eq_true rfl) ?_
  refine il1 (n := 1) dX9_jumpsIn_0 rfl ?_
  refine k_if_ne (t := 22) (n := 4) dX9_jumpsIn_1 (by decide) rfl (fun h1 => ?_) (fun h1 => ?_)
  · exact absurd h1 (by decide)
  · refine al0 (n := 5) dX9_jumpsIn_4 rfl ?_
    refine k_bipush (a := 11) (n := 7) dX9_jumpsIn_5 rfl rfl ?_
    refine qiX9_215 (n := 10) dX9_jumpsIn_7 rfl rfl (Nat.le_of_ble_eq_true rfl) (by omega) rfl (m_ran n (by omega) h20 _) (Nat.le_refl _) (Nat.le_refl _) ?_
    refine al0 (n := 11) dX9_jumpsIn_10 rfl ?_
    refine al0 (n := 12) dX9_jumpsIn_11 rfl ?_
    refine gX9_230 (n := 15) dX9_jumpsIn_12 rfl rfl rfl ?_
    rw [vA_ne _ _ _ (show (21 : Nat) ≠ 20 by decide), h21]
    refine il2 (n := 16) dX9_jumpsIn_15 rfl ?_
    refine qiX9_221 (n := 19) dX9_jumpsIn_16 rfl rfl (Nat.le_of_ble_eq_true rfl) (by omega) rfl (m_counts (by omega) (n + 1) (vA_20 I n 11) (by omega) k hk _) (Nat.le_refl _) (Nat.le_refl _) ?_
    refine k_iconst (a := 2) (n := 20) dX9_jumpsIn_19 rfl rfl ?_
    refine k_imul (n := 21) dX9_jumpsIn_20 rfl ?_
    refine k_ireturn (ty := .int) dX9_jumpsIn_21 rfl rfl (Nat.le_refl _) (Nat.le_refl _) ?_
    exact ⟨by simp only [vJ0, vA_ne _ _ _ (show (22 : Nat) ≠ 20 by decide), vA_ne _ _ _ (show (23 : Nat) ≠ 20 by decide), vL_ne (show (22 : Nat) ≠ 20 by decide), vL_ne (show (23 : Nat) ≠ 20 by decide)], by simp only [vJ0, vA_ne _ _ _ (show (22 : Nat) ≠ 20 by decide), vA_ne _ _ _ (show (23 : Nat) ≠ 20 by decide), vL_ne (show (22 : Nat) ≠ 20 by decide), vL_ne (show (23 : Nat) ≠ 20 by decide)]; rfl⟩
set_option maxHeartbeats 2000000 in
set_option maxRecDepth 20000 in
theorem m_jumps_1 (hd : 5 ≤ d) (n : Nat) (h20 : I 81 20 = nI n) (hn : n + 3 ≤ 40) (k : Nat) (hk : k < 7) (h21 : I 81 21 = nI k) (x : Int32) : Ct E d mX9_jumpsIn 0 0 [.ref 81, .int 1, .int x] (kJ I) (kR (vJ0 k (I 81 22) x).1 (vL I n (vJ0 k (I 81 22) x).2)) := by
  refine Ct.of (L := [some (.ref 81), some (.int 1), some (.int x), none]) rfl rfl (Nat.le_of_ble_eq_true rfl) ?_
  refine il1 (n := 1) dX9_jumpsIn_0 rfl ?_
  refine k_if_ne (t := 22) (n := 4) dX9_jumpsIn_1 (by decide) rfl (fun h1 => ?_) (fun h1 => ?_)
  · refine il1 (n := 23) dX9_jumpsIn_22 rfl ?_
    refine k_iconst (a := 2) (n := 24) dX9_jumpsIn_23 rfl rfl ?_
    refine k_icmp_ne (t := 52) (n := 27) dX9_jumpsIn_24 (by decide) rfl (fun h24 => ?_) (fun h24 => ?_)
    · refine il1 (n := 53) dX9_jumpsIn_52 rfl ?_
      refine k_iconst (a := 5) (n := 54) dX9_jumpsIn_53 rfl rfl ?_
      refine k_icmp_ne (t := 72) (n := 57) dX9_jumpsIn_54 (by decide) rfl (fun h54 => ?_) (fun h54 => ?_)
      · refine al0 (n := 73) dX9_jumpsIn_72 rfl ?_
        refine il1 (n := 74) dX9_jumpsIn_73 rfl ?_
        refine qiX9_83 (n := 77) dX9_jumpsIn_74 rfl rfl (Nat.le_of_ble_eq_true rfl) (by omega) (m_above _) (Nat.le_refl _) (Nat.le_refl _) ?_
        rw [show kAb 1 = 0 from rfl]
        refine il2 (n := 78) dX9_jumpsIn_77 rfl ?_
        refine qiX9_233 (n := 81) dX9_jumpsIn_78 rfl rfl (Nat.le_of_ble_eq_true rfl) (by omega) rfl (m_jumps_0 (by omega) n h20 (by omega) k hk h21 _) (Nat.le_refl _) (Nat.le_refl _) ?_
        refine k_ireturn (ty := .int) dX9_jumpsIn_81 rfl rfl (Nat.le_refl _) (Nat.le_refl _) ?_
        exact ⟨rfl, rfl⟩
      · exact absurd h54 (by decide)
    · exact absurd h24 (by decide)
  · exact absurd h1 (by decide)
set_option maxHeartbeats 2000000 in
set_option maxRecDepth 20000 in
theorem m_jumps_2 (hd : 5 ≤ d) (n : Nat) (h20 : I 81 20 = nI n) (hn : n + 7 ≤ 40) (k : Nat) (hk : k < 7) (h21 : I 81 21 = nI k) (x : Int32) : Ct E d mX9_jumpsIn 0 0 [.ref 81, .int 2, .int x] (kJ I) (kR (vJ2 k (I 81 22) (I 81 23) x).1 (vL I n (vJ2 k (I 81 22) (I 81 23) x).2)) := by
  refine Ct.of (L := [some (.ref 81), some (.int 2), some (.int x), none]) rfl rfl (Nat.le_of_ble_eq_true rfl) ?_
  refine il1 (n := 1) dX9_jumpsIn_0 rfl ?_
  refine k_if_ne (t := 22) (n := 4) dX9_jumpsIn_1 (by decide) rfl (fun h1 => ?_) (fun h1 => ?_)
  · refine il1 (n := 23) dX9_jumpsIn_22 rfl ?_
    refine k_iconst (a := 2) (n := 24) dX9_jumpsIn_23 rfl rfl ?_
    refine k_icmp_ne (t := 52) (n := 27) dX9_jumpsIn_24 (by decide) rfl (fun h24 => ?_) (fun h24 => ?_)
    · exact absurd h24 (by decide)
    · refine al0 (n := 28) dX9_jumpsIn_27 rfl ?_
      refine k_bipush (a := 30) (n := 30) dX9_jumpsIn_28 rfl rfl ?_
      refine qiX9_215 (n := 33) dX9_jumpsIn_30 rfl rfl (Nat.le_of_ble_eq_true rfl) (by omega) rfl (m_ran n (by omega) h20 _) (Nat.le_refl _) (Nat.le_refl _) ?_
      refine al0 (n := 34) dX9_jumpsIn_33 rfl ?_
      refine k_iconst (a := 0) (n := 35) dX9_jumpsIn_34 rfl rfl ?_
      refine il2 (n := 36) dX9_jumpsIn_35 rfl ?_
      refine qiX9_233 (n := 39) dX9_jumpsIn_36 rfl rfl (Nat.le_of_ble_eq_true rfl) (by omega) rfl (m_jumps_0 (by omega) (n + 1) (vA_20 I n 30) (by omega) k hk ((vA_ne I n 30 (show (21 : Nat) ≠ 20 by decide)).trans h21) _) (Nat.le_refl _) (Nat.le_refl _) ?_
      refine is3 (n := 40) dX9_jumpsIn_39 rfl trivial ?_
      refine il3 (n := 41) dX9_jumpsIn_40 rfl ?_
      refine al0 (n := 42) dX9_jumpsIn_41 rfl ?_
      refine al0 (n := 43) dX9_jumpsIn_42 rfl ?_
      refine gX9_230 (n := 46) dX9_jumpsIn_43 rfl rfl rfl ?_
      rw [vL_ne (show (21 : Nat) ≠ 20 by decide), vA_ne _ _ _ (show (21 : Nat) ≠ 20 by decide), h21]
      refine k_iconst (a := 1) (n := 47) dX9_jumpsIn_46 rfl rfl ?_
      refine qiX9_227 (n := 50) dX9_jumpsIn_47 rfl rfl (Nat.le_of_ble_eq_true rfl) (by omega) rfl (m_trips (by omega) (n + 1 + (vJ0 k (vA I n 30 81 22) x).2.length) (vL_20 _ _ _ (vA_20 I n 30)) (by have := vJ0_len k (vA I n 30 81 22) x; omega) k hk _) (Nat.le_refl _) (Nat.le_refl _) ?_
      refine k_isub (n := 51) dX9_jumpsIn_50 rfl ?_
      refine k_ireturn (ty := .int) dX9_jumpsIn_51 rfl rfl (Nat.le_refl _) (Nat.le_refl _) ?_
      exact ⟨by simp only [vJ2, vA_ne _ _ _ (show (22 : Nat) ≠ 20 by decide), vA_ne _ _ _ (show (23 : Nat) ≠ 20 by decide), vL_ne (show (22 : Nat) ≠ 20 by decide), vL_ne (show (23 : Nat) ≠ 20 by decide)], by rw [vL_app]; simp only [vJ2, vA_ne _ _ _ (show (22 : Nat) ≠ 20 by decide), vA_ne _ _ _ (show (23 : Nat) ≠ 20 by decide), vL_ne (show (22 : Nat) ≠ 20 by decide), vL_ne (show (23 : Nat) ≠ 20 by decide)]; rfl⟩
  · exact absurd h1 (by decide)
set_option maxHeartbeats 2000000 in
set_option maxRecDepth 20000 in
theorem m_jumps_3 (hd : 5 ≤ d) (n : Nat) (h20 : I 81 20 = nI n) (hn : n + 3 ≤ 40) (k : Nat) (hk : k < 7) (h21 : I 81 21 = nI k) (x : Int32) : Ct E d mX9_jumpsIn 0 0 [.ref 81, .int 3, .int x] (kJ I) (kR (vJ0 k (I 81 22) x).1 (vL I n (vJ0 k (I 81 22) x).2)) := by
  refine Ct.of (L := [some (.ref 81), some (.int 3), some (.int x), none]) rfl rfl (Nat.le_of_ble_eq_true rfl) ?_
  refine il1 (n := 1) dX9_jumpsIn_0 rfl ?_
  refine k_if_ne (t := 22) (n := 4) dX9_jumpsIn_1 (by decide) rfl (fun h1 => ?_) (fun h1 => ?_)
  · refine il1 (n := 23) dX9_jumpsIn_22 rfl ?_
    refine k_iconst (a := 2) (n := 24) dX9_jumpsIn_23 rfl rfl ?_
    refine k_icmp_ne (t := 52) (n := 27) dX9_jumpsIn_24 (by decide) rfl (fun h24 => ?_) (fun h24 => ?_)
    · refine il1 (n := 53) dX9_jumpsIn_52 rfl ?_
      refine k_iconst (a := 5) (n := 54) dX9_jumpsIn_53 rfl rfl ?_
      refine k_icmp_ne (t := 72) (n := 57) dX9_jumpsIn_54 (by decide) rfl (fun h54 => ?_) (fun h54 => ?_)
      · refine al0 (n := 73) dX9_jumpsIn_72 rfl ?_
        refine il1 (n := 74) dX9_jumpsIn_73 rfl ?_
        refine qiX9_83 (n := 77) dX9_jumpsIn_74 rfl rfl (Nat.le_of_ble_eq_true rfl) (by omega) (m_above _) (Nat.le_refl _) (Nat.le_refl _) ?_
        rw [show kAb 3 = 0 from rfl]
        refine il2 (n := 78) dX9_jumpsIn_77 rfl ?_
        refine qiX9_233 (n := 81) dX9_jumpsIn_78 rfl rfl (Nat.le_of_ble_eq_true rfl) (by omega) rfl (m_jumps_0 (by omega) n h20 (by omega) k hk h21 _) (Nat.le_refl _) (Nat.le_refl _) ?_
        refine k_ireturn (ty := .int) dX9_jumpsIn_81 rfl rfl (Nat.le_refl _) (Nat.le_refl _) ?_
        exact ⟨rfl, rfl⟩
      · exact absurd h54 (by decide)
    · exact absurd h24 (by decide)
  · exact absurd h1 (by decide)
set_option maxHeartbeats 2000000 in
set_option maxRecDepth 20000 in
theorem m_jumps_4 (hd : 6 ≤ d) (n : Nat) (h20 : I 81 20 = nI n) (hn : n + 3 ≤ 40) (k : Nat) (hk : k < 7) (h21 : I 81 21 = nI k) (x : Int32) : Ct E d mX9_jumpsIn 0 0 [.ref 81, .int 4, .int x] (kJ I) (kR (vJ0 k (I 81 22) x).1 (vL I n (vJ0 k (I 81 22) x).2)) := by
  refine Ct.of (L := [some (.ref 81), some (.int 4), some (.int x), none]) rfl rfl (Nat.le_of_ble_eq_true rfl) ?_
  refine il1 (n := 1) dX9_jumpsIn_0 rfl ?_
  refine k_if_ne (t := 22) (n := 4) dX9_jumpsIn_1 (by decide) rfl (fun h1 => ?_) (fun h1 => ?_)
  · refine il1 (n := 23) dX9_jumpsIn_22 rfl ?_
    refine k_iconst (a := 2) (n := 24) dX9_jumpsIn_23 rfl rfl ?_
    refine k_icmp_ne (t := 52) (n := 27) dX9_jumpsIn_24 (by decide) rfl (fun h24 => ?_) (fun h24 => ?_)
    · refine il1 (n := 53) dX9_jumpsIn_52 rfl ?_
      refine k_iconst (a := 5) (n := 54) dX9_jumpsIn_53 rfl rfl ?_
      refine k_icmp_ne (t := 72) (n := 57) dX9_jumpsIn_54 (by decide) rfl (fun h54 => ?_) (fun h54 => ?_)
      · refine al0 (n := 73) dX9_jumpsIn_72 rfl ?_
        refine il1 (n := 74) dX9_jumpsIn_73 rfl ?_
        refine qiX9_83 (n := 77) dX9_jumpsIn_74 rfl rfl (Nat.le_of_ble_eq_true rfl) (by omega) (m_above _) (Nat.le_refl _) (Nat.le_refl _) ?_
        rw [show kAb 4 = 1 from rfl]
        refine il2 (n := 78) dX9_jumpsIn_77 rfl ?_
        refine qiX9_233 (n := 81) dX9_jumpsIn_78 rfl rfl (Nat.le_of_ble_eq_true rfl) (by omega) rfl (m_jumps_1 (by omega) n h20 (by omega) k hk h21 _) (Nat.le_refl _) (Nat.le_refl _) ?_
        refine k_ireturn (ty := .int) dX9_jumpsIn_81 rfl rfl (Nat.le_refl _) (Nat.le_refl _) ?_
        exact ⟨rfl, rfl⟩
      · exact absurd h54 (by decide)
    · exact absurd h24 (by decide)
  · exact absurd h1 (by decide)
set_option maxHeartbeats 2000000 in
set_option maxRecDepth 20000 in
theorem m_jumps_5 (hd : 6 ≤ d) (n : Nat) (h20 : I 81 20 = nI n) (hn : n + 8 ≤ 40) (k : Nat) (hk : k < 7) (h21 : I 81 21 = nI k) (x : Int32) : Ct E d mX9_jumpsIn 0 0 [.ref 81, .int 5, .int x] (kJ I) (kR (((vJ2 k (I 81 22) (I 81 23) (x + 1)).1, (60 : Int32) :: (vJ2 k (I 81 22) (I 81 23) (x + 1)).2)).1 (vL I n (((vJ2 k (I 81 22) (I 81 23) (x + 1)).1, (60 : Int32) :: (vJ2 k (I 81 22) (I 81 23) (x + 1)).2)).2)) := by
  refine Ct.of (L := [some (.ref 81), some (.int 5), some (.int x), none]) rfl rfl (Nat.le_of_ble_eq_true rfl) ?_
  refine il1 (n := 1) dX9_jumpsIn_0 rfl ?_
  refine k_if_ne (t := 22) (n := 4) dX9_jumpsIn_1 (by decide) rfl (fun h1 => ?_) (fun h1 => ?_)
  · refine il1 (n := 23) dX9_jumpsIn_22 rfl ?_
    refine k_iconst (a := 2) (n := 24) dX9_jumpsIn_23 rfl rfl ?_
    refine k_icmp_ne (t := 52) (n := 27) dX9_jumpsIn_24 (by decide) rfl (fun h24 => ?_) (fun h24 => ?_)
    · refine il1 (n := 53) dX9_jumpsIn_52 rfl ?_
      refine k_iconst (a := 5) (n := 54) dX9_jumpsIn_53 rfl rfl ?_
      refine k_icmp_ne (t := 72) (n := 57) dX9_jumpsIn_54 (by decide) rfl (fun h54 => ?_) (fun h54 => ?_)
      · exact absurd h54 (by decide)
      · refine al0 (n := 58) dX9_jumpsIn_57 rfl ?_
        refine k_bipush (a := 60) (n := 60) dX9_jumpsIn_58 rfl rfl ?_
        refine qiX9_215 (n := 63) dX9_jumpsIn_60 rfl rfl (Nat.le_of_ble_eq_true rfl) (by omega) rfl (m_ran n (by omega) h20 _) (Nat.le_refl _) (Nat.le_refl _) ?_
        refine al0 (n := 64) dX9_jumpsIn_63 rfl ?_
        refine k_iconst (a := 2) (n := 65) dX9_jumpsIn_64 rfl rfl ?_
        refine il2 (n := 66) dX9_jumpsIn_65 rfl ?_
        refine k_iconst (a := 1) (n := 67) dX9_jumpsIn_66 rfl rfl ?_
        refine k_iadd (n := 68) dX9_jumpsIn_67 rfl ?_
        refine qiX9_233 (n := 71) dX9_jumpsIn_68 rfl rfl (Nat.le_of_ble_eq_true rfl) (by omega) rfl (m_jumps_2 (by omega) (n + 1) (vA_20 I n 60) (by omega) k hk ((vA_ne I n 60 (show (21 : Nat) ≠ 20 by decide)).trans h21) _) (Nat.le_refl _) (Nat.le_refl _) ?_
        refine k_ireturn (ty := .int) dX9_jumpsIn_71 rfl rfl (Nat.le_refl _) (Nat.le_refl _) ?_
        exact ⟨by simp only [vA_ne _ _ _ (show (22 : Nat) ≠ 20 by decide), vA_ne _ _ _ (show (23 : Nat) ≠ 20 by decide), vL_ne (show (22 : Nat) ≠ 20 by decide), vL_ne (show (23 : Nat) ≠ 20 by decide)], by simp only [vA_ne _ _ _ (show (22 : Nat) ≠ 20 by decide), vA_ne _ _ _ (show (23 : Nat) ≠ 20 by decide), vL_ne (show (22 : Nat) ≠ 20 by decide), vL_ne (show (23 : Nat) ≠ 20 by decide)]; rfl⟩
    · exact absurd h24 (by decide)
  · exact absurd h1 (by decide)
set_option maxHeartbeats 2000000 in
set_option maxRecDepth 20000 in
theorem m_jumps_6 (hd : 6 ≤ d) (n : Nat) (h20 : I 81 20 = nI n) (hn : n + 3 ≤ 40) (k : Nat) (hk : k < 7) (h21 : I 81 21 = nI k) (x : Int32) : Ct E d mX9_jumpsIn 0 0 [.ref 81, .int 6, .int x] (kJ I) (kR (vJ0 k (I 81 22) x).1 (vL I n (vJ0 k (I 81 22) x).2)) := by
  refine Ct.of (L := [some (.ref 81), some (.int 6), some (.int x), none]) rfl rfl (Nat.le_of_ble_eq_true rfl) ?_
  refine il1 (n := 1) dX9_jumpsIn_0 rfl ?_
  refine k_if_ne (t := 22) (n := 4) dX9_jumpsIn_1 (by decide) rfl (fun h1 => ?_) (fun h1 => ?_)
  · refine il1 (n := 23) dX9_jumpsIn_22 rfl ?_
    refine k_iconst (a := 2) (n := 24) dX9_jumpsIn_23 rfl rfl ?_
    refine k_icmp_ne (t := 52) (n := 27) dX9_jumpsIn_24 (by decide) rfl (fun h24 => ?_) (fun h24 => ?_)
    · refine il1 (n := 53) dX9_jumpsIn_52 rfl ?_
      refine k_iconst (a := 5) (n := 54) dX9_jumpsIn_53 rfl rfl ?_
      refine k_icmp_ne (t := 72) (n := 57) dX9_jumpsIn_54 (by decide) rfl (fun h54 => ?_) (fun h54 => ?_)
      · refine al0 (n := 73) dX9_jumpsIn_72 rfl ?_
        refine il1 (n := 74) dX9_jumpsIn_73 rfl ?_
        refine qiX9_83 (n := 77) dX9_jumpsIn_74 rfl rfl (Nat.le_of_ble_eq_true rfl) (by omega) (m_above _) (Nat.le_refl _) (Nat.le_refl _) ?_
        rw [show kAb 6 = 3 from rfl]
        refine il2 (n := 78) dX9_jumpsIn_77 rfl ?_
        refine qiX9_233 (n := 81) dX9_jumpsIn_78 rfl rfl (Nat.le_of_ble_eq_true rfl) (by omega) rfl (m_jumps_3 (by omega) n h20 (by omega) k hk h21 _) (Nat.le_refl _) (Nat.le_refl _) ?_
        refine k_ireturn (ty := .int) dX9_jumpsIn_81 rfl rfl (Nat.le_refl _) (Nat.le_refl _) ?_
        exact ⟨rfl, rfl⟩
      · exact absurd h54 (by decide)
    · exact absurd h24 (by decide)
  · exact absurd h1 (by decide)
set_option maxHeartbeats 2000000 in
set_option maxRecDepth 20000 in
theorem m_jumps (hd : 6 ≤ d) (n : Nat) (h20 : I 81 20 = nI n) (hn : n + 8 ≤ 40) (k : Nat) (hk : k < 7) (h21 : I 81 21 = nI k) (c : Nat) (hc : c < 7) (x : Int32) : Ct E d mX9_jumpsIn 0 0 [.ref 81, .int (nI c), .int x] (kJ I) (kR (vJ k c (I 81 22) (I 81 23) x).1 (vL I n (vJ k c (I 81 22) (I 81 23) x).2)) := by
  rcases (show c = 0 ∨ c = 1 ∨ c = 2 ∨ c = 3 ∨ c = 4 ∨ c = 5 ∨ c = 6 by omega) with rfl | rfl | rfl | rfl | rfl | rfl | rfl
  · exact m_jumps_0 (by omega) n h20 (by omega) k hk h21 x
  · exact m_jumps_1 (by omega) n h20 (by omega) k hk h21 x
  · exact m_jumps_2 (by omega) n h20 (by omega) k hk h21 x
  · exact m_jumps_3 (by omega) n h20 (by omega) k hk h21 x
  · exact m_jumps_4 (by omega) n h20 (by omega) k hk h21 x
  · exact m_jumps_5 (by omega) n h20 (by omega) k hk h21 x
  · exact m_jumps_6 (by omega) n h20 (by omega) k hk h21 x
set_option maxHeartbeats 2000000 in
set_option maxRecDepth 20000 in
theorem m_runs_0 (hd : 7 ≤ d) (n : Nat) (h20 : I 81 20 = nI n) (hn : n + 12 ≤ 40) (k : Nat) (hk : k < 7) (h21 : I 81 21 = nI k) (x : Int32) : Ct E d mX9_runsIn 0 0 [.ref 81, .int 0, .int x] (kJ I) (kR (vR0 k (I 81 22) (I 81 23) x).1 (vL I n (vR0 k (I 81 22) (I 81 23) x).2)) := by
  refine Ct.of (L := [some (.ref 81), some (.int 0), some (.int x), none]) rfl rfl (Nat.le_of_ble_eq_true rfl) ?_
  refine il1 (n := 1) dX9_runsIn_0 rfl ?_
  refine k_if_ne (t := 32) (n := 4) dX9_runsIn_1 (by decide) rfl (fun h1 => ?_) (fun h1 => ?_)
  · exact absurd h1 (by decide)
  · refine al0 (n := 5) dX9_runsIn_4 rfl ?_
    refine k_bipush (a := 13) (n := 7) dX9_runsIn_5 rfl rfl ?_
    refine qiX9_215 (n := 10) dX9_runsIn_7 rfl rfl (Nat.le_of_ble_eq_true rfl) (by omega) rfl (m_ran n (by omega) h20 _) (Nat.le_refl _) (Nat.le_refl _) ?_
    refine al0 (n := 11) dX9_runsIn_10 rfl ?_
    refine al0 (n := 12) dX9_runsIn_11 rfl ?_
    refine gX9_230 (n := 15) dX9_runsIn_12 rfl rfl rfl ?_
    rw [vA_ne _ _ _ (show (21 : Nat) ≠ 20 by decide), h21]
    refine il2 (n := 16) dX9_runsIn_15 rfl ?_
    refine qiX9_233 (n := 19) dX9_runsIn_16 rfl rfl (Nat.le_of_ble_eq_true rfl) (by omega) rfl (m_jumps (by omega) (n + 1) (vA_20 I n 13) (by omega) k hk ((vA_ne I n 13 (show (21 : Nat) ≠ 20 by decide)).trans h21) k hk _) (Nat.le_refl _) (Nat.le_refl _) ?_
    refine is3 (n := 20) dX9_runsIn_19 rfl trivial ?_
    refine il3 (n := 21) dX9_runsIn_20 rfl ?_
    refine al0 (n := 22) dX9_runsIn_21 rfl ?_
    refine al0 (n := 23) dX9_runsIn_22 rfl ?_
    refine gX9_230 (n := 26) dX9_runsIn_23 rfl rfl rfl ?_
    rw [vL_ne (show (21 : Nat) ≠ 20 by decide), vA_ne _ _ _ (show (21 : Nat) ≠ 20 by decide), h21]
    refine il2 (n := 27) dX9_runsIn_26 rfl ?_
    refine qiX9_227 (n := 30) dX9_runsIn_27 rfl rfl (Nat.le_of_ble_eq_true rfl) (by omega) rfl (m_trips (by omega) (n + 1 + (vJ k k (vA I n 13 81 22) (vA I n 13 81 23) x).2.length) (vL_20 _ _ _ (vA_20 I n 13)) (by have := vJ_len k k (vA I n 13 81 22) (vA I n 13 81 23) x; omega) k hk _) (Nat.le_refl _) (Nat.le_refl _) ?_
    refine k_ixor (n := 31) dX9_runsIn_30 rfl ?_
    refine k_ireturn (ty := .int) dX9_runsIn_31 rfl rfl (Nat.le_refl _) (Nat.le_refl _) ?_
    exact ⟨by simp only [vR0, vA_ne _ _ _ (show (22 : Nat) ≠ 20 by decide), vA_ne _ _ _ (show (23 : Nat) ≠ 20 by decide), vL_ne (show (22 : Nat) ≠ 20 by decide), vL_ne (show (23 : Nat) ≠ 20 by decide)], by rw [vL_app]; simp only [vR0, vA_ne _ _ _ (show (22 : Nat) ≠ 20 by decide), vA_ne _ _ _ (show (23 : Nat) ≠ 20 by decide), vL_ne (show (22 : Nat) ≠ 20 by decide), vL_ne (show (23 : Nat) ≠ 20 by decide)]; rfl⟩
set_option maxHeartbeats 2000000 in
set_option maxRecDepth 20000 in
theorem m_runs_1 (hd : 8 ≤ d) (n : Nat) (h20 : I 81 20 = nI n) (hn : n + 12 ≤ 40) (k : Nat) (hk : k < 7) (h21 : I 81 21 = nI k) (x : Int32) : Ct E d mX9_runsIn 0 0 [.ref 81, .int 1, .int x] (kJ I) (kR (vR0 k (I 81 22) (I 81 23) x).1 (vL I n (vR0 k (I 81 22) (I 81 23) x).2)) := by
  refine Ct.of (L := [some (.ref 81), some (.int 1), some (.int x), none]) rfl rfl (Nat.le_of_ble_eq_true rfl) ?_
  refine il1 (n := 1) dX9_runsIn_0 rfl ?_
  refine k_if_ne (t := 32) (n := 4) dX9_runsIn_1 (by decide) rfl (fun h1 => ?_) (fun h1 => ?_)
  · refine il1 (n := 33) dX9_runsIn_32 rfl ?_
    refine k_iconst (a := 4) (n := 34) dX9_runsIn_33 rfl rfl ?_
    refine k_icmp_ne (t := 62) (n := 37) dX9_runsIn_34 (by decide) rfl (fun h34 => ?_) (fun h34 => ?_)
    · refine il1 (n := 63) dX9_runsIn_62 rfl ?_
      refine k_bipush (a := 6) (n := 65) dX9_runsIn_63 rfl rfl ?_
      refine k_icmp_ne (t := 93) (n := 68) dX9_runsIn_65 (by decide) rfl (fun h65 => ?_) (fun h65 => ?_)
      · refine al0 (n := 94) dX9_runsIn_93 rfl ?_
        refine il1 (n := 95) dX9_runsIn_94 rfl ?_
        refine qiX9_83 (n := 98) dX9_runsIn_95 rfl rfl (Nat.le_of_ble_eq_true rfl) (by omega) (m_above _) (Nat.le_refl _) (Nat.le_refl _) ?_
        rw [show kAb 1 = 0 from rfl]
        refine il2 (n := 99) dX9_runsIn_98 rfl ?_
        refine qiX9_236 (n := 102) dX9_runsIn_99 rfl rfl (Nat.le_of_ble_eq_true rfl) (by omega) rfl (m_runs_0 (by omega) n h20 (by omega) k hk h21 _) (Nat.le_refl _) (Nat.le_refl _) ?_
        refine k_ireturn (ty := .int) dX9_runsIn_102 rfl rfl (Nat.le_refl _) (Nat.le_refl _) ?_
        exact ⟨rfl, rfl⟩
      · exact absurd h65 (by decide)
    · exact absurd h34 (by decide)
  · exact absurd h1 (by decide)
set_option maxHeartbeats 2000000 in
set_option maxRecDepth 20000 in
theorem m_runs_2 (hd : 8 ≤ d) (n : Nat) (h20 : I 81 20 = nI n) (hn : n + 12 ≤ 40) (k : Nat) (hk : k < 7) (h21 : I 81 21 = nI k) (x : Int32) : Ct E d mX9_runsIn 0 0 [.ref 81, .int 2, .int x] (kJ I) (kR (vR0 k (I 81 22) (I 81 23) x).1 (vL I n (vR0 k (I 81 22) (I 81 23) x).2)) := by
  refine Ct.of (L := [some (.ref 81), some (.int 2), some (.int x), none]) rfl rfl (Nat.le_of_ble_eq_true rfl) ?_
  refine il1 (n := 1) dX9_runsIn_0 rfl ?_
  refine k_if_ne (t := 32) (n := 4) dX9_runsIn_1 (by decide) rfl (fun h1 => ?_) (fun h1 => ?_)
  · refine il1 (n := 33) dX9_runsIn_32 rfl ?_
    refine k_iconst (a := 4) (n := 34) dX9_runsIn_33 rfl rfl ?_
    refine k_icmp_ne (t := 62) (n := 37) dX9_runsIn_34 (by decide) rfl (fun h34 => ?_) (fun h34 => ?_)
    · refine il1 (n := 63) dX9_runsIn_62 rfl ?_
      refine k_bipush (a := 6) (n := 65) dX9_runsIn_63 rfl rfl ?_
      refine k_icmp_ne (t := 93) (n := 68) dX9_runsIn_65 (by decide) rfl (fun h65 => ?_) (fun h65 => ?_)
      · refine al0 (n := 94) dX9_runsIn_93 rfl ?_
        refine il1 (n := 95) dX9_runsIn_94 rfl ?_
        refine qiX9_83 (n := 98) dX9_runsIn_95 rfl rfl (Nat.le_of_ble_eq_true rfl) (by omega) (m_above _) (Nat.le_refl _) (Nat.le_refl _) ?_
        rw [show kAb 2 = 0 from rfl]
        refine il2 (n := 99) dX9_runsIn_98 rfl ?_
        refine qiX9_236 (n := 102) dX9_runsIn_99 rfl rfl (Nat.le_of_ble_eq_true rfl) (by omega) rfl (m_runs_0 (by omega) n h20 (by omega) k hk h21 _) (Nat.le_refl _) (Nat.le_refl _) ?_
        refine k_ireturn (ty := .int) dX9_runsIn_102 rfl rfl (Nat.le_refl _) (Nat.le_refl _) ?_
        exact ⟨rfl, rfl⟩
      · exact absurd h65 (by decide)
    · exact absurd h34 (by decide)
  · exact absurd h1 (by decide)
set_option maxHeartbeats 2000000 in
set_option maxRecDepth 20000 in
theorem m_runs_3 (hd : 8 ≤ d) (n : Nat) (h20 : I 81 20 = nI n) (hn : n + 12 ≤ 40) (k : Nat) (hk : k < 7) (h21 : I 81 21 = nI k) (x : Int32) : Ct E d mX9_runsIn 0 0 [.ref 81, .int 3, .int x] (kJ I) (kR (vR0 k (I 81 22) (I 81 23) x).1 (vL I n (vR0 k (I 81 22) (I 81 23) x).2)) := by
  refine Ct.of (L := [some (.ref 81), some (.int 3), some (.int x), none]) rfl rfl (Nat.le_of_ble_eq_true rfl) ?_
  refine il1 (n := 1) dX9_runsIn_0 rfl ?_
  refine k_if_ne (t := 32) (n := 4) dX9_runsIn_1 (by decide) rfl (fun h1 => ?_) (fun h1 => ?_)
  · refine il1 (n := 33) dX9_runsIn_32 rfl ?_
    refine k_iconst (a := 4) (n := 34) dX9_runsIn_33 rfl rfl ?_
    refine k_icmp_ne (t := 62) (n := 37) dX9_runsIn_34 (by decide) rfl (fun h34 => ?_) (fun h34 => ?_)
    · refine il1 (n := 63) dX9_runsIn_62 rfl ?_
      refine k_bipush (a := 6) (n := 65) dX9_runsIn_63 rfl rfl ?_
      refine k_icmp_ne (t := 93) (n := 68) dX9_runsIn_65 (by decide) rfl (fun h65 => ?_) (fun h65 => ?_)
      · refine al0 (n := 94) dX9_runsIn_93 rfl ?_
        refine il1 (n := 95) dX9_runsIn_94 rfl ?_
        refine qiX9_83 (n := 98) dX9_runsIn_95 rfl rfl (Nat.le_of_ble_eq_true rfl) (by omega) (m_above _) (Nat.le_refl _) (Nat.le_refl _) ?_
        rw [show kAb 3 = 0 from rfl]
        refine il2 (n := 99) dX9_runsIn_98 rfl ?_
        refine qiX9_236 (n := 102) dX9_runsIn_99 rfl rfl (Nat.le_of_ble_eq_true rfl) (by omega) rfl (m_runs_0 (by omega) n h20 (by omega) k hk h21 _) (Nat.le_refl _) (Nat.le_refl _) ?_
        refine k_ireturn (ty := .int) dX9_runsIn_102 rfl rfl (Nat.le_refl _) (Nat.le_refl _) ?_
        exact ⟨rfl, rfl⟩
      · exact absurd h65 (by decide)
    · exact absurd h34 (by decide)
  · exact absurd h1 (by decide)
set_option maxHeartbeats 2000000 in
set_option maxRecDepth 20000 in
theorem m_runs_4 (hd : 9 ≤ d) (n : Nat) (h20 : I 81 20 = nI n) (hn : n + 15 ≤ 40) (k : Nat) (hk : k < 7) (h21 : I 81 21 = nI k) (x : Int32) : Ct E d mX9_runsIn 0 0 [.ref 81, .int 4, .int x] (kJ I) (kR (((vR0 k (I 81 22) (I 81 23) x).1 - (vC k (I 81 22) 2).1, (50 : Int32) :: ((vR0 k (I 81 22) (I 81 23) x).2 ++ (vC k (I 81 22) 2).2))).1 (vL I n (((vR0 k (I 81 22) (I 81 23) x).1 - (vC k (I 81 22) 2).1, (50 : Int32) :: ((vR0 k (I 81 22) (I 81 23) x).2 ++ (vC k (I 81 22) 2).2))).2)) := by
  refine Ct.of (L := [some (.ref 81), some (.int 4), some (.int x), none]) rfl rfl (Nat.le_of_ble_eq_true rfl) ?_
  refine il1 (n := 1) dX9_runsIn_0 rfl ?_
  refine k_if_ne (t := 32) (n := 4) dX9_runsIn_1 (by decide) rfl (fun h1 => ?_) (fun h1 => ?_)
  · refine il1 (n := 33) dX9_runsIn_32 rfl ?_
    refine k_iconst (a := 4) (n := 34) dX9_runsIn_33 rfl rfl ?_
    refine k_icmp_ne (t := 62) (n := 37) dX9_runsIn_34 (by decide) rfl (fun h34 => ?_) (fun h34 => ?_)
    · exact absurd h34 (by decide)
    · refine al0 (n := 38) dX9_runsIn_37 rfl ?_
      refine k_bipush (a := 50) (n := 40) dX9_runsIn_38 rfl rfl ?_
      refine qiX9_215 (n := 43) dX9_runsIn_40 rfl rfl (Nat.le_of_ble_eq_true rfl) (by omega) rfl (m_ran n (by omega) h20 _) (Nat.le_refl _) (Nat.le_refl _) ?_
      refine al0 (n := 44) dX9_runsIn_43 rfl ?_
      refine k_iconst (a := 1) (n := 45) dX9_runsIn_44 rfl rfl ?_
      refine il2 (n := 46) dX9_runsIn_45 rfl ?_
      refine qiX9_236 (n := 49) dX9_runsIn_46 rfl rfl (Nat.le_of_ble_eq_true rfl) (by omega) rfl (m_runs_1 (by omega) (n + 1) (vA_20 I n 50) (by omega) k hk ((vA_ne I n 50 (show (21 : Nat) ≠ 20 by decide)).trans h21) _) (Nat.le_refl _) (Nat.le_refl _) ?_
      refine is3 (n := 50) dX9_runsIn_49 rfl trivial ?_
      refine il3 (n := 51) dX9_runsIn_50 rfl ?_
      refine al0 (n := 52) dX9_runsIn_51 rfl ?_
      refine al0 (n := 53) dX9_runsIn_52 rfl ?_
      refine gX9_230 (n := 56) dX9_runsIn_53 rfl rfl rfl ?_
      rw [vL_ne (show (21 : Nat) ≠ 20 by decide), vA_ne _ _ _ (show (21 : Nat) ≠ 20 by decide), h21]
      refine k_iconst (a := 2) (n := 57) dX9_runsIn_56 rfl rfl ?_
      refine qiX9_221 (n := 60) dX9_runsIn_57 rfl rfl (Nat.le_of_ble_eq_true rfl) (by omega) rfl (m_counts (by omega) (n + 1 + (vR0 k (vA I n 50 81 22) (vA I n 50 81 23) x).2.length) (vL_20 _ _ _ (vA_20 I n 50)) (by have := vR0_len k (vA I n 50 81 22) (vA I n 50 81 23) x; omega) k hk _) (Nat.le_refl _) (Nat.le_refl _) ?_
      refine k_isub (n := 61) dX9_runsIn_60 rfl ?_
      refine k_ireturn (ty := .int) dX9_runsIn_61 rfl rfl (Nat.le_refl _) (Nat.le_refl _) ?_
      exact ⟨by simp only [vA_ne _ _ _ (show (22 : Nat) ≠ 20 by decide), vA_ne _ _ _ (show (23 : Nat) ≠ 20 by decide), vL_ne (show (22 : Nat) ≠ 20 by decide), vL_ne (show (23 : Nat) ≠ 20 by decide)], by rw [vL_app]; simp only [vA_ne _ _ _ (show (22 : Nat) ≠ 20 by decide), vA_ne _ _ _ (show (23 : Nat) ≠ 20 by decide), vL_ne (show (22 : Nat) ≠ 20 by decide), vL_ne (show (23 : Nat) ≠ 20 by decide)]; rfl⟩
  · exact absurd h1 (by decide)
set_option maxHeartbeats 2000000 in
set_option maxRecDepth 20000 in
theorem m_runs_5 (hd : 9 ≤ d) (n : Nat) (h20 : I 81 20 = nI n) (hn : n + 12 ≤ 40) (k : Nat) (hk : k < 7) (h21 : I 81 21 = nI k) (x : Int32) : Ct E d mX9_runsIn 0 0 [.ref 81, .int 5, .int x] (kJ I) (kR (vR0 k (I 81 22) (I 81 23) x).1 (vL I n (vR0 k (I 81 22) (I 81 23) x).2)) := by
  refine Ct.of (L := [some (.ref 81), some (.int 5), some (.int x), none]) rfl rfl (Nat.le_of_ble_eq_true rfl) ?_
  refine il1 (n := 1) dX9_runsIn_0 rfl ?_
  refine k_if_ne (t := 32) (n := 4) dX9_runsIn_1 (by decide) rfl (fun h1 => ?_) (fun h1 => ?_)
  · refine il1 (n := 33) dX9_runsIn_32 rfl ?_
    refine k_iconst (a := 4) (n := 34) dX9_runsIn_33 rfl rfl ?_
    refine k_icmp_ne (t := 62) (n := 37) dX9_runsIn_34 (by decide) rfl (fun h34 => ?_) (fun h34 => ?_)
    · refine il1 (n := 63) dX9_runsIn_62 rfl ?_
      refine k_bipush (a := 6) (n := 65) dX9_runsIn_63 rfl rfl ?_
      refine k_icmp_ne (t := 93) (n := 68) dX9_runsIn_65 (by decide) rfl (fun h65 => ?_) (fun h65 => ?_)
      · refine al0 (n := 94) dX9_runsIn_93 rfl ?_
        refine il1 (n := 95) dX9_runsIn_94 rfl ?_
        refine qiX9_83 (n := 98) dX9_runsIn_95 rfl rfl (Nat.le_of_ble_eq_true rfl) (by omega) (m_above _) (Nat.le_refl _) (Nat.le_refl _) ?_
        rw [show kAb 5 = 2 from rfl]
        refine il2 (n := 99) dX9_runsIn_98 rfl ?_
        refine qiX9_236 (n := 102) dX9_runsIn_99 rfl rfl (Nat.le_of_ble_eq_true rfl) (by omega) rfl (m_runs_2 (by omega) n h20 (by omega) k hk h21 _) (Nat.le_refl _) (Nat.le_refl _) ?_
        refine k_ireturn (ty := .int) dX9_runsIn_102 rfl rfl (Nat.le_refl _) (Nat.le_refl _) ?_
        exact ⟨rfl, rfl⟩
      · exact absurd h65 (by decide)
    · exact absurd h34 (by decide)
  · exact absurd h1 (by decide)
set_option maxHeartbeats 2000000 in
set_option maxRecDepth 20000 in
theorem m_runs_6 (hd : 9 ≤ d) (n : Nat) (h20 : I 81 20 = nI n) (hn : n + 21 ≤ 40) (k : Nat) (hk : k < 7) (h21 : I 81 21 = nI k) (x : Int32) : Ct E d mX9_runsIn 0 0 [.ref 81, .int 6, .int x] (kJ I) (kR (((vJ k k (I 81 22) (I 81 23) x).1 - (vR0 k (I 81 22) (I 81 23) x).1, (71 : Int32) :: ((vJ k k (I 81 22) (I 81 23) x).2 ++ (vR0 k (I 81 22) (I 81 23) x).2))).1 (vL I n (((vJ k k (I 81 22) (I 81 23) x).1 - (vR0 k (I 81 22) (I 81 23) x).1, (71 : Int32) :: ((vJ k k (I 81 22) (I 81 23) x).2 ++ (vR0 k (I 81 22) (I 81 23) x).2))).2)) := by
  refine Ct.of (L := [some (.ref 81), some (.int 6), some (.int x), none]) rfl rfl (Nat.le_of_ble_eq_true rfl) ?_
  refine il1 (n := 1) dX9_runsIn_0 rfl ?_
  refine k_if_ne (t := 32) (n := 4) dX9_runsIn_1 (by decide) rfl (fun h1 => ?_) (fun h1 => ?_)
  · refine il1 (n := 33) dX9_runsIn_32 rfl ?_
    refine k_iconst (a := 4) (n := 34) dX9_runsIn_33 rfl rfl ?_
    refine k_icmp_ne (t := 62) (n := 37) dX9_runsIn_34 (by decide) rfl (fun h34 => ?_) (fun h34 => ?_)
    · refine il1 (n := 63) dX9_runsIn_62 rfl ?_
      refine k_bipush (a := 6) (n := 65) dX9_runsIn_63 rfl rfl ?_
      refine k_icmp_ne (t := 93) (n := 68) dX9_runsIn_65 (by decide) rfl (fun h65 => ?_) (fun h65 => ?_)
      · exact absurd h65 (by decide)
      · refine al0 (n := 69) dX9_runsIn_68 rfl ?_
        refine k_bipush (a := 71) (n := 71) dX9_runsIn_69 rfl rfl ?_
        refine qiX9_215 (n := 74) dX9_runsIn_71 rfl rfl (Nat.le_of_ble_eq_true rfl) (by omega) rfl (m_ran n (by omega) h20 _) (Nat.le_refl _) (Nat.le_refl _) ?_
        refine al0 (n := 75) dX9_runsIn_74 rfl ?_
        refine al0 (n := 76) dX9_runsIn_75 rfl ?_
        refine gX9_230 (n := 79) dX9_runsIn_76 rfl rfl rfl ?_
        rw [vA_ne _ _ _ (show (21 : Nat) ≠ 20 by decide), h21]
        refine il2 (n := 80) dX9_runsIn_79 rfl ?_
        refine qiX9_233 (n := 83) dX9_runsIn_80 rfl rfl (Nat.le_of_ble_eq_true rfl) (by omega) rfl (m_jumps (by omega) (n + 1) (vA_20 I n 71) (by omega) k hk ((vA_ne I n 71 (show (21 : Nat) ≠ 20 by decide)).trans h21) k hk _) (Nat.le_refl _) (Nat.le_refl _) ?_
        refine is3 (n := 84) dX9_runsIn_83 rfl trivial ?_
        refine il3 (n := 85) dX9_runsIn_84 rfl ?_
        refine al0 (n := 86) dX9_runsIn_85 rfl ?_
        refine k_iconst (a := 3) (n := 87) dX9_runsIn_86 rfl rfl ?_
        refine il2 (n := 88) dX9_runsIn_87 rfl ?_
        refine qiX9_236 (n := 91) dX9_runsIn_88 rfl rfl (Nat.le_of_ble_eq_true rfl) (by omega) rfl (m_runs_3 (by omega) (n + 1 + (vJ k k (vA I n 71 81 22) (vA I n 71 81 23) x).2.length) (vL_20 _ _ _ (vA_20 I n 71)) (by have := vJ_len k k (vA I n 71 81 22) (vA I n 71 81 23) x; omega) k hk ((vL_ne (show (21 : Nat) ≠ 20 by decide) _ _ _).trans ((vA_ne I n 71 (show (21 : Nat) ≠ 20 by decide)).trans h21)) _) (Nat.le_refl _) (Nat.le_refl _) ?_
        refine k_isub (n := 92) dX9_runsIn_91 rfl ?_
        refine k_ireturn (ty := .int) dX9_runsIn_92 rfl rfl (Nat.le_refl _) (Nat.le_refl _) ?_
        exact ⟨by simp only [vA_ne _ _ _ (show (22 : Nat) ≠ 20 by decide), vA_ne _ _ _ (show (23 : Nat) ≠ 20 by decide), vL_ne (show (22 : Nat) ≠ 20 by decide), vL_ne (show (23 : Nat) ≠ 20 by decide)], by rw [vL_app]; simp only [vA_ne _ _ _ (show (22 : Nat) ≠ 20 by decide), vA_ne _ _ _ (show (23 : Nat) ≠ 20 by decide), vL_ne (show (22 : Nat) ≠ 20 by decide), vL_ne (show (23 : Nat) ≠ 20 by decide)]; rfl⟩
    · exact absurd h34 (by decide)
  · exact absurd h1 (by decide)
set_option maxHeartbeats 2000000 in
set_option maxRecDepth 20000 in
theorem m_runs (hd : 9 ≤ d) (n : Nat) (h20 : I 81 20 = nI n) (hn : n + 21 ≤ 40) (k : Nat) (hk : k < 7) (h21 : I 81 21 = nI k) (c : Nat) (hc : c < 7) (x : Int32) : Ct E d mX9_runsIn 0 0 [.ref 81, .int (nI c), .int x] (kJ I) (kR (vRu k c (I 81 22) (I 81 23) x).1 (vL I n (vRu k c (I 81 22) (I 81 23) x).2)) := by
  rcases (show c = 0 ∨ c = 1 ∨ c = 2 ∨ c = 3 ∨ c = 4 ∨ c = 5 ∨ c = 6 by omega) with rfl | rfl | rfl | rfl | rfl | rfl | rfl
  · exact m_runs_0 (by omega) n h20 (by omega) k hk h21 x
  · exact m_runs_1 (by omega) n h20 (by omega) k hk h21 x
  · exact m_runs_2 (by omega) n h20 (by omega) k hk h21 x
  · exact m_runs_3 (by omega) n h20 (by omega) k hk h21 x
  · exact m_runs_4 (by omega) n h20 (by omega) k hk h21 x
  · exact m_runs_5 (by omega) n h20 (by omega) k hk h21 x
  · exact m_runs_6 (by omega) n h20 (by omega) k hk h21 x
def vAct (a k : Nat) (N M x : Int32) : vR := if a = 0 then vC k N x else if a = 1 then vJ k k N M x else if a = 2 then vT k N M x else vRu k k N M x
theorem vAct_0 (k : Nat) (N M x : Int32) : vAct 0 k N M x = vC k N x := rfl
theorem vAct_1 (k : Nat) (N M x : Int32) : vAct 1 k N M x = vJ k k N M x := rfl
theorem vAct_2 (k : Nat) (N M x : Int32) : vAct 2 k N M x = vT k N M x := rfl
theorem vAct_3 (k : Nat) (N M x : Int32) : vAct 3 k N M x = vRu k k N M x := rfl
def vO (I : Nat → Nat → Int32) (k N M : Int32) : Nat → Int32 := upd (upd (upd (upd (I 81) 20 0) 21 k) 22 N) 23 M
def s_voice (I : Nat → Nat → Int32) (r : Nat → Int32) (v a x : Int32) : Int32 × (Nat → Nat → Int32) :=
  if 0 ≤ v ∧ v ≤ r 9 - 1 then (if 0 ≤ a ∧ a ≤ 3 then
    ((vAct a.toNatClampNeg (r (29 + 7 * v.toNatClampNeg)).toNatClampNeg v (r (29 + 7 * v.toNatClampNeg + 1)) x).1, vL (kset (kset I 81 (vO I (r (29 + 7 * v.toNatClampNeg)) v (r (29 + 7 * v.toNatClampNeg + 1)))) 82 r) 0 (vAct a.toNatClampNeg (r (29 + 7 * v.toNatClampNeg)).toNatClampNeg v (r (29 + 7 * v.toNatClampNeg + 1)) x).2)
    else (-1000000001, ker (kset I 82 r) 1)) else (-1000000001, ker (kset I 82 r) 1)
set_option maxHeartbeats 2000000 in
set_option maxRecDepth 20000 in
theorem m_voice (hd : 10 ≤ d) (hR : RI r) (v a x : Int32) : Ct E d mX9_voice 0 0 [.ref 81, .int v, .int a, .int x] (kJ (kset I 82 r)) (kR (s_voice I r v a x).1 (s_voice I r v a x).2) := by
  refine Ct.of (L := [some (.ref 81), some (.int v), some (.int a), some (.int x)]) rfl rfl (Nat.le_of_ble_eq_true rfl) ?_
  refine al0 (n := 1) dX9_voice_0 rfl ?_
  refine il1 (n := 2) dX9_voice_1 rfl ?_
  refine qiX9_67 (n := 5) dX9_voice_2 rfl rfl (Nat.le_of_ble_eq_true rfl) (by omega) rfl (m_isCrosser (by omega) _) (Nat.le_refl _) (Nat.le_refl _) ?_
  refine k_ifb_eq (t := 17) (n := 8) dX9_voice_5 (by decide) rfl (fun h5 => ?_) (fun h5 => ?_)
  · refine al0 (n := 18) dX9_voice_17 rfl ?_
    refine cX9_45 (n := 20) dX9_voice_18 rfl rfl ?_
    refine qiX9_46 (n := 23) dX9_voice_20 rfl rfl (Nat.le_of_ble_eq_true rfl) (by omega) rfl (m_errs 1 _ (by decide) rfl) (Nat.le_refl _) (Nat.le_refl _) ?_
    refine k_ireturn (ty := .int) dX9_voice_23 rfl rfl (Nat.le_refl _) (Nat.le_refl _) ?_
    first
      | (refine ⟨?_, ?_⟩ <;> simp only [s_voice, hk, e22, e23, kcl (show k < 1000 by omega), vAct_0, vAct_1, vAct_2, vAct_3, kset_comm I _ _ (show (81 : Nat) ≠ 82 by decide), if_neg h5])
      | (refine ⟨?_, ?_⟩ <;> simp only [s_voice, if_neg h5])
  · obtain ⟨j, hj, rfl⟩ := kixC hR h5
    refine il2 (n := 9) dX9_voice_8 rfl ?_
    refine k_iconst (a := 0) (n := 10) dX9_voice_9 rfl rfl ?_
    refine k_iconst (a := 3) (n := 11) dX9_voice_10 rfl rfl ?_
    refine qiX9_41 (n := 14) dX9_voice_11 rfl rfl (Nat.le_of_ble_eq_true rfl) (by omega) (m_in _ _ _) (Nat.le_refl _) (Nat.le_refl _) ?_
    refine k_ifb_ne (t := 24) (n := 17) dX9_voice_14 (by decide) rfl (fun h14 => ?_) (fun h14 => ?_)
    · obtain ⟨c, hc0, hc, rfl⟩ := kbt (a := 0) (b := 3) h14 (by decide) (by decide)
      obtain ⟨k, hk, hk7⟩ := hR.kind hj
      have ek : (r (29 + 7 * j)).toNatClampNeg = k := by rw [hk]; exact kcl (by omega)
      refine al0 (n := 25) dX9_voice_24 rfl ?_
      refine k_iconst (a := 0) (n := 26) dX9_voice_25 rfl rfl ?_
      refine pX9_212 (n := 29) dX9_voice_26 rfl rfl rfl ?_
      rw [kset_ne _ _ (show (81 : Nat) ≠ 82 by decide)]
      refine al0 (n := 30) dX9_voice_29 rfl ?_
      refine al0 (n := 31) dX9_voice_30 rfl ?_
      refine il1 (n := 32) dX9_voice_31 rfl ?_
      refine k_iconst (a := 0) (n := 33) dX9_voice_32 rfl rfl ?_
      rw [kset_comm _ _ _ (show (82 : Nat) ≠ 81 by decide)]
      refine qiX9_80 (n := 36) dX9_voice_33 rfl rfl (Nat.le_of_ble_eq_true rfl) (by omega) rfl (m_its j 0 hj (by decide)) (Nat.le_refl _) (Nat.le_refl _) ?_
      rw [Nat.add_zero (29 + 7 * j)]
      rw [kset_comm _ _ _ (show (81 : Nat) ≠ 82 by decide)]
      rw [hk]
      refine psX9_230 (n := 39) dX9_voice_36 rfl rfl rfl ?_
      refine al0 (n := 40) dX9_voice_39 rfl ?_
      refine il1 (n := 41) dX9_voice_40 rfl ?_
      refine psX9_218 (n := 44) dX9_voice_41 rfl rfl rfl ?_
      refine al0 (n := 45) dX9_voice_44 rfl ?_
      refine al0 (n := 46) dX9_voice_45 rfl ?_
      refine il1 (n := 47) dX9_voice_46 rfl ?_
      refine k_iconst (a := 1) (n := 48) dX9_voice_47 rfl rfl ?_
      rw [kset_comm _ _ _ (show (82 : Nat) ≠ 81 by decide)]
      refine qiX9_80 (n := 51) dX9_voice_48 rfl rfl (Nat.le_of_ble_eq_true rfl) (by omega) rfl (m_its j 1 hj (by decide)) (Nat.le_refl _) (Nat.le_refl _) ?_
      rw [kset_comm _ _ _ (show (81 : Nat) ≠ 82 by decide)]
      refine psX9_224 (n := 54) dX9_voice_51 rfl rfl rfl ?_
      have e20 : (kset (kset I 82 r) 81 (vO I (nI k) (nI j) (r (29 + 7 * j + 1)))) 81 20 = nI 0 := by rw [kset_same]; rfl
      have e21 : (kset (kset I 82 r) 81 (vO I (nI k) (nI j) (r (29 + 7 * j + 1)))) 81 21 = nI k := by rw [kset_same]; rfl
      have e22 : (kset (kset I 82 r) 81 (vO I (nI k) (nI j) (r (29 + 7 * j + 1)))) 81 22 = nI j := by rw [kset_same]; rfl
      have e23 : (kset (kset I 82 r) 81 (vO I (nI k) (nI j) (r (29 + 7 * j + 1)))) 81 23 = r (29 + 7 * j + 1) := by rw [kset_same]; rfl
      show Wd E d mX9_voice 0 0 0 0 54 _ _ (kJ (kset (kset I 82 r) 81 (vO I (nI k) (nI j) (r (29 + 7 * j + 1))))) _
      refine il2 (n := 55) dX9_voice_54 rfl ?_
      rcases (show c = 0 ∨ c = 1 ∨ c = 2 ∨ c = 3 by omega) with rfl | rfl | rfl | rfl
      · refine k_swIn (t := 80) (off := 25) dX9_voice_55 (by decide) (by decide) (by decide) (by decide) ?_
        refine al0 (n := 81) dX9_voice_80 rfl ?_
        refine al0 (n := 82) dX9_voice_81 rfl ?_
        refine gsX9_230 (n := 85) dX9_voice_82 rfl rfl rfl ?_
        rw [show vO I (nI k) (nI j) (r (29 + 7 * j + 1)) 21 = nI k from rfl]
        refine il3 (n := 86) dX9_voice_85 rfl ?_
        refine qiX9_221 (n := 89) dX9_voice_86 rfl rfl (Nat.le_of_ble_eq_true rfl) (by omega) rfl (m_counts (I := (kset (kset I 82 r) 81 (vO I (nI k) (nI j) (r (29 + 7 * j + 1))))) (by omega) 0 e20 (by omega) k hk7 _) (Nat.le_refl _) (Nat.le_refl _) ?_
        refine k_ireturn (ty := .int) dX9_voice_89 rfl rfl (Nat.le_refl _) (Nat.le_refl _) ?_
        first
          | (refine ⟨?_, ?_⟩ <;> simp only [s_voice, hk, e22, e23, kcl (show k < 1000 by omega), vAct_0, vAct_1, vAct_2, vAct_3, kset_comm I _ _ (show (81 : Nat) ≠ 82 by decide), if_pos h5, kcl (show j < 1000 by omega), if_pos h14, kcl (show (0 : Nat) < 1000 by decide), if_neg (show ¬ nI 0 = 99 by decide)])
          | (refine ⟨?_, ?_⟩ <;> simp only [s_voice, if_pos h5, kcl (show j < 1000 by omega), if_pos h14, kcl (show (0 : Nat) < 1000 by decide), if_neg (show ¬ nI 0 = 99 by decide)])
      · refine k_swIn (t := 90) (off := 35) dX9_voice_55 (by decide) (by decide) (by decide) (by decide) ?_
        refine al0 (n := 91) dX9_voice_90 rfl ?_
        refine al0 (n := 92) dX9_voice_91 rfl ?_
        refine gsX9_230 (n := 95) dX9_voice_92 rfl rfl rfl ?_
        rw [show vO I (nI k) (nI j) (r (29 + 7 * j + 1)) 21 = nI k from rfl]
        refine il3 (n := 96) dX9_voice_95 rfl ?_
        refine qiX9_233 (n := 99) dX9_voice_96 rfl rfl (Nat.le_of_ble_eq_true rfl) (by omega) rfl (m_jumps (I := (kset (kset I 82 r) 81 (vO I (nI k) (nI j) (r (29 + 7 * j + 1))))) (by omega) 0 e20 (by omega) k hk7 e21 k hk7 _) (Nat.le_refl _) (Nat.le_refl _) ?_
        refine k_ireturn (ty := .int) dX9_voice_99 rfl rfl (Nat.le_refl _) (Nat.le_refl _) ?_
        first
          | (refine ⟨?_, ?_⟩ <;> simp only [s_voice, hk, e22, e23, kcl (show k < 1000 by omega), vAct_0, vAct_1, vAct_2, vAct_3, kset_comm I _ _ (show (81 : Nat) ≠ 82 by decide), if_pos h5, kcl (show j < 1000 by omega), if_pos h14, kcl (show (1 : Nat) < 1000 by decide), if_neg (show ¬ nI 1 = 99 by decide)])
          | (refine ⟨?_, ?_⟩ <;> simp only [s_voice, if_pos h5, kcl (show j < 1000 by omega), if_pos h14, kcl (show (1 : Nat) < 1000 by decide), if_neg (show ¬ nI 1 = 99 by decide)])
      · refine k_swIn (t := 100) (off := 45) dX9_voice_55 (by decide) (by decide) (by decide) (by decide) ?_
        refine al0 (n := 101) dX9_voice_100 rfl ?_
        refine al0 (n := 102) dX9_voice_101 rfl ?_
        refine gsX9_230 (n := 105) dX9_voice_102 rfl rfl rfl ?_
        rw [show vO I (nI k) (nI j) (r (29 + 7 * j + 1)) 21 = nI k from rfl]
        refine il3 (n := 106) dX9_voice_105 rfl ?_
        refine qiX9_227 (n := 109) dX9_voice_106 rfl rfl (Nat.le_of_ble_eq_true rfl) (by omega) rfl (m_trips (I := (kset (kset I 82 r) 81 (vO I (nI k) (nI j) (r (29 + 7 * j + 1))))) (by omega) 0 e20 (by omega) k hk7 _) (Nat.le_refl _) (Nat.le_refl _) ?_
        refine k_ireturn (ty := .int) dX9_voice_109 rfl rfl (Nat.le_refl _) (Nat.le_refl _) ?_
        first
          | (refine ⟨?_, ?_⟩ <;> simp only [s_voice, hk, e22, e23, kcl (show k < 1000 by omega), vAct_0, vAct_1, vAct_2, vAct_3, kset_comm I _ _ (show (81 : Nat) ≠ 82 by decide), if_pos h5, kcl (show j < 1000 by omega), if_pos h14, kcl (show (2 : Nat) < 1000 by decide), if_neg (show ¬ nI 2 = 99 by decide)])
          | (refine ⟨?_, ?_⟩ <;> simp only [s_voice, if_pos h5, kcl (show j < 1000 by omega), if_pos h14, kcl (show (2 : Nat) < 1000 by decide), if_neg (show ¬ nI 2 = 99 by decide)])
      · refine k_swOut (t := 110) dX9_voice_55 (Or.inr (by decide)) (by decide) ?_
        refine al0 (n := 111) dX9_voice_110 rfl ?_
        refine al0 (n := 112) dX9_voice_111 rfl ?_
        refine gsX9_230 (n := 115) dX9_voice_112 rfl rfl rfl ?_
        rw [show vO I (nI k) (nI j) (r (29 + 7 * j + 1)) 21 = nI k from rfl]
        refine il3 (n := 116) dX9_voice_115 rfl ?_
        refine qiX9_236 (n := 119) dX9_voice_116 rfl rfl (Nat.le_of_ble_eq_true rfl) (by omega) rfl (m_runs (I := (kset (kset I 82 r) 81 (vO I (nI k) (nI j) (r (29 + 7 * j + 1))))) (by omega) 0 e20 (by omega) k hk7 e21 k hk7 _) (Nat.le_refl _) (Nat.le_refl _) ?_
        refine k_ireturn (ty := .int) dX9_voice_119 rfl rfl (Nat.le_refl _) (Nat.le_refl _) ?_
        first
          | (refine ⟨?_, ?_⟩ <;> simp only [s_voice, hk, e22, e23, kcl (show k < 1000 by omega), vAct_0, vAct_1, vAct_2, vAct_3, kset_comm I _ _ (show (81 : Nat) ≠ 82 by decide), if_pos h5, kcl (show j < 1000 by omega), if_pos h14, kcl (show (3 : Nat) < 1000 by decide), if_neg (show ¬ nI 3 = 99 by decide)])
          | (refine ⟨?_, ?_⟩ <;> simp only [s_voice, if_pos h5, kcl (show j < 1000 by omega), if_pos h14, kcl (show (3 : Nat) < 1000 by decide), if_neg (show ¬ nI 3 = 99 by decide)])
    · refine al0 (n := 18) dX9_voice_17 rfl ?_
      refine cX9_45 (n := 20) dX9_voice_18 rfl rfl ?_
      refine qiX9_46 (n := 23) dX9_voice_20 rfl rfl (Nat.le_of_ble_eq_true rfl) (by omega) rfl (m_errs 1 _ (by decide) rfl) (Nat.le_refl _) (Nat.le_refl _) ?_
      refine k_ireturn (ty := .int) dX9_voice_23 rfl rfl (Nat.le_refl _) (Nat.le_refl _) ?_
      first
        | (refine ⟨?_, ?_⟩ <;> simp only [s_voice, hk, e22, e23, kcl (show k < 1000 by omega), vAct_0, vAct_1, vAct_2, vAct_3, kset_comm I _ _ (show (81 : Nat) ≠ 82 by decide), if_pos h5, kcl (show j < 1000 by omega), if_neg h14])
        | (refine ⟨?_, ?_⟩ <;> simp only [s_voice, if_pos h5, kcl (show j < 1000 by omega), if_neg h14])
end M14

/-- the reading's own numbers: the use, the end, the names, the bytes -/
def pC (I : Nat → Nat → Int32) (o : Nat → Int32) (G : pG) (e : Nat) : Prop := o 7 = nI G.2.1 ∧ G.2.1 < 2 ∧ o 9 = nI e ∧ e ≤ 50 ∧ o 11 = G.2.2.1 ∧ o 12 = G.2.2.2.1 ∧ o 13 = G.2.2.2.2 ∧ ∀ k, G.1 k = if k < e then I 82 (155 + 50 * G.2.1 + k) else -1
theorem pC.mv {I : Nat → Nat → Int32} {o p : Nat → Int32} {G : pG} {e : Nat} (h : pC I o G e) (hj : ∀ j, j ≠ 8 → j ≠ 10 → j ≠ 14 → p j = o j) : pC I p G e := by
  obtain ⟨h1, h2, h3, h4, h5, h6, h7, h8⟩ := h
  exact ⟨by rw [hj 7 (by decide) (by decide) (by decide)]; exact h1, h2, by rw [hj 9 (by decide) (by decide) (by decide)]; exact h3, h4, by rw [hj 11 (by decide) (by decide) (by decide)]; exact h5, by rw [hj 12 (by decide) (by decide) (by decide)]; exact h6, by rw [hj 13 (by decide) (by decide) (by decide)]; exact h7, h8⟩
theorem pC.lt {I : Nat → Nat → Int32} {o : Nat → Int32} {G : pG} {e k : Nat} (h : pC I o G e) (hk : ¬ G.1 k = -1) : k < e := by
  rcases Nat.lt_or_ge k e with q | q
  · exact q
  · exact absurd (by rw [h.2.2.2.2.2.2.2 k, if_neg (by omega)]) hk
def pQ (I : Nat → Nat → Int32) (o : Nat → Int32) (q : pR) : Option Value → kM → Prop := fun v M => ∃ p, v = some (.int q.1) ∧ M = kJ (kset I 81 p) ∧ p 8 = nI q.2.1 ∧ p 14 = kb (q.2.2 = true) ∧ ∀ j, j ≠ 8 → j ≠ 14 → p j = o j
def rkF (md : Nat) : Nat := if md = 5 then 1 else if md = 14 then 2 else if md = 4 then 3 else if md = 13 then 4 else if md = 3 then 5 else if md = 2 then 6 else if md = 11 then 7 else if md = 1 then 8 else if md = 10 then 9 else 10
section M15
variable {E : kE} {d : Nat} {I : Nat → Nat → Int32} {o : Nat → Int32} {G : pG} {e : Nat}
set_option maxHeartbeats 2000000 in
set_option maxRecDepth 20000 in
theorem m_byteAt (h : pC I o G e) (k : Nat) (hk : k ≤ 60) : Ct E d mX9_byteAt 0 0 [.ref 81, .int (nI k)] (kJ (kset I 81 o)) (kR (G.1 k) (kset I 81 o)) := by
  obtain ⟨h7, h2, h9, h50, -, -, -, hB⟩ := id h
  refine Ct.of (L := [some (.ref 81), some (.int (nI k))]) rfl rfl (Nat.le_of_ble_eq_true rfl) ?_
  refine il1 (n := 1) dX9_byteAt_0 rfl ?_
  refine al0 (n := 2) dX9_byteAt_1 rfl ?_
  refine gsX9_90 (n := 5) dX9_byteAt_2 rfl rfl rfl ?_
  rw [h9]
  refine k_icmp_ge (t := 29) (n := 8) dX9_byteAt_5 (by decide) rfl (fun h5 => ?_) (fun h5 => ?_)
  · have hlt : ¬ k < e := fun q => absurd h5 (nI_ge q (by omega))
    refine k_iconst (a := (-1)) (n := 30) dX9_byteAt_29 rfl rfl ?_
    refine k_ireturn (ty := .int) dX9_byteAt_30 rfl rfl (Nat.le_refl _) (Nat.le_refl _) ?_
    exact ⟨by rw [hB k]; first | rw [if_pos hlt] | rw [if_neg hlt], rfl⟩
  · have hlt : k < e := by
      rcases Nat.lt_or_ge k e with q | q
      · exact q
      · exact absurd (nI_le q (by omega)) h5
    refine al0 (n := 9) dX9_byteAt_8 rfl ?_
    refine gX9_7 (n := 12) dX9_byteAt_9 rfl rfl rfl rfl ?_
    refine k_sipush (a := 155) (n := 15) dX9_byteAt_12 rfl rfl ?_
    refine k_bipush (a := 50) (n := 17) dX9_byteAt_15 rfl rfl ?_
    refine al0 (n := 18) dX9_byteAt_17 rfl ?_
    refine gsX9_94 (n := 21) dX9_byteAt_18 rfl rfl rfl ?_
    rw [h7]
    refine k_imul (n := 22) dX9_byteAt_21 rfl ?_
    refine k_iadd (n := 23) dX9_byteAt_22 rfl ?_
    refine il1 (n := 24) dX9_byteAt_23 rfl ?_
    refine k_iadd (n := 25) dX9_byteAt_24 rfl ?_
    refine j_iald (j := 155 + 50 * G.2.1 + k) (n := 26) dX9_byteAt_25 rfl rfl (by show nI 155 + nI 50 * nI G.2.1 + nI k = _; rw [pk_mul, nI_add, nI_add]) (by omega) (by decide) ?_
    try rw [kset_ne _ _ (show (82 : Nat) ≠ 81 by decide)]
    refine k_goto (n := 30) dX9_byteAt_26 (by decide) ?_
    refine k_ireturn (ty := .int) dX9_byteAt_30 rfl rfl (Nat.le_refl _) (Nat.le_refl _) ?_
    exact ⟨by rw [hB k]; first | rw [if_pos hlt] | rw [if_neg hlt], rfl⟩
set_option maxHeartbeats 2000000 in
set_option maxRecDepth 20000 in
theorem m_isDigit (hd : 1 ≤ d) (c : Int32) : Ct E d mX9_isDigit 0 0 [.int c] (kJ I) (kR (kb (48 ≤ c ∧ c ≤ 57)) I) := by
  refine Ct.of (L := [some (.int c)]) rfl rfl (Nat.le_of_ble_eq_true rfl) ?_
  refine il0 (n := 1) dX9_isDigit_0 rfl ?_
  refine k_bipush (a := 48) (n := 3) dX9_isDigit_1 rfl rfl ?_
  refine k_bipush (a := 57) (n := 5) dX9_isDigit_3 rfl rfl ?_
  refine qiX9_41 (n := 8) dX9_isDigit_5 rfl rfl (Nat.le_of_ble_eq_true rfl) (by omega) (m_in _ _ _) (Nat.le_refl _) (Nat.le_refl _) ?_
  refine k_ireturn (ty := .boolean) dX9_isDigit_8 rfl (by first | rfl | exact knb _) (Nat.le_refl _) (Nat.le_refl _) ?_
  exact ⟨rfl, rfl⟩
set_option maxHeartbeats 2000000 in
set_option maxRecDepth 20000 in
theorem m_fails  : Ct E d mX9_fails 0 0 [.ref 81] (kJ (kset I 81 o)) (kR 0 (kset I 81 (upd o 14 0))) := by
  refine Ct.of (L := [some (.ref 81)]) rfl rfl (Nat.le_of_ble_eq_true rfl) ?_
  refine al0 (n := 1) dX9_fails_0 rfl ?_
  refine k_iconst (a := 0) (n := 2) dX9_fails_1 rfl rfl ?_
  refine psX9_97 (n := 5) dX9_fails_2 rfl rfl rfl (by decide) ?_
  refine k_iconst (a := 0) (n := 6) dX9_fails_5 rfl rfl ?_
  refine k_ireturn (ty := .int) dX9_fails_6 rfl rfl (Nat.le_refl _) (Nat.le_refl _) ?_
  exact ⟨rfl, rfl⟩
theorem numF_le (B : Nat → Int32) {e : Nat} (hB : ∀ k, e ≤ k → B k = -1) : ∀ n v a, a ≤ e → a ≤ (numF B n v a).2 ∧ (numF B n v a).2 ≤ e
  | 0, v, a, h => ⟨Nat.le_refl _, h⟩
  | n + 1, v, a, h => by
    unfold numF
    split
    · rename_i hd
      have hlt : a < e := by
        rcases Nat.lt_or_ge a e with q | q
        · exact q
        · rw [hB a q] at hd; exact absurd hd.1 (by decide)
      have := numF_le B hB n (10 * v + B a - 48) (a + 1) (by omega)
      omega
    · exact ⟨Nat.le_refl _, h⟩
theorem pC.end {I : Nat → Nat → Int32} {o : Nat → Int32} {G : pG} {e : Nat} (h : pC I o G e) : ∀ k, e ≤ k → G.1 k = -1 := fun k hk => by rw [h.2.2.2.2.2.2.2 k, if_neg (by omega)]
set_option maxHeartbeats 2000000 in
set_option maxRecDepth 20000 in
theorem m_number_l (hd : 2 ≤ d) (Q : Option Value → kM → Prop) (m : Nat) : ∀ (i : Nat) (v : Int32) (a : Nat) (o : Nat → Int32), i + m = 4 → a ≤ e → pC I o G e → o 8 = nI a → (∀ p : Nat → Int32, p 8 = nI (numF G.1 m v a).2 → (∀ j, j ≠ 8 → p j = o j) → Q (some (.int (numF G.1 m v a).1)) (kJ (kset I 81 p))) → Wd E d mX9_number 0 0 0 0 4 [some (.ref 81), some (.int v), some (.int (nI i))] [] (kJ (kset I 81 o)) Q := by
  induction m with
  | zero =>
    intro i v a o hi ha h h8 hQ
    have e4 : i = 4 := by omega
    subst e4
    refine il2 (n := 5) dX9_number_4 rfl ?_
    refine k_iconst (a := 4) (n := 6) dX9_number_5 rfl rfl ?_
    refine k_icmp_ge (t := 56) (n := 9) dX9_number_6 (by decide) rfl (fun h6 => ?_) (fun h6 => ?_)
    · refine il1 (n := 57) dX9_number_56 rfl ?_
      refine k_ireturn (ty := .int) dX9_number_57 rfl rfl (Nat.le_refl _) (Nat.le_refl _) ?_
      exact hQ o h8 (fun j hj => rfl)
    · exact absurd (Int32.le_refl _) h6
  | succ m ih =>
    intro i v a o hi ha h h8 hQ
    have h50 := h.2.2.2.1
    unfold numF at hQ
    refine il2 (n := 5) dX9_number_4 rfl ?_
    refine k_iconst (a := 4) (n := 6) dX9_number_5 rfl rfl ?_
    refine k_icmp_ge (t := 56) (n := 9) dX9_number_6 (by decide) rfl (fun h6 => ?_) (fun h6 => ?_)
    · exact absurd h6 (nI_ge (show i < 4 by omega) (by decide))
    · refine al0 (n := 10) dX9_number_9 rfl ?_
      refine al0 (n := 11) dX9_number_10 rfl ?_
      refine gsX9_101 (n := 14) dX9_number_11 rfl rfl rfl ?_
      rw [h8]
      refine qiX9_104 (n := 17) dX9_number_14 rfl rfl (Nat.le_of_ble_eq_true rfl) (by omega) rfl (m_byteAt h a (by omega)) (Nat.le_refl _) (Nat.le_refl _) ?_
      refine qiX9_107 (n := 20) dX9_number_17 rfl rfl (Nat.le_of_ble_eq_true rfl) (by omega) (m_isDigit (by omega) _) (Nat.le_refl _) (Nat.le_refl _) ?_
      refine k_ifb_eq (t := 56) (n := 23) dX9_number_20 (by decide) rfl (fun h20 => ?_) (fun h20 => ?_)
      · refine il1 (n := 57) dX9_number_56 rfl ?_
        refine k_ireturn (ty := .int) dX9_number_57 rfl rfl (Nat.le_refl _) (Nat.le_refl _) ?_
        rw [if_neg h20] at hQ
        exact hQ o h8 (fun j hj => rfl)
      · refine k_bipush (a := 10) (n := 25) dX9_number_23 rfl rfl ?_
        refine il1 (n := 26) dX9_number_25 rfl ?_
        refine k_imul (n := 27) dX9_number_26 rfl ?_
        refine al0 (n := 28) dX9_number_27 rfl ?_
        refine al0 (n := 29) dX9_number_28 rfl ?_
        refine gsX9_101 (n := 32) dX9_number_29 rfl rfl rfl ?_
        rw [h8]
        refine qiX9_104 (n := 35) dX9_number_32 rfl rfl (Nat.le_of_ble_eq_true rfl) (by omega) rfl (m_byteAt h a (by omega)) (Nat.le_refl _) (Nat.le_refl _) ?_
        refine k_iadd (n := 36) dX9_number_35 rfl ?_
        refine k_bipush (a := 48) (n := 38) dX9_number_36 rfl rfl ?_
        refine k_isub (n := 39) dX9_number_38 rfl ?_
        refine is1 (n := 40) dX9_number_39 rfl trivial ?_
        refine al0 (n := 41) dX9_number_40 rfl ?_
        refine k_dup (n := 42) dX9_number_41 rfl rfl ?_
        refine gsX9_101 (n := 45) dX9_number_42 rfl rfl rfl ?_
        rw [h8]
        refine k_iconst (a := 1) (n := 46) dX9_number_45 rfl rfl ?_
        refine k_iadd (n := 47) dX9_number_46 rfl ?_
        rw [nI_1 a]
        refine psX9_101 (n := 50) dX9_number_47 rfl rfl rfl ?_
        refine ii2 (n := 53) dX9_number_50 rfl (ki1 _) trivial ?_
        rw [nI_1 i]
        refine k_goto (n := 4) dX9_number_53 (by decide) ?_
        rw [if_pos h20] at hQ
        have hlt : a < e := h.lt (fun q => by rw [q] at h20; exact absurd h20.1 (by decide))
        refine ih (i + 1) _ (a + 1) _ (by omega) (by omega) (h.mv (fun j a1 _ _ => pk_un a1)) pk_us (fun p hp hj => hQ p hp (fun j hj2 => (hj j hj2).trans (pk_un hj2)))
set_option maxHeartbeats 2000000 in
set_option maxRecDepth 20000 in
theorem m_number (hd : 2 ≤ d) (h : pC I o G e) (a : Nat) (ha : a ≤ e) (h8 : o 8 = nI a) (h14 : o 14 = 1) : Ct E d mX9_number 0 0 [.ref 81] (kJ (kset I 81 o)) (pQ I o ((numF G.1 4 0 a).1, (numF G.1 4 0 a).2, true)) := by
  refine Ct.of (L := [some (.ref 81), none, none]) rfl rfl (Nat.le_of_ble_eq_true rfl) ?_
  refine k_iconst (a := 0) (n := 1) dX9_number_0 rfl rfl ?_
  refine is1 (n := 2) dX9_number_1 rfl trivial ?_
  refine k_iconst (a := 0) (n := 3) dX9_number_2 rfl rfl ?_
  refine is2 (n := 4) dX9_number_3 rfl trivial ?_
  exact m_number_l (by omega) _ 4 0 0 a o (by omega) ha h h8 (fun p hp hj => ⟨p, rfl, rfl, hp, (hj 14 (by decide)).trans (h14.trans (kb_t rfl).symm), fun j a1 _ => hj j a1⟩)
set_option maxHeartbeats 2000000 in
set_option maxRecDepth 20000 in
theorem m_named (hd : 1 ≤ d) (h : pC I o G e) (a : Nat) (ha : a ≤ e) (h8 : o 8 = nI a) (h14 : o 14 = 1) (c : Int32) : Ct E d mX9_named 0 0 [.ref 81, .int c] (kJ (kset I 81 o)) (pQ I o (namF G c a)) := by
  obtain ⟨h7, h2, -, h50, h11, h12, h13, -⟩ := id h
  have key : ∀ (f1 f2 f3 : Prop) [Decidable f1] [Decidable f2] [Decidable f3], (f1 ↔ c = 107) → (f2 ↔ c = (if G.2.1 = 0 then 108 else 119)) → (f3 ↔ c = (if G.2.1 = 0 then 112 else 98)) → Wd E d mX9_named 0 0 0 0 61 [some (.ref 81), some (.int c), some (.int (kb f1)), some (.int (kb f2)), some (.int (kb f3))] [] (kJ (kset I 81 o)) (pQ I o (namF G c a)) := by
    intro f1 f2 f3 _ _ _ e1 e2 e3
    refine il2 (n := 62) dX9_named_61 rfl ?_
    refine k_ifb_ne (t := 79) (n := 65) dX9_named_62 (by decide) rfl (fun h62 => ?_) (fun h62 => ?_)
    · refine al0 (n := 80) dX9_named_79 rfl ?_
      refine k_dup (n := 81) dX9_named_80 rfl rfl ?_
      refine gsX9_101 (n := 84) dX9_named_81 rfl rfl rfl ?_
      rw [h8]
      refine k_iconst (a := 1) (n := 85) dX9_named_84 rfl rfl ?_
      refine k_iadd (n := 86) dX9_named_85 rfl ?_
      rw [nI_1 a]
      refine psX9_101 (n := 89) dX9_named_86 rfl rfl rfl ?_
      refine il2 (n := 90) dX9_named_89 rfl ?_
      refine k_ifb_eq (t := 100) (n := 93) dX9_named_90 (by decide) rfl (fun h90 => ?_) (fun h90 => ?_)
      · refine il3 (n := 101) dX9_named_100 rfl ?_
        refine k_ifb_eq (t := 111) (n := 104) dX9_named_101 (by decide) rfl (fun h101 => ?_) (fun h101 => ?_)
        · refine al0 (n := 112) dX9_named_111 rfl ?_
          refine gsX9_120 (n := 115) dX9_named_112 rfl rfl rfl ?_
          rw [show upd o 8 (nI (a + 1)) 13 = o 13 from pk_un (by decide), h13]
          refine k_ireturn (ty := .int) dX9_named_115 rfl rfl (Nat.le_refl _) (Nat.le_refl _) ?_
          first
            | exact absurd h62 h90
            | exact absurd h90 h62
            | exact absurd h66 h101
            | exact absurd h101 h66
            | (have en : namF G c a = (0, a, false) := by rw [namF, if_neg (fun q => h62 (e1.mpr q)), if_neg (fun q => h66 (e2.mpr q)), if_neg (fun q => h71 (e3.mpr q))]
               rw [en]
               exact ⟨_, rfl, rfl, (pk_un (by decide)).trans h8, pk_us, fun j _ a2 => pk_un a2⟩)
            | (have en : namF G c a = (G.2.2.1, a + 1, true) := by rw [namF, if_pos (e1.mp h90)]
               rw [en]
               exact ⟨_, rfl, rfl, pk_us, (pk_un (by decide)).trans (h14.trans (kb_t rfl).symm), fun j a1 _ => pk_un a1⟩)
            | (have en : namF G c a = (G.2.2.2.1, a + 1, true) := by rw [namF, if_neg (fun q => h90 (e1.mpr q)), if_pos (e2.mp h101)]
               rw [en]
               exact ⟨_, rfl, rfl, pk_us, (pk_un (by decide)).trans (h14.trans (kb_t rfl).symm), fun j a1 _ => pk_un a1⟩)
            | (have en : namF G c a = (G.2.2.2.2, a + 1, true) := by rw [namF, if_neg (fun q => h90 (e1.mpr q)), if_neg (fun q => h101 (e2.mpr q)), if_pos (e3.mp h71)]
               rw [en]
               exact ⟨_, rfl, rfl, pk_us, (pk_un (by decide)).trans (h14.trans (kb_t rfl).symm), fun j a1 _ => pk_un a1⟩)
        · refine al0 (n := 105) dX9_named_104 rfl ?_
          refine gsX9_117 (n := 108) dX9_named_105 rfl rfl rfl ?_
          rw [show upd o 8 (nI (a + 1)) 12 = o 12 from pk_un (by decide), h12]
          refine k_goto (n := 115) dX9_named_108 (by decide) ?_
          refine k_ireturn (ty := .int) dX9_named_115 rfl rfl (Nat.le_refl _) (Nat.le_refl _) ?_
          first
            | exact absurd h62 h90
            | exact absurd h90 h62
            | exact absurd h66 h101
            | exact absurd h101 h66
            | (have en : namF G c a = (0, a, false) := by rw [namF, if_neg (fun q => h62 (e1.mpr q)), if_neg (fun q => h66 (e2.mpr q)), if_neg (fun q => h71 (e3.mpr q))]
               rw [en]
               exact ⟨_, rfl, rfl, (pk_un (by decide)).trans h8, pk_us, fun j _ a2 => pk_un a2⟩)
            | (have en : namF G c a = (G.2.2.1, a + 1, true) := by rw [namF, if_pos (e1.mp h90)]
               rw [en]
               exact ⟨_, rfl, rfl, pk_us, (pk_un (by decide)).trans (h14.trans (kb_t rfl).symm), fun j a1 _ => pk_un a1⟩)
            | (have en : namF G c a = (G.2.2.2.1, a + 1, true) := by rw [namF, if_neg (fun q => h90 (e1.mpr q)), if_pos (e2.mp h101)]
               rw [en]
               exact ⟨_, rfl, rfl, pk_us, (pk_un (by decide)).trans (h14.trans (kb_t rfl).symm), fun j a1 _ => pk_un a1⟩)
            | (have en : namF G c a = (G.2.2.2.2, a + 1, true) := by rw [namF, if_neg (fun q => h90 (e1.mpr q)), if_neg (fun q => h101 (e2.mpr q)), if_pos (e3.mp h71)]
               rw [en]
               exact ⟨_, rfl, rfl, pk_us, (pk_un (by decide)).trans (h14.trans (kb_t rfl).symm), fun j a1 _ => pk_un a1⟩)
      · refine al0 (n := 94) dX9_named_93 rfl ?_
        refine gsX9_114 (n := 97) dX9_named_94 rfl rfl rfl ?_
        rw [show upd o 8 (nI (a + 1)) 11 = o 11 from pk_un (by decide), h11]
        refine k_goto (n := 115) dX9_named_97 (by decide) ?_
        refine k_ireturn (ty := .int) dX9_named_115 rfl rfl (Nat.le_refl _) (Nat.le_refl _) ?_
        first
          | exact absurd h62 h90
          | exact absurd h90 h62
          | exact absurd h66 h101
          | exact absurd h101 h66
          | (have en : namF G c a = (0, a, false) := by rw [namF, if_neg (fun q => h62 (e1.mpr q)), if_neg (fun q => h66 (e2.mpr q)), if_neg (fun q => h71 (e3.mpr q))]
             rw [en]
             exact ⟨_, rfl, rfl, (pk_un (by decide)).trans h8, pk_us, fun j _ a2 => pk_un a2⟩)
          | (have en : namF G c a = (G.2.2.1, a + 1, true) := by rw [namF, if_pos (e1.mp h90)]
             rw [en]
             exact ⟨_, rfl, rfl, pk_us, (pk_un (by decide)).trans (h14.trans (kb_t rfl).symm), fun j a1 _ => pk_un a1⟩)
          | (have en : namF G c a = (G.2.2.2.1, a + 1, true) := by rw [namF, if_neg (fun q => h90 (e1.mpr q)), if_pos (e2.mp h101)]
             rw [en]
             exact ⟨_, rfl, rfl, pk_us, (pk_un (by decide)).trans (h14.trans (kb_t rfl).symm), fun j a1 _ => pk_un a1⟩)
          | (have en : namF G c a = (G.2.2.2.2, a + 1, true) := by rw [namF, if_neg (fun q => h90 (e1.mpr q)), if_neg (fun q => h101 (e2.mpr q)), if_pos (e3.mp h71)]
             rw [en]
             exact ⟨_, rfl, rfl, pk_us, (pk_un (by decide)).trans (h14.trans (kb_t rfl).symm), fun j a1 _ => pk_un a1⟩)
    · refine il3 (n := 66) dX9_named_65 rfl ?_
      refine k_ifb_ne (t := 79) (n := 69) dX9_named_66 (by decide) rfl (fun h66 => ?_) (fun h66 => ?_)
      · refine al0 (n := 80) dX9_named_79 rfl ?_
        refine k_dup (n := 81) dX9_named_80 rfl rfl ?_
        refine gsX9_101 (n := 84) dX9_named_81 rfl rfl rfl ?_
        rw [h8]
        refine k_iconst (a := 1) (n := 85) dX9_named_84 rfl rfl ?_
        refine k_iadd (n := 86) dX9_named_85 rfl ?_
        rw [nI_1 a]
        refine psX9_101 (n := 89) dX9_named_86 rfl rfl rfl ?_
        refine il2 (n := 90) dX9_named_89 rfl ?_
        refine k_ifb_eq (t := 100) (n := 93) dX9_named_90 (by decide) rfl (fun h90 => ?_) (fun h90 => ?_)
        · refine il3 (n := 101) dX9_named_100 rfl ?_
          refine k_ifb_eq (t := 111) (n := 104) dX9_named_101 (by decide) rfl (fun h101 => ?_) (fun h101 => ?_)
          · refine al0 (n := 112) dX9_named_111 rfl ?_
            refine gsX9_120 (n := 115) dX9_named_112 rfl rfl rfl ?_
            rw [show upd o 8 (nI (a + 1)) 13 = o 13 from pk_un (by decide), h13]
            refine k_ireturn (ty := .int) dX9_named_115 rfl rfl (Nat.le_refl _) (Nat.le_refl _) ?_
            first
              | exact absurd h62 h90
              | exact absurd h90 h62
              | exact absurd h66 h101
              | exact absurd h101 h66
              | (have en : namF G c a = (0, a, false) := by rw [namF, if_neg (fun q => h62 (e1.mpr q)), if_neg (fun q => h66 (e2.mpr q)), if_neg (fun q => h71 (e3.mpr q))]
                 rw [en]
                 exact ⟨_, rfl, rfl, (pk_un (by decide)).trans h8, pk_us, fun j _ a2 => pk_un a2⟩)
              | (have en : namF G c a = (G.2.2.1, a + 1, true) := by rw [namF, if_pos (e1.mp h90)]
                 rw [en]
                 exact ⟨_, rfl, rfl, pk_us, (pk_un (by decide)).trans (h14.trans (kb_t rfl).symm), fun j a1 _ => pk_un a1⟩)
              | (have en : namF G c a = (G.2.2.2.1, a + 1, true) := by rw [namF, if_neg (fun q => h90 (e1.mpr q)), if_pos (e2.mp h101)]
                 rw [en]
                 exact ⟨_, rfl, rfl, pk_us, (pk_un (by decide)).trans (h14.trans (kb_t rfl).symm), fun j a1 _ => pk_un a1⟩)
              | (have en : namF G c a = (G.2.2.2.2, a + 1, true) := by rw [namF, if_neg (fun q => h90 (e1.mpr q)), if_neg (fun q => h101 (e2.mpr q)), if_pos (e3.mp h71)]
                 rw [en]
                 exact ⟨_, rfl, rfl, pk_us, (pk_un (by decide)).trans (h14.trans (kb_t rfl).symm), fun j a1 _ => pk_un a1⟩)
          · refine al0 (n := 105) dX9_named_104 rfl ?_
            refine gsX9_117 (n := 108) dX9_named_105 rfl rfl rfl ?_
            rw [show upd o 8 (nI (a + 1)) 12 = o 12 from pk_un (by decide), h12]
            refine k_goto (n := 115) dX9_named_108 (by decide) ?_
            refine k_ireturn (ty := .int) dX9_named_115 rfl rfl (Nat.le_refl _) (Nat.le_refl _) ?_
            first
              | exact absurd h62 h90
              | exact absurd h90 h62
              | exact absurd h66 h101
              | exact absurd h101 h66
              | (have en : namF G c a = (0, a, false) := by rw [namF, if_neg (fun q => h62 (e1.mpr q)), if_neg (fun q => h66 (e2.mpr q)), if_neg (fun q => h71 (e3.mpr q))]
                 rw [en]
                 exact ⟨_, rfl, rfl, (pk_un (by decide)).trans h8, pk_us, fun j _ a2 => pk_un a2⟩)
              | (have en : namF G c a = (G.2.2.1, a + 1, true) := by rw [namF, if_pos (e1.mp h90)]
                 rw [en]
                 exact ⟨_, rfl, rfl, pk_us, (pk_un (by decide)).trans (h14.trans (kb_t rfl).symm), fun j a1 _ => pk_un a1⟩)
              | (have en : namF G c a = (G.2.2.2.1, a + 1, true) := by rw [namF, if_neg (fun q => h90 (e1.mpr q)), if_pos (e2.mp h101)]
                 rw [en]
                 exact ⟨_, rfl, rfl, pk_us, (pk_un (by decide)).trans (h14.trans (kb_t rfl).symm), fun j a1 _ => pk_un a1⟩)
              | (have en : namF G c a = (G.2.2.2.2, a + 1, true) := by rw [namF, if_neg (fun q => h90 (e1.mpr q)), if_neg (fun q => h101 (e2.mpr q)), if_pos (e3.mp h71)]
                 rw [en]
                 exact ⟨_, rfl, rfl, pk_us, (pk_un (by decide)).trans (h14.trans (kb_t rfl).symm), fun j a1 _ => pk_un a1⟩)
        · refine al0 (n := 94) dX9_named_93 rfl ?_
          refine gsX9_114 (n := 97) dX9_named_94 rfl rfl rfl ?_
          rw [show upd o 8 (nI (a + 1)) 11 = o 11 from pk_un (by decide), h11]
          refine k_goto (n := 115) dX9_named_97 (by decide) ?_
          refine k_ireturn (ty := .int) dX9_named_115 rfl rfl (Nat.le_refl _) (Nat.le_refl _) ?_
          first
            | exact absurd h62 h90
            | exact absurd h90 h62
            | exact absurd h66 h101
            | exact absurd h101 h66
            | (have en : namF G c a = (0, a, false) := by rw [namF, if_neg (fun q => h62 (e1.mpr q)), if_neg (fun q => h66 (e2.mpr q)), if_neg (fun q => h71 (e3.mpr q))]
               rw [en]
               exact ⟨_, rfl, rfl, (pk_un (by decide)).trans h8, pk_us, fun j _ a2 => pk_un a2⟩)
            | (have en : namF G c a = (G.2.2.1, a + 1, true) := by rw [namF, if_pos (e1.mp h90)]
               rw [en]
               exact ⟨_, rfl, rfl, pk_us, (pk_un (by decide)).trans (h14.trans (kb_t rfl).symm), fun j a1 _ => pk_un a1⟩)
            | (have en : namF G c a = (G.2.2.2.1, a + 1, true) := by rw [namF, if_neg (fun q => h90 (e1.mpr q)), if_pos (e2.mp h101)]
               rw [en]
               exact ⟨_, rfl, rfl, pk_us, (pk_un (by decide)).trans (h14.trans (kb_t rfl).symm), fun j a1 _ => pk_un a1⟩)
            | (have en : namF G c a = (G.2.2.2.2, a + 1, true) := by rw [namF, if_neg (fun q => h90 (e1.mpr q)), if_neg (fun q => h101 (e2.mpr q)), if_pos (e3.mp h71)]
               rw [en]
               exact ⟨_, rfl, rfl, pk_us, (pk_un (by decide)).trans (h14.trans (kb_t rfl).symm), fun j a1 _ => pk_un a1⟩)
      · refine il4 (n := 71) dX9_named_69 rfl ?_
        refine k_ifb_ne (t := 79) (n := 74) dX9_named_71 (by decide) rfl (fun h71 => ?_) (fun h71 => ?_)
        · refine al0 (n := 80) dX9_named_79 rfl ?_
          refine k_dup (n := 81) dX9_named_80 rfl rfl ?_
          refine gsX9_101 (n := 84) dX9_named_81 rfl rfl rfl ?_
          rw [h8]
          refine k_iconst (a := 1) (n := 85) dX9_named_84 rfl rfl ?_
          refine k_iadd (n := 86) dX9_named_85 rfl ?_
          rw [nI_1 a]
          refine psX9_101 (n := 89) dX9_named_86 rfl rfl rfl ?_
          refine il2 (n := 90) dX9_named_89 rfl ?_
          refine k_ifb_eq (t := 100) (n := 93) dX9_named_90 (by decide) rfl (fun h90 => ?_) (fun h90 => ?_)
          · refine il3 (n := 101) dX9_named_100 rfl ?_
            refine k_ifb_eq (t := 111) (n := 104) dX9_named_101 (by decide) rfl (fun h101 => ?_) (fun h101 => ?_)
            · refine al0 (n := 112) dX9_named_111 rfl ?_
              refine gsX9_120 (n := 115) dX9_named_112 rfl rfl rfl ?_
              rw [show upd o 8 (nI (a + 1)) 13 = o 13 from pk_un (by decide), h13]
              refine k_ireturn (ty := .int) dX9_named_115 rfl rfl (Nat.le_refl _) (Nat.le_refl _) ?_
              first
                | exact absurd h62 h90
                | exact absurd h90 h62
                | exact absurd h66 h101
                | exact absurd h101 h66
                | (have en : namF G c a = (0, a, false) := by rw [namF, if_neg (fun q => h62 (e1.mpr q)), if_neg (fun q => h66 (e2.mpr q)), if_neg (fun q => h71 (e3.mpr q))]
                   rw [en]
                   exact ⟨_, rfl, rfl, (pk_un (by decide)).trans h8, pk_us, fun j _ a2 => pk_un a2⟩)
                | (have en : namF G c a = (G.2.2.1, a + 1, true) := by rw [namF, if_pos (e1.mp h90)]
                   rw [en]
                   exact ⟨_, rfl, rfl, pk_us, (pk_un (by decide)).trans (h14.trans (kb_t rfl).symm), fun j a1 _ => pk_un a1⟩)
                | (have en : namF G c a = (G.2.2.2.1, a + 1, true) := by rw [namF, if_neg (fun q => h90 (e1.mpr q)), if_pos (e2.mp h101)]
                   rw [en]
                   exact ⟨_, rfl, rfl, pk_us, (pk_un (by decide)).trans (h14.trans (kb_t rfl).symm), fun j a1 _ => pk_un a1⟩)
                | (have en : namF G c a = (G.2.2.2.2, a + 1, true) := by rw [namF, if_neg (fun q => h90 (e1.mpr q)), if_neg (fun q => h101 (e2.mpr q)), if_pos (e3.mp h71)]
                   rw [en]
                   exact ⟨_, rfl, rfl, pk_us, (pk_un (by decide)).trans (h14.trans (kb_t rfl).symm), fun j a1 _ => pk_un a1⟩)
            · refine al0 (n := 105) dX9_named_104 rfl ?_
              refine gsX9_117 (n := 108) dX9_named_105 rfl rfl rfl ?_
              rw [show upd o 8 (nI (a + 1)) 12 = o 12 from pk_un (by decide), h12]
              refine k_goto (n := 115) dX9_named_108 (by decide) ?_
              refine k_ireturn (ty := .int) dX9_named_115 rfl rfl (Nat.le_refl _) (Nat.le_refl _) ?_
              first
                | exact absurd h62 h90
                | exact absurd h90 h62
                | exact absurd h66 h101
                | exact absurd h101 h66
                | (have en : namF G c a = (0, a, false) := by rw [namF, if_neg (fun q => h62 (e1.mpr q)), if_neg (fun q => h66 (e2.mpr q)), if_neg (fun q => h71 (e3.mpr q))]
                   rw [en]
                   exact ⟨_, rfl, rfl, (pk_un (by decide)).trans h8, pk_us, fun j _ a2 => pk_un a2⟩)
                | (have en : namF G c a = (G.2.2.1, a + 1, true) := by rw [namF, if_pos (e1.mp h90)]
                   rw [en]
                   exact ⟨_, rfl, rfl, pk_us, (pk_un (by decide)).trans (h14.trans (kb_t rfl).symm), fun j a1 _ => pk_un a1⟩)
                | (have en : namF G c a = (G.2.2.2.1, a + 1, true) := by rw [namF, if_neg (fun q => h90 (e1.mpr q)), if_pos (e2.mp h101)]
                   rw [en]
                   exact ⟨_, rfl, rfl, pk_us, (pk_un (by decide)).trans (h14.trans (kb_t rfl).symm), fun j a1 _ => pk_un a1⟩)
                | (have en : namF G c a = (G.2.2.2.2, a + 1, true) := by rw [namF, if_neg (fun q => h90 (e1.mpr q)), if_neg (fun q => h101 (e2.mpr q)), if_pos (e3.mp h71)]
                   rw [en]
                   exact ⟨_, rfl, rfl, pk_us, (pk_un (by decide)).trans (h14.trans (kb_t rfl).symm), fun j a1 _ => pk_un a1⟩)
          · refine al0 (n := 94) dX9_named_93 rfl ?_
            refine gsX9_114 (n := 97) dX9_named_94 rfl rfl rfl ?_
            rw [show upd o 8 (nI (a + 1)) 11 = o 11 from pk_un (by decide), h11]
            refine k_goto (n := 115) dX9_named_97 (by decide) ?_
            refine k_ireturn (ty := .int) dX9_named_115 rfl rfl (Nat.le_refl _) (Nat.le_refl _) ?_
            first
              | exact absurd h62 h90
              | exact absurd h90 h62
              | exact absurd h66 h101
              | exact absurd h101 h66
              | (have en : namF G c a = (0, a, false) := by rw [namF, if_neg (fun q => h62 (e1.mpr q)), if_neg (fun q => h66 (e2.mpr q)), if_neg (fun q => h71 (e3.mpr q))]
                 rw [en]
                 exact ⟨_, rfl, rfl, (pk_un (by decide)).trans h8, pk_us, fun j _ a2 => pk_un a2⟩)
              | (have en : namF G c a = (G.2.2.1, a + 1, true) := by rw [namF, if_pos (e1.mp h90)]
                 rw [en]
                 exact ⟨_, rfl, rfl, pk_us, (pk_un (by decide)).trans (h14.trans (kb_t rfl).symm), fun j a1 _ => pk_un a1⟩)
              | (have en : namF G c a = (G.2.2.2.1, a + 1, true) := by rw [namF, if_neg (fun q => h90 (e1.mpr q)), if_pos (e2.mp h101)]
                 rw [en]
                 exact ⟨_, rfl, rfl, pk_us, (pk_un (by decide)).trans (h14.trans (kb_t rfl).symm), fun j a1 _ => pk_un a1⟩)
              | (have en : namF G c a = (G.2.2.2.2, a + 1, true) := by rw [namF, if_neg (fun q => h90 (e1.mpr q)), if_neg (fun q => h101 (e2.mpr q)), if_pos (e3.mp h71)]
                 rw [en]
                 exact ⟨_, rfl, rfl, pk_us, (pk_un (by decide)).trans (h14.trans (kb_t rfl).symm), fun j a1 _ => pk_un a1⟩)
        · refine al0 (n := 75) dX9_named_74 rfl ?_
          refine qiX9_110 (n := 78) dX9_named_75 rfl rfl (Nat.le_of_ble_eq_true rfl) (by omega) rfl m_fails (Nat.le_refl _) (Nat.le_refl _) ?_
          refine k_ireturn (ty := .int) dX9_named_78 rfl rfl (Nat.le_refl _) (Nat.le_refl _) ?_
          first
            | exact absurd h62 h90
            | exact absurd h90 h62
            | exact absurd h66 h101
            | exact absurd h101 h66
            | (have en : namF G c a = (0, a, false) := by rw [namF, if_neg (fun q => h62 (e1.mpr q)), if_neg (fun q => h66 (e2.mpr q)), if_neg (fun q => h71 (e3.mpr q))]
               rw [en]
               exact ⟨_, rfl, rfl, (pk_un (by decide)).trans h8, pk_us, fun j _ a2 => pk_un a2⟩)
            | (have en : namF G c a = (G.2.2.1, a + 1, true) := by rw [namF, if_pos (e1.mp h90)]
               rw [en]
               exact ⟨_, rfl, rfl, pk_us, (pk_un (by decide)).trans (h14.trans (kb_t rfl).symm), fun j a1 _ => pk_un a1⟩)
            | (have en : namF G c a = (G.2.2.2.1, a + 1, true) := by rw [namF, if_neg (fun q => h90 (e1.mpr q)), if_pos (e2.mp h101)]
               rw [en]
               exact ⟨_, rfl, rfl, pk_us, (pk_un (by decide)).trans (h14.trans (kb_t rfl).symm), fun j a1 _ => pk_un a1⟩)
            | (have en : namF G c a = (G.2.2.2.2, a + 1, true) := by rw [namF, if_neg (fun q => h90 (e1.mpr q)), if_neg (fun q => h101 (e2.mpr q)), if_pos (e3.mp h71)]
               rw [en]
               exact ⟨_, rfl, rfl, pk_us, (pk_un (by decide)).trans (h14.trans (kb_t rfl).symm), fun j a1 _ => pk_un a1⟩)
  refine Ct.of (L := [some (.ref 81), some (.int c), none, none, none]) rfl rfl (Nat.le_of_ble_eq_true rfl) ?_
  refine il1 (n := 1) dX9_named_0 rfl ?_
  refine k_bipush (a := 107) (n := 3) dX9_named_1 rfl rfl ?_
  refine k_icmp_ne (t := 10) (n := 6) dX9_named_3 (by decide) rfl (fun h3 => ?_) (fun h3 => ?_)
  · refine k_iconst (a := 0) (n := 11) dX9_named_10 rfl rfl ?_
    refine is2 (n := 12) dX9_named_11 rfl trivial ?_
    refine il1 (n := 13) dX9_named_12 rfl ?_
    refine al0 (n := 14) dX9_named_13 rfl ?_
    refine gsX9_94 (n := 17) dX9_named_14 rfl rfl rfl ?_
    rw [h7]
    refine k_if_ne (t := 25) (n := 20) dX9_named_17 (by decide) rfl (fun h17 => ?_) (fun h17 => ?_)
    · refine k_bipush (a := 119) (n := 27) dX9_named_25 rfl rfl ?_
      refine k_icmp_ne (t := 34) (n := 30) dX9_named_27 (by decide) rfl (fun h27 => ?_) (fun h27 => ?_)
      · refine k_iconst (a := 0) (n := 35) dX9_named_34 rfl rfl ?_
        refine is3 (n := 36) dX9_named_35 rfl trivial ?_
        refine il1 (n := 37) dX9_named_36 rfl ?_
        refine al0 (n := 38) dX9_named_37 rfl ?_
        refine gsX9_94 (n := 41) dX9_named_38 rfl rfl rfl ?_
        rw [h7]
        refine k_if_ne (t := 49) (n := 44) dX9_named_41 (by decide) rfl (fun h41 => ?_) (fun h41 => ?_)
        · refine k_bipush (a := 98) (n := 51) dX9_named_49 rfl rfl ?_
          refine k_icmp_ne (t := 58) (n := 54) dX9_named_51 (by decide) rfl (fun h51 => ?_) (fun h51 => ?_)
          · refine k_iconst (a := 0) (n := 59) dX9_named_58 rfl rfl ?_
            refine is4 (n := 61) dX9_named_59 rfl trivial ?_
            have hu0 : nI G.2.1 = 0 ↔ G.2.1 = 0 := ⟨fun q => kne0 (by omega) q, fun q => by rw [q]; rfl⟩
            first
              | exact absurd h17 h41
              | exact absurd h41 h17
              | (have k1 := key (c = 107) (c = (if G.2.1 = 0 then 108 else 119)) (c = (if G.2.1 = 0 then 112 else 98)) Iff.rfl Iff.rfl Iff.rfl
                 first
                   | simp only [if_pos (hu0.mp h17)] at k1
                   | simp only [if_neg (fun q => h17 (hu0.mpr q))] at k1
                 first | rw [kb_t h3] at k1 | rw [kb_f h3] at k1
                 first | rw [kb_t h27] at k1 | rw [kb_f h27] at k1
                 first | rw [kb_t h51] at k1 | rw [kb_f h51] at k1
                 exact k1)
          · refine k_iconst (a := 1) (n := 55) dX9_named_54 rfl rfl ?_
            refine k_goto (n := 59) dX9_named_55 (by decide) ?_
            refine is4 (n := 61) dX9_named_59 rfl trivial ?_
            have hu0 : nI G.2.1 = 0 ↔ G.2.1 = 0 := ⟨fun q => kne0 (by omega) q, fun q => by rw [q]; rfl⟩
            first
              | exact absurd h17 h41
              | exact absurd h41 h17
              | (have k1 := key (c = 107) (c = (if G.2.1 = 0 then 108 else 119)) (c = (if G.2.1 = 0 then 112 else 98)) Iff.rfl Iff.rfl Iff.rfl
                 first
                   | simp only [if_pos (hu0.mp h17)] at k1
                   | simp only [if_neg (fun q => h17 (hu0.mpr q))] at k1
                 first | rw [kb_t h3] at k1 | rw [kb_f h3] at k1
                 first | rw [kb_t h27] at k1 | rw [kb_f h27] at k1
                 first | rw [kb_t h51] at k1 | rw [kb_f h51] at k1
                 exact k1)
        · refine k_bipush (a := 112) (n := 46) dX9_named_44 rfl rfl ?_
          refine k_goto (n := 51) dX9_named_46 (by decide) ?_
          refine k_icmp_ne (t := 58) (n := 54) dX9_named_51 (by decide) rfl (fun h51 => ?_) (fun h51 => ?_)
          · refine k_iconst (a := 0) (n := 59) dX9_named_58 rfl rfl ?_
            refine is4 (n := 61) dX9_named_59 rfl trivial ?_
            have hu0 : nI G.2.1 = 0 ↔ G.2.1 = 0 := ⟨fun q => kne0 (by omega) q, fun q => by rw [q]; rfl⟩
            first
              | exact absurd h17 h41
              | exact absurd h41 h17
              | (have k1 := key (c = 107) (c = (if G.2.1 = 0 then 108 else 119)) (c = (if G.2.1 = 0 then 112 else 98)) Iff.rfl Iff.rfl Iff.rfl
                 first
                   | simp only [if_pos (hu0.mp h17)] at k1
                   | simp only [if_neg (fun q => h17 (hu0.mpr q))] at k1
                 first | rw [kb_t h3] at k1 | rw [kb_f h3] at k1
                 first | rw [kb_t h27] at k1 | rw [kb_f h27] at k1
                 first | rw [kb_t h51] at k1 | rw [kb_f h51] at k1
                 exact k1)
          · refine k_iconst (a := 1) (n := 55) dX9_named_54 rfl rfl ?_
            refine k_goto (n := 59) dX9_named_55 (by decide) ?_
            refine is4 (n := 61) dX9_named_59 rfl trivial ?_
            have hu0 : nI G.2.1 = 0 ↔ G.2.1 = 0 := ⟨fun q => kne0 (by omega) q, fun q => by rw [q]; rfl⟩
            first
              | exact absurd h17 h41
              | exact absurd h41 h17
              | (have k1 := key (c = 107) (c = (if G.2.1 = 0 then 108 else 119)) (c = (if G.2.1 = 0 then 112 else 98)) Iff.rfl Iff.rfl Iff.rfl
                 first
                   | simp only [if_pos (hu0.mp h17)] at k1
                   | simp only [if_neg (fun q => h17 (hu0.mpr q))] at k1
                 first | rw [kb_t h3] at k1 | rw [kb_f h3] at k1
                 first | rw [kb_t h27] at k1 | rw [kb_f h27] at k1
                 first | rw [kb_t h51] at k1 | rw [kb_f h51] at k1
                 exact k1)
      · refine k_iconst (a := 1) (n := 31) dX9_named_30 rfl rfl ?_
        refine k_goto (n := 35) dX9_named_31 (by decide) ?_
        refine is3 (n := 36) dX9_named_35 rfl trivial ?_
        refine il1 (n := 37) dX9_named_36 rfl ?_
        refine al0 (n := 38) dX9_named_37 rfl ?_
        refine gsX9_94 (n := 41) dX9_named_38 rfl rfl rfl ?_
        rw [h7]
        refine k_if_ne (t := 49) (n := 44) dX9_named_41 (by decide) rfl (fun h41 => ?_) (fun h41 => ?_)
        · refine k_bipush (a := 98) (n := 51) dX9_named_49 rfl rfl ?_
          refine k_icmp_ne (t := 58) (n := 54) dX9_named_51 (by decide) rfl (fun h51 => ?_) (fun h51 => ?_)
          · refine k_iconst (a := 0) (n := 59) dX9_named_58 rfl rfl ?_
            refine is4 (n := 61) dX9_named_59 rfl trivial ?_
            have hu0 : nI G.2.1 = 0 ↔ G.2.1 = 0 := ⟨fun q => kne0 (by omega) q, fun q => by rw [q]; rfl⟩
            first
              | exact absurd h17 h41
              | exact absurd h41 h17
              | (have k1 := key (c = 107) (c = (if G.2.1 = 0 then 108 else 119)) (c = (if G.2.1 = 0 then 112 else 98)) Iff.rfl Iff.rfl Iff.rfl
                 first
                   | simp only [if_pos (hu0.mp h17)] at k1
                   | simp only [if_neg (fun q => h17 (hu0.mpr q))] at k1
                 first | rw [kb_t h3] at k1 | rw [kb_f h3] at k1
                 first | rw [kb_t h27] at k1 | rw [kb_f h27] at k1
                 first | rw [kb_t h51] at k1 | rw [kb_f h51] at k1
                 exact k1)
          · refine k_iconst (a := 1) (n := 55) dX9_named_54 rfl rfl ?_
            refine k_goto (n := 59) dX9_named_55 (by decide) ?_
            refine is4 (n := 61) dX9_named_59 rfl trivial ?_
            have hu0 : nI G.2.1 = 0 ↔ G.2.1 = 0 := ⟨fun q => kne0 (by omega) q, fun q => by rw [q]; rfl⟩
            first
              | exact absurd h17 h41
              | exact absurd h41 h17
              | (have k1 := key (c = 107) (c = (if G.2.1 = 0 then 108 else 119)) (c = (if G.2.1 = 0 then 112 else 98)) Iff.rfl Iff.rfl Iff.rfl
                 first
                   | simp only [if_pos (hu0.mp h17)] at k1
                   | simp only [if_neg (fun q => h17 (hu0.mpr q))] at k1
                 first | rw [kb_t h3] at k1 | rw [kb_f h3] at k1
                 first | rw [kb_t h27] at k1 | rw [kb_f h27] at k1
                 first | rw [kb_t h51] at k1 | rw [kb_f h51] at k1
                 exact k1)
        · refine k_bipush (a := 112) (n := 46) dX9_named_44 rfl rfl ?_
          refine k_goto (n := 51) dX9_named_46 (by decide) ?_
          refine k_icmp_ne (t := 58) (n := 54) dX9_named_51 (by decide) rfl (fun h51 => ?_) (fun h51 => ?_)
          · refine k_iconst (a := 0) (n := 59) dX9_named_58 rfl rfl ?_
            refine is4 (n := 61) dX9_named_59 rfl trivial ?_
            have hu0 : nI G.2.1 = 0 ↔ G.2.1 = 0 := ⟨fun q => kne0 (by omega) q, fun q => by rw [q]; rfl⟩
            first
              | exact absurd h17 h41
              | exact absurd h41 h17
              | (have k1 := key (c = 107) (c = (if G.2.1 = 0 then 108 else 119)) (c = (if G.2.1 = 0 then 112 else 98)) Iff.rfl Iff.rfl Iff.rfl
                 first
                   | simp only [if_pos (hu0.mp h17)] at k1
                   | simp only [if_neg (fun q => h17 (hu0.mpr q))] at k1
                 first | rw [kb_t h3] at k1 | rw [kb_f h3] at k1
                 first | rw [kb_t h27] at k1 | rw [kb_f h27] at k1
                 first | rw [kb_t h51] at k1 | rw [kb_f h51] at k1
                 exact k1)
          · refine k_iconst (a := 1) (n := 55) dX9_named_54 rfl rfl ?_
            refine k_goto (n := 59) dX9_named_55 (by decide) ?_
            refine is4 (n := 61) dX9_named_59 rfl trivial ?_
            have hu0 : nI G.2.1 = 0 ↔ G.2.1 = 0 := ⟨fun q => kne0 (by omega) q, fun q => by rw [q]; rfl⟩
            first
              | exact absurd h17 h41
              | exact absurd h41 h17
              | (have k1 := key (c = 107) (c = (if G.2.1 = 0 then 108 else 119)) (c = (if G.2.1 = 0 then 112 else 98)) Iff.rfl Iff.rfl Iff.rfl
                 first
                   | simp only [if_pos (hu0.mp h17)] at k1
                   | simp only [if_neg (fun q => h17 (hu0.mpr q))] at k1
                 first | rw [kb_t h3] at k1 | rw [kb_f h3] at k1
                 first | rw [kb_t h27] at k1 | rw [kb_f h27] at k1
                 first | rw [kb_t h51] at k1 | rw [kb_f h51] at k1
                 exact k1)
    · refine k_bipush (a := 108) (n := 22) dX9_named_20 rfl rfl ?_
      refine k_goto (n := 27) dX9_named_22 (by decide) ?_
      refine k_icmp_ne (t := 34) (n := 30) dX9_named_27 (by decide) rfl (fun h27 => ?_) (fun h27 => ?_)
      · refine k_iconst (a := 0) (n := 35) dX9_named_34 rfl rfl ?_
        refine is3 (n := 36) dX9_named_35 rfl trivial ?_
        refine il1 (n := 37) dX9_named_36 rfl ?_
        refine al0 (n := 38) dX9_named_37 rfl ?_
        refine gsX9_94 (n := 41) dX9_named_38 rfl rfl rfl ?_
        rw [h7]
        refine k_if_ne (t := 49) (n := 44) dX9_named_41 (by decide) rfl (fun h41 => ?_) (fun h41 => ?_)
        · refine k_bipush (a := 98) (n := 51) dX9_named_49 rfl rfl ?_
          refine k_icmp_ne (t := 58) (n := 54) dX9_named_51 (by decide) rfl (fun h51 => ?_) (fun h51 => ?_)
          · refine k_iconst (a := 0) (n := 59) dX9_named_58 rfl rfl ?_
            refine is4 (n := 61) dX9_named_59 rfl trivial ?_
            have hu0 : nI G.2.1 = 0 ↔ G.2.1 = 0 := ⟨fun q => kne0 (by omega) q, fun q => by rw [q]; rfl⟩
            first
              | exact absurd h17 h41
              | exact absurd h41 h17
              | (have k1 := key (c = 107) (c = (if G.2.1 = 0 then 108 else 119)) (c = (if G.2.1 = 0 then 112 else 98)) Iff.rfl Iff.rfl Iff.rfl
                 first
                   | simp only [if_pos (hu0.mp h17)] at k1
                   | simp only [if_neg (fun q => h17 (hu0.mpr q))] at k1
                 first | rw [kb_t h3] at k1 | rw [kb_f h3] at k1
                 first | rw [kb_t h27] at k1 | rw [kb_f h27] at k1
                 first | rw [kb_t h51] at k1 | rw [kb_f h51] at k1
                 exact k1)
          · refine k_iconst (a := 1) (n := 55) dX9_named_54 rfl rfl ?_
            refine k_goto (n := 59) dX9_named_55 (by decide) ?_
            refine is4 (n := 61) dX9_named_59 rfl trivial ?_
            have hu0 : nI G.2.1 = 0 ↔ G.2.1 = 0 := ⟨fun q => kne0 (by omega) q, fun q => by rw [q]; rfl⟩
            first
              | exact absurd h17 h41
              | exact absurd h41 h17
              | (have k1 := key (c = 107) (c = (if G.2.1 = 0 then 108 else 119)) (c = (if G.2.1 = 0 then 112 else 98)) Iff.rfl Iff.rfl Iff.rfl
                 first
                   | simp only [if_pos (hu0.mp h17)] at k1
                   | simp only [if_neg (fun q => h17 (hu0.mpr q))] at k1
                 first | rw [kb_t h3] at k1 | rw [kb_f h3] at k1
                 first | rw [kb_t h27] at k1 | rw [kb_f h27] at k1
                 first | rw [kb_t h51] at k1 | rw [kb_f h51] at k1
                 exact k1)
        · refine k_bipush (a := 112) (n := 46) dX9_named_44 rfl rfl ?_
          refine k_goto (n := 51) dX9_named_46 (by decide) ?_
          refine k_icmp_ne (t := 58) (n := 54) dX9_named_51 (by decide) rfl (fun h51 => ?_) (fun h51 => ?_)
          · refine k_iconst (a := 0) (n := 59) dX9_named_58 rfl rfl ?_
            refine is4 (n := 61) dX9_named_59 rfl trivial ?_
            have hu0 : nI G.2.1 = 0 ↔ G.2.1 = 0 := ⟨fun q => kne0 (by omega) q, fun q => by rw [q]; rfl⟩
            first
              | exact absurd h17 h41
              | exact absurd h41 h17
              | (have k1 := key (c = 107) (c = (if G.2.1 = 0 then 108 else 119)) (c = (if G.2.1 = 0 then 112 else 98)) Iff.rfl Iff.rfl Iff.rfl
                 first
                   | simp only [if_pos (hu0.mp h17)] at k1
                   | simp only [if_neg (fun q => h17 (hu0.mpr q))] at k1
                 first | rw [kb_t h3] at k1 | rw [kb_f h3] at k1
                 first | rw [kb_t h27] at k1 | rw [kb_f h27] at k1
                 first | rw [kb_t h51] at k1 | rw [kb_f h51] at k1
                 exact k1)
          · refine k_iconst (a := 1) (n := 55) dX9_named_54 rfl rfl ?_
            refine k_goto (n := 59) dX9_named_55 (by decide) ?_
            refine is4 (n := 61) dX9_named_59 rfl trivial ?_
            have hu0 : nI G.2.1 = 0 ↔ G.2.1 = 0 := ⟨fun q => kne0 (by omega) q, fun q => by rw [q]; rfl⟩
            first
              | exact absurd h17 h41
              | exact absurd h41 h17
              | (have k1 := key (c = 107) (c = (if G.2.1 = 0 then 108 else 119)) (c = (if G.2.1 = 0 then 112 else 98)) Iff.rfl Iff.rfl Iff.rfl
                 first
                   | simp only [if_pos (hu0.mp h17)] at k1
                   | simp only [if_neg (fun q => h17 (hu0.mpr q))] at k1
                 first | rw [kb_t h3] at k1 | rw [kb_f h3] at k1
                 first | rw [kb_t h27] at k1 | rw [kb_f h27] at k1
                 first | rw [kb_t h51] at k1 | rw [kb_f h51] at k1
                 exact k1)
      · refine k_iconst (a := 1) (n := 31) dX9_named_30 rfl rfl ?_
        refine k_goto (n := 35) dX9_named_31 (by decide) ?_
        refine is3 (n := 36) dX9_named_35 rfl trivial ?_
        refine il1 (n := 37) dX9_named_36 rfl ?_
        refine al0 (n := 38) dX9_named_37 rfl ?_
        refine gsX9_94 (n := 41) dX9_named_38 rfl rfl rfl ?_
        rw [h7]
        refine k_if_ne (t := 49) (n := 44) dX9_named_41 (by decide) rfl (fun h41 => ?_) (fun h41 => ?_)
        · refine k_bipush (a := 98) (n := 51) dX9_named_49 rfl rfl ?_
          refine k_icmp_ne (t := 58) (n := 54) dX9_named_51 (by decide) rfl (fun h51 => ?_) (fun h51 => ?_)
          · refine k_iconst (a := 0) (n := 59) dX9_named_58 rfl rfl ?_
            refine is4 (n := 61) dX9_named_59 rfl trivial ?_
            have hu0 : nI G.2.1 = 0 ↔ G.2.1 = 0 := ⟨fun q => kne0 (by omega) q, fun q => by rw [q]; rfl⟩
            first
              | exact absurd h17 h41
              | exact absurd h41 h17
              | (have k1 := key (c = 107) (c = (if G.2.1 = 0 then 108 else 119)) (c = (if G.2.1 = 0 then 112 else 98)) Iff.rfl Iff.rfl Iff.rfl
                 first
                   | simp only [if_pos (hu0.mp h17)] at k1
                   | simp only [if_neg (fun q => h17 (hu0.mpr q))] at k1
                 first | rw [kb_t h3] at k1 | rw [kb_f h3] at k1
                 first | rw [kb_t h27] at k1 | rw [kb_f h27] at k1
                 first | rw [kb_t h51] at k1 | rw [kb_f h51] at k1
                 exact k1)
          · refine k_iconst (a := 1) (n := 55) dX9_named_54 rfl rfl ?_
            refine k_goto (n := 59) dX9_named_55 (by decide) ?_
            refine is4 (n := 61) dX9_named_59 rfl trivial ?_
            have hu0 : nI G.2.1 = 0 ↔ G.2.1 = 0 := ⟨fun q => kne0 (by omega) q, fun q => by rw [q]; rfl⟩
            first
              | exact absurd h17 h41
              | exact absurd h41 h17
              | (have k1 := key (c = 107) (c = (if G.2.1 = 0 then 108 else 119)) (c = (if G.2.1 = 0 then 112 else 98)) Iff.rfl Iff.rfl Iff.rfl
                 first
                   | simp only [if_pos (hu0.mp h17)] at k1
                   | simp only [if_neg (fun q => h17 (hu0.mpr q))] at k1
                 first | rw [kb_t h3] at k1 | rw [kb_f h3] at k1
                 first | rw [kb_t h27] at k1 | rw [kb_f h27] at k1
                 first | rw [kb_t h51] at k1 | rw [kb_f h51] at k1
                 exact k1)
        · refine k_bipush (a := 112) (n := 46) dX9_named_44 rfl rfl ?_
          refine k_goto (n := 51) dX9_named_46 (by decide) ?_
          refine k_icmp_ne (t := 58) (n := 54) dX9_named_51 (by decide) rfl (fun h51 => ?_) (fun h51 => ?_)
          · refine k_iconst (a := 0) (n := 59) dX9_named_58 rfl rfl ?_
            refine is4 (n := 61) dX9_named_59 rfl trivial ?_
            have hu0 : nI G.2.1 = 0 ↔ G.2.1 = 0 := ⟨fun q => kne0 (by omega) q, fun q => by rw [q]; rfl⟩
            first
              | exact absurd h17 h41
              | exact absurd h41 h17
              | (have k1 := key (c = 107) (c = (if G.2.1 = 0 then 108 else 119)) (c = (if G.2.1 = 0 then 112 else 98)) Iff.rfl Iff.rfl Iff.rfl
                 first
                   | simp only [if_pos (hu0.mp h17)] at k1
                   | simp only [if_neg (fun q => h17 (hu0.mpr q))] at k1
                 first | rw [kb_t h3] at k1 | rw [kb_f h3] at k1
                 first | rw [kb_t h27] at k1 | rw [kb_f h27] at k1
                 first | rw [kb_t h51] at k1 | rw [kb_f h51] at k1
                 exact k1)
          · refine k_iconst (a := 1) (n := 55) dX9_named_54 rfl rfl ?_
            refine k_goto (n := 59) dX9_named_55 (by decide) ?_
            refine is4 (n := 61) dX9_named_59 rfl trivial ?_
            have hu0 : nI G.2.1 = 0 ↔ G.2.1 = 0 := ⟨fun q => kne0 (by omega) q, fun q => by rw [q]; rfl⟩
            first
              | exact absurd h17 h41
              | exact absurd h41 h17
              | (have k1 := key (c = 107) (c = (if G.2.1 = 0 then 108 else 119)) (c = (if G.2.1 = 0 then 112 else 98)) Iff.rfl Iff.rfl Iff.rfl
                 first
                   | simp only [if_pos (hu0.mp h17)] at k1
                   | simp only [if_neg (fun q => h17 (hu0.mpr q))] at k1
                 first | rw [kb_t h3] at k1 | rw [kb_f h3] at k1
                 first | rw [kb_t h27] at k1 | rw [kb_f h27] at k1
                 first | rw [kb_t h51] at k1 | rw [kb_f h51] at k1
                 exact k1)
  · refine k_iconst (a := 1) (n := 7) dX9_named_6 rfl rfl ?_
    refine k_goto (n := 11) dX9_named_7 (by decide) ?_
    refine is2 (n := 12) dX9_named_11 rfl trivial ?_
    refine il1 (n := 13) dX9_named_12 rfl ?_
    refine al0 (n := 14) dX9_named_13 rfl ?_
    refine gsX9_94 (n := 17) dX9_named_14 rfl rfl rfl ?_
    rw [h7]
    refine k_if_ne (t := 25) (n := 20) dX9_named_17 (by decide) rfl (fun h17 => ?_) (fun h17 => ?_)
    · refine k_bipush (a := 119) (n := 27) dX9_named_25 rfl rfl ?_
      refine k_icmp_ne (t := 34) (n := 30) dX9_named_27 (by decide) rfl (fun h27 => ?_) (fun h27 => ?_)
      · refine k_iconst (a := 0) (n := 35) dX9_named_34 rfl rfl ?_
        refine is3 (n := 36) dX9_named_35 rfl trivial ?_
        refine il1 (n := 37) dX9_named_36 rfl ?_
        refine al0 (n := 38) dX9_named_37 rfl ?_
        refine gsX9_94 (n := 41) dX9_named_38 rfl rfl rfl ?_
        rw [h7]
        refine k_if_ne (t := 49) (n := 44) dX9_named_41 (by decide) rfl (fun h41 => ?_) (fun h41 => ?_)
        · refine k_bipush (a := 98) (n := 51) dX9_named_49 rfl rfl ?_
          refine k_icmp_ne (t := 58) (n := 54) dX9_named_51 (by decide) rfl (fun h51 => ?_) (fun h51 => ?_)
          · refine k_iconst (a := 0) (n := 59) dX9_named_58 rfl rfl ?_
            refine is4 (n := 61) dX9_named_59 rfl trivial ?_
            have hu0 : nI G.2.1 = 0 ↔ G.2.1 = 0 := ⟨fun q => kne0 (by omega) q, fun q => by rw [q]; rfl⟩
            first
              | exact absurd h17 h41
              | exact absurd h41 h17
              | (have k1 := key (c = 107) (c = (if G.2.1 = 0 then 108 else 119)) (c = (if G.2.1 = 0 then 112 else 98)) Iff.rfl Iff.rfl Iff.rfl
                 first
                   | simp only [if_pos (hu0.mp h17)] at k1
                   | simp only [if_neg (fun q => h17 (hu0.mpr q))] at k1
                 first | rw [kb_t h3] at k1 | rw [kb_f h3] at k1
                 first | rw [kb_t h27] at k1 | rw [kb_f h27] at k1
                 first | rw [kb_t h51] at k1 | rw [kb_f h51] at k1
                 exact k1)
          · refine k_iconst (a := 1) (n := 55) dX9_named_54 rfl rfl ?_
            refine k_goto (n := 59) dX9_named_55 (by decide) ?_
            refine is4 (n := 61) dX9_named_59 rfl trivial ?_
            have hu0 : nI G.2.1 = 0 ↔ G.2.1 = 0 := ⟨fun q => kne0 (by omega) q, fun q => by rw [q]; rfl⟩
            first
              | exact absurd h17 h41
              | exact absurd h41 h17
              | (have k1 := key (c = 107) (c = (if G.2.1 = 0 then 108 else 119)) (c = (if G.2.1 = 0 then 112 else 98)) Iff.rfl Iff.rfl Iff.rfl
                 first
                   | simp only [if_pos (hu0.mp h17)] at k1
                   | simp only [if_neg (fun q => h17 (hu0.mpr q))] at k1
                 first | rw [kb_t h3] at k1 | rw [kb_f h3] at k1
                 first | rw [kb_t h27] at k1 | rw [kb_f h27] at k1
                 first | rw [kb_t h51] at k1 | rw [kb_f h51] at k1
                 exact k1)
        · refine k_bipush (a := 112) (n := 46) dX9_named_44 rfl rfl ?_
          refine k_goto (n := 51) dX9_named_46 (by decide) ?_
          refine k_icmp_ne (t := 58) (n := 54) dX9_named_51 (by decide) rfl (fun h51 => ?_) (fun h51 => ?_)
          · refine k_iconst (a := 0) (n := 59) dX9_named_58 rfl rfl ?_
            refine is4 (n := 61) dX9_named_59 rfl trivial ?_
            have hu0 : nI G.2.1 = 0 ↔ G.2.1 = 0 := ⟨fun q => kne0 (by omega) q, fun q => by rw [q]; rfl⟩
            first
              | exact absurd h17 h41
              | exact absurd h41 h17
              | (have k1 := key (c = 107) (c = (if G.2.1 = 0 then 108 else 119)) (c = (if G.2.1 = 0 then 112 else 98)) Iff.rfl Iff.rfl Iff.rfl
                 first
                   | simp only [if_pos (hu0.mp h17)] at k1
                   | simp only [if_neg (fun q => h17 (hu0.mpr q))] at k1
                 first | rw [kb_t h3] at k1 | rw [kb_f h3] at k1
                 first | rw [kb_t h27] at k1 | rw [kb_f h27] at k1
                 first | rw [kb_t h51] at k1 | rw [kb_f h51] at k1
                 exact k1)
          · refine k_iconst (a := 1) (n := 55) dX9_named_54 rfl rfl ?_
            refine k_goto (n := 59) dX9_named_55 (by decide) ?_
            refine is4 (n := 61) dX9_named_59 rfl trivial ?_
            have hu0 : nI G.2.1 = 0 ↔ G.2.1 = 0 := ⟨fun q => kne0 (by omega) q, fun q => by rw [q]; rfl⟩
            first
              | exact absurd h17 h41
              | exact absurd h41 h17
              | (have k1 := key (c = 107) (c = (if G.2.1 = 0 then 108 else 119)) (c = (if G.2.1 = 0 then 112 else 98)) Iff.rfl Iff.rfl Iff.rfl
                 first
                   | simp only [if_pos (hu0.mp h17)] at k1
                   | simp only [if_neg (fun q => h17 (hu0.mpr q))] at k1
                 first | rw [kb_t h3] at k1 | rw [kb_f h3] at k1
                 first | rw [kb_t h27] at k1 | rw [kb_f h27] at k1
                 first | rw [kb_t h51] at k1 | rw [kb_f h51] at k1
                 exact k1)
      · refine k_iconst (a := 1) (n := 31) dX9_named_30 rfl rfl ?_
        refine k_goto (n := 35) dX9_named_31 (by decide) ?_
        refine is3 (n := 36) dX9_named_35 rfl trivial ?_
        refine il1 (n := 37) dX9_named_36 rfl ?_
        refine al0 (n := 38) dX9_named_37 rfl ?_
        refine gsX9_94 (n := 41) dX9_named_38 rfl rfl rfl ?_
        rw [h7]
        refine k_if_ne (t := 49) (n := 44) dX9_named_41 (by decide) rfl (fun h41 => ?_) (fun h41 => ?_)
        · refine k_bipush (a := 98) (n := 51) dX9_named_49 rfl rfl ?_
          refine k_icmp_ne (t := 58) (n := 54) dX9_named_51 (by decide) rfl (fun h51 => ?_) (fun h51 => ?_)
          · refine k_iconst (a := 0) (n := 59) dX9_named_58 rfl rfl ?_
            refine is4 (n := 61) dX9_named_59 rfl trivial ?_
            have hu0 : nI G.2.1 = 0 ↔ G.2.1 = 0 := ⟨fun q => kne0 (by omega) q, fun q => by rw [q]; rfl⟩
            first
              | exact absurd h17 h41
              | exact absurd h41 h17
              | (have k1 := key (c = 107) (c = (if G.2.1 = 0 then 108 else 119)) (c = (if G.2.1 = 0 then 112 else 98)) Iff.rfl Iff.rfl Iff.rfl
                 first
                   | simp only [if_pos (hu0.mp h17)] at k1
                   | simp only [if_neg (fun q => h17 (hu0.mpr q))] at k1
                 first | rw [kb_t h3] at k1 | rw [kb_f h3] at k1
                 first | rw [kb_t h27] at k1 | rw [kb_f h27] at k1
                 first | rw [kb_t h51] at k1 | rw [kb_f h51] at k1
                 exact k1)
          · refine k_iconst (a := 1) (n := 55) dX9_named_54 rfl rfl ?_
            refine k_goto (n := 59) dX9_named_55 (by decide) ?_
            refine is4 (n := 61) dX9_named_59 rfl trivial ?_
            have hu0 : nI G.2.1 = 0 ↔ G.2.1 = 0 := ⟨fun q => kne0 (by omega) q, fun q => by rw [q]; rfl⟩
            first
              | exact absurd h17 h41
              | exact absurd h41 h17
              | (have k1 := key (c = 107) (c = (if G.2.1 = 0 then 108 else 119)) (c = (if G.2.1 = 0 then 112 else 98)) Iff.rfl Iff.rfl Iff.rfl
                 first
                   | simp only [if_pos (hu0.mp h17)] at k1
                   | simp only [if_neg (fun q => h17 (hu0.mpr q))] at k1
                 first | rw [kb_t h3] at k1 | rw [kb_f h3] at k1
                 first | rw [kb_t h27] at k1 | rw [kb_f h27] at k1
                 first | rw [kb_t h51] at k1 | rw [kb_f h51] at k1
                 exact k1)
        · refine k_bipush (a := 112) (n := 46) dX9_named_44 rfl rfl ?_
          refine k_goto (n := 51) dX9_named_46 (by decide) ?_
          refine k_icmp_ne (t := 58) (n := 54) dX9_named_51 (by decide) rfl (fun h51 => ?_) (fun h51 => ?_)
          · refine k_iconst (a := 0) (n := 59) dX9_named_58 rfl rfl ?_
            refine is4 (n := 61) dX9_named_59 rfl trivial ?_
            have hu0 : nI G.2.1 = 0 ↔ G.2.1 = 0 := ⟨fun q => kne0 (by omega) q, fun q => by rw [q]; rfl⟩
            first
              | exact absurd h17 h41
              | exact absurd h41 h17
              | (have k1 := key (c = 107) (c = (if G.2.1 = 0 then 108 else 119)) (c = (if G.2.1 = 0 then 112 else 98)) Iff.rfl Iff.rfl Iff.rfl
                 first
                   | simp only [if_pos (hu0.mp h17)] at k1
                   | simp only [if_neg (fun q => h17 (hu0.mpr q))] at k1
                 first | rw [kb_t h3] at k1 | rw [kb_f h3] at k1
                 first | rw [kb_t h27] at k1 | rw [kb_f h27] at k1
                 first | rw [kb_t h51] at k1 | rw [kb_f h51] at k1
                 exact k1)
          · refine k_iconst (a := 1) (n := 55) dX9_named_54 rfl rfl ?_
            refine k_goto (n := 59) dX9_named_55 (by decide) ?_
            refine is4 (n := 61) dX9_named_59 rfl trivial ?_
            have hu0 : nI G.2.1 = 0 ↔ G.2.1 = 0 := ⟨fun q => kne0 (by omega) q, fun q => by rw [q]; rfl⟩
            first
              | exact absurd h17 h41
              | exact absurd h41 h17
              | (have k1 := key (c = 107) (c = (if G.2.1 = 0 then 108 else 119)) (c = (if G.2.1 = 0 then 112 else 98)) Iff.rfl Iff.rfl Iff.rfl
                 first
                   | simp only [if_pos (hu0.mp h17)] at k1
                   | simp only [if_neg (fun q => h17 (hu0.mpr q))] at k1
                 first | rw [kb_t h3] at k1 | rw [kb_f h3] at k1
                 first | rw [kb_t h27] at k1 | rw [kb_f h27] at k1
                 first | rw [kb_t h51] at k1 | rw [kb_f h51] at k1
                 exact k1)
    · refine k_bipush (a := 108) (n := 22) dX9_named_20 rfl rfl ?_
      refine k_goto (n := 27) dX9_named_22 (by decide) ?_
      refine k_icmp_ne (t := 34) (n := 30) dX9_named_27 (by decide) rfl (fun h27 => ?_) (fun h27 => ?_)
      · refine k_iconst (a := 0) (n := 35) dX9_named_34 rfl rfl ?_
        refine is3 (n := 36) dX9_named_35 rfl trivial ?_
        refine il1 (n := 37) dX9_named_36 rfl ?_
        refine al0 (n := 38) dX9_named_37 rfl ?_
        refine gsX9_94 (n := 41) dX9_named_38 rfl rfl rfl ?_
        rw [h7]
        refine k_if_ne (t := 49) (n := 44) dX9_named_41 (by decide) rfl (fun h41 => ?_) (fun h41 => ?_)
        · refine k_bipush (a := 98) (n := 51) dX9_named_49 rfl rfl ?_
          refine k_icmp_ne (t := 58) (n := 54) dX9_named_51 (by decide) rfl (fun h51 => ?_) (fun h51 => ?_)
          · refine k_iconst (a := 0) (n := 59) dX9_named_58 rfl rfl ?_
            refine is4 (n := 61) dX9_named_59 rfl trivial ?_
            have hu0 : nI G.2.1 = 0 ↔ G.2.1 = 0 := ⟨fun q => kne0 (by omega) q, fun q => by rw [q]; rfl⟩
            first
              | exact absurd h17 h41
              | exact absurd h41 h17
              | (have k1 := key (c = 107) (c = (if G.2.1 = 0 then 108 else 119)) (c = (if G.2.1 = 0 then 112 else 98)) Iff.rfl Iff.rfl Iff.rfl
                 first
                   | simp only [if_pos (hu0.mp h17)] at k1
                   | simp only [if_neg (fun q => h17 (hu0.mpr q))] at k1
                 first | rw [kb_t h3] at k1 | rw [kb_f h3] at k1
                 first | rw [kb_t h27] at k1 | rw [kb_f h27] at k1
                 first | rw [kb_t h51] at k1 | rw [kb_f h51] at k1
                 exact k1)
          · refine k_iconst (a := 1) (n := 55) dX9_named_54 rfl rfl ?_
            refine k_goto (n := 59) dX9_named_55 (by decide) ?_
            refine is4 (n := 61) dX9_named_59 rfl trivial ?_
            have hu0 : nI G.2.1 = 0 ↔ G.2.1 = 0 := ⟨fun q => kne0 (by omega) q, fun q => by rw [q]; rfl⟩
            first
              | exact absurd h17 h41
              | exact absurd h41 h17
              | (have k1 := key (c = 107) (c = (if G.2.1 = 0 then 108 else 119)) (c = (if G.2.1 = 0 then 112 else 98)) Iff.rfl Iff.rfl Iff.rfl
                 first
                   | simp only [if_pos (hu0.mp h17)] at k1
                   | simp only [if_neg (fun q => h17 (hu0.mpr q))] at k1
                 first | rw [kb_t h3] at k1 | rw [kb_f h3] at k1
                 first | rw [kb_t h27] at k1 | rw [kb_f h27] at k1
                 first | rw [kb_t h51] at k1 | rw [kb_f h51] at k1
                 exact k1)
        · refine k_bipush (a := 112) (n := 46) dX9_named_44 rfl rfl ?_
          refine k_goto (n := 51) dX9_named_46 (by decide) ?_
          refine k_icmp_ne (t := 58) (n := 54) dX9_named_51 (by decide) rfl (fun h51 => ?_) (fun h51 => ?_)
          · refine k_iconst (a := 0) (n := 59) dX9_named_58 rfl rfl ?_
            refine is4 (n := 61) dX9_named_59 rfl trivial ?_
            have hu0 : nI G.2.1 = 0 ↔ G.2.1 = 0 := ⟨fun q => kne0 (by omega) q, fun q => by rw [q]; rfl⟩
            first
              | exact absurd h17 h41
              | exact absurd h41 h17
              | (have k1 := key (c = 107) (c = (if G.2.1 = 0 then 108 else 119)) (c = (if G.2.1 = 0 then 112 else 98)) Iff.rfl Iff.rfl Iff.rfl
                 first
                   | simp only [if_pos (hu0.mp h17)] at k1
                   | simp only [if_neg (fun q => h17 (hu0.mpr q))] at k1
                 first | rw [kb_t h3] at k1 | rw [kb_f h3] at k1
                 first | rw [kb_t h27] at k1 | rw [kb_f h27] at k1
                 first | rw [kb_t h51] at k1 | rw [kb_f h51] at k1
                 exact k1)
          · refine k_iconst (a := 1) (n := 55) dX9_named_54 rfl rfl ?_
            refine k_goto (n := 59) dX9_named_55 (by decide) ?_
            refine is4 (n := 61) dX9_named_59 rfl trivial ?_
            have hu0 : nI G.2.1 = 0 ↔ G.2.1 = 0 := ⟨fun q => kne0 (by omega) q, fun q => by rw [q]; rfl⟩
            first
              | exact absurd h17 h41
              | exact absurd h41 h17
              | (have k1 := key (c = 107) (c = (if G.2.1 = 0 then 108 else 119)) (c = (if G.2.1 = 0 then 112 else 98)) Iff.rfl Iff.rfl Iff.rfl
                 first
                   | simp only [if_pos (hu0.mp h17)] at k1
                   | simp only [if_neg (fun q => h17 (hu0.mpr q))] at k1
                 first | rw [kb_t h3] at k1 | rw [kb_f h3] at k1
                 first | rw [kb_t h27] at k1 | rw [kb_f h27] at k1
                 first | rw [kb_t h51] at k1 | rw [kb_f h51] at k1
                 exact k1)
      · refine k_iconst (a := 1) (n := 31) dX9_named_30 rfl rfl ?_
        refine k_goto (n := 35) dX9_named_31 (by decide) ?_
        refine is3 (n := 36) dX9_named_35 rfl trivial ?_
        refine il1 (n := 37) dX9_named_36 rfl ?_
        refine al0 (n := 38) dX9_named_37 rfl ?_
        refine gsX9_94 (n := 41) dX9_named_38 rfl rfl rfl ?_
        rw [h7]
        refine k_if_ne (t := 49) (n := 44) dX9_named_41 (by decide) rfl (fun h41 => ?_) (fun h41 => ?_)
        · refine k_bipush (a := 98) (n := 51) dX9_named_49 rfl rfl ?_
          refine k_icmp_ne (t := 58) (n := 54) dX9_named_51 (by decide) rfl (fun h51 => ?_) (fun h51 => ?_)
          · refine k_iconst (a := 0) (n := 59) dX9_named_58 rfl rfl ?_
            refine is4 (n := 61) dX9_named_59 rfl trivial ?_
            have hu0 : nI G.2.1 = 0 ↔ G.2.1 = 0 := ⟨fun q => kne0 (by omega) q, fun q => by rw [q]; rfl⟩
            first
              | exact absurd h17 h41
              | exact absurd h41 h17
              | (have k1 := key (c = 107) (c = (if G.2.1 = 0 then 108 else 119)) (c = (if G.2.1 = 0 then 112 else 98)) Iff.rfl Iff.rfl Iff.rfl
                 first
                   | simp only [if_pos (hu0.mp h17)] at k1
                   | simp only [if_neg (fun q => h17 (hu0.mpr q))] at k1
                 first | rw [kb_t h3] at k1 | rw [kb_f h3] at k1
                 first | rw [kb_t h27] at k1 | rw [kb_f h27] at k1
                 first | rw [kb_t h51] at k1 | rw [kb_f h51] at k1
                 exact k1)
          · refine k_iconst (a := 1) (n := 55) dX9_named_54 rfl rfl ?_
            refine k_goto (n := 59) dX9_named_55 (by decide) ?_
            refine is4 (n := 61) dX9_named_59 rfl trivial ?_
            have hu0 : nI G.2.1 = 0 ↔ G.2.1 = 0 := ⟨fun q => kne0 (by omega) q, fun q => by rw [q]; rfl⟩
            first
              | exact absurd h17 h41
              | exact absurd h41 h17
              | (have k1 := key (c = 107) (c = (if G.2.1 = 0 then 108 else 119)) (c = (if G.2.1 = 0 then 112 else 98)) Iff.rfl Iff.rfl Iff.rfl
                 first
                   | simp only [if_pos (hu0.mp h17)] at k1
                   | simp only [if_neg (fun q => h17 (hu0.mpr q))] at k1
                 first | rw [kb_t h3] at k1 | rw [kb_f h3] at k1
                 first | rw [kb_t h27] at k1 | rw [kb_f h27] at k1
                 first | rw [kb_t h51] at k1 | rw [kb_f h51] at k1
                 exact k1)
        · refine k_bipush (a := 112) (n := 46) dX9_named_44 rfl rfl ?_
          refine k_goto (n := 51) dX9_named_46 (by decide) ?_
          refine k_icmp_ne (t := 58) (n := 54) dX9_named_51 (by decide) rfl (fun h51 => ?_) (fun h51 => ?_)
          · refine k_iconst (a := 0) (n := 59) dX9_named_58 rfl rfl ?_
            refine is4 (n := 61) dX9_named_59 rfl trivial ?_
            have hu0 : nI G.2.1 = 0 ↔ G.2.1 = 0 := ⟨fun q => kne0 (by omega) q, fun q => by rw [q]; rfl⟩
            first
              | exact absurd h17 h41
              | exact absurd h41 h17
              | (have k1 := key (c = 107) (c = (if G.2.1 = 0 then 108 else 119)) (c = (if G.2.1 = 0 then 112 else 98)) Iff.rfl Iff.rfl Iff.rfl
                 first
                   | simp only [if_pos (hu0.mp h17)] at k1
                   | simp only [if_neg (fun q => h17 (hu0.mpr q))] at k1
                 first | rw [kb_t h3] at k1 | rw [kb_f h3] at k1
                 first | rw [kb_t h27] at k1 | rw [kb_f h27] at k1
                 first | rw [kb_t h51] at k1 | rw [kb_f h51] at k1
                 exact k1)
          · refine k_iconst (a := 1) (n := 55) dX9_named_54 rfl rfl ?_
            refine k_goto (n := 59) dX9_named_55 (by decide) ?_
            refine is4 (n := 61) dX9_named_59 rfl trivial ?_
            have hu0 : nI G.2.1 = 0 ↔ G.2.1 = 0 := ⟨fun q => kne0 (by omega) q, fun q => by rw [q]; rfl⟩
            first
              | exact absurd h17 h41
              | exact absurd h41 h17
              | (have k1 := key (c = 107) (c = (if G.2.1 = 0 then 108 else 119)) (c = (if G.2.1 = 0 then 112 else 98)) Iff.rfl Iff.rfl Iff.rfl
                 first
                   | simp only [if_pos (hu0.mp h17)] at k1
                   | simp only [if_neg (fun q => h17 (hu0.mpr q))] at k1
                 first | rw [kb_t h3] at k1 | rw [kb_f h3] at k1
                 first | rw [kb_t h27] at k1 | rw [kb_f h27] at k1
                 first | rw [kb_t h51] at k1 | rw [kb_f h51] at k1
                 exact k1)
end M15

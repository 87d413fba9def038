/-- a level's contract at a fuel that suffices -/
def pOK (E : kE) (y : kY) (n md : Nat) : Prop := ∀ (d : Nat) (I : Nat → Nat → Int32) (o : Nat → Int32) (G : pG) (e a op : Nat), pC I o G e → a ≤ e → op ≤ 5 → o 8 = nI a → o 10 = nI op → o 14 = 1 → 16 * (e + 1 - a) + rkF md ≤ n → 3 + 6 * (5 - op) + (5 - md) ≤ d → Ct E d y 0 0 [.ref 81] (kJ (kset I 81 o)) (pQ I o (pz G n md 0 a op))
theorem pz0 (G : pG) (n : Nat) (v : Int32) (a op : Nat) : pz G (n + 1) 0 v a op = if (pz G n 1 0 a op).2.2 then pz G n 10 (pz G n 1 0 a op).1 (pz G n 1 0 a op).2.1 op else pz G n 1 0 a op := rfl
theorem pz1 (G : pG) (n : Nat) (v : Int32) (a op : Nat) : pz G (n + 1) 1 v a op = if (pz G n 2 0 a op).2.2 then pz G n 11 (pz G n 2 0 a op).1 (pz G n 2 0 a op).2.1 op else pz G n 2 0 a op := rfl
theorem pz2 (G : pG) (n : Nat) (v : Int32) (a op : Nat) : pz G (n + 1) 2 v a op = if (pz G n 3 0 a op).2.2 then (if G.1 (pz G n 3 0 a op).2.1 = 60 ∨ G.1 (pz G n 3 0 a op).2.1 = 61 ∨ G.1 (pz G n 3 0 a op).2.1 = 62 then (cmpF (G.1 (pz G n 3 0 a op).2.1) (pz G n 3 0 a op).1 (pz G n 3 0 ((pz G n 3 0 a op).2.1 + 1) op).1, (pz G n 3 0 ((pz G n 3 0 a op).2.1 + 1) op).2.1, (pz G n 3 0 ((pz G n 3 0 a op).2.1 + 1) op).2.2) else pz G n 3 0 a op) else pz G n 3 0 a op := rfl
theorem pz3 (G : pG) (n : Nat) (v : Int32) (a op : Nat) : pz G (n + 1) 3 v a op = if (pz G n 4 0 a op).2.2 then pz G n 13 (pz G n 4 0 a op).1 (pz G n 4 0 a op).2.1 op else pz G n 4 0 a op := rfl
theorem pz4 (G : pG) (n : Nat) (v : Int32) (a op : Nat) : pz G (n + 1) 4 v a op = if (pz G n 5 0 a op).2.2 then pz G n 14 (pz G n 5 0 a op).1 (pz G n 5 0 a op).2.1 op else pz G n 5 0 a op := rfl
theorem pz5 (G : pG) (n : Nat) (v : Int32) (a op : Nat) : pz G (n + 1) 5 v a op = if 48 ≤ G.1 a ∧ G.1 a ≤ 57 then ((numF G.1 4 0 a).1, (numF G.1 4 0 a).2, true) else if G.1 a = 33 then (if op = 5 then (0, a, false) else (kb ((pz G n 5 0 (a + 1) (op + 1)).1 = 0), (pz G n 5 0 (a + 1) (op + 1)).2.1, (pz G n 5 0 (a + 1) (op + 1)).2.2)) else if G.1 a = 40 then (if op = 5 then (0, a, false) else (if (pz G n 0 0 (a + 1) (op + 1)).2.2 then (if G.1 (pz G n 0 0 (a + 1) (op + 1)).2.1 = 41 then ((pz G n 0 0 (a + 1) (op + 1)).1, (pz G n 0 0 (a + 1) (op + 1)).2.1 + 1, true) else (0, (pz G n 0 0 (a + 1) (op + 1)).2.1, false)) else (0, (pz G n 0 0 (a + 1) (op + 1)).2.1, false))) else namF G (G.1 a) a := rfl
theorem pz10 (G : pG) (n : Nat) (v : Int32) (a op : Nat) : pz G (n + 1) 10 v a op = if G.1 a = 124 then (if (pz G n 1 0 (a + 1) op).2.2 then pz G n 10 (kb (¬ v = 0 ∨ ¬ (pz G n 1 0 (a + 1) op).1 = 0)) (pz G n 1 0 (a + 1) op).2.1 op else (kb (¬ v = 0 ∨ ¬ (pz G n 1 0 (a + 1) op).1 = 0), (pz G n 1 0 (a + 1) op).2.1, false)) else (v, a, true) := rfl
theorem pz11 (G : pG) (n : Nat) (v : Int32) (a op : Nat) : pz G (n + 1) 11 v a op = if G.1 a = 38 then (if (pz G n 2 0 (a + 1) op).2.2 then pz G n 11 (kb (¬ v = 0 ∧ ¬ (pz G n 2 0 (a + 1) op).1 = 0)) (pz G n 2 0 (a + 1) op).2.1 op else (kb (¬ v = 0 ∧ ¬ (pz G n 2 0 (a + 1) op).1 = 0), (pz G n 2 0 (a + 1) op).2.1, false)) else (v, a, true) := rfl
theorem pz13 (G : pG) (n : Nat) (v : Int32) (a op : Nat) : pz G (n + 1) 13 v a op = if G.1 a = 43 ∨ G.1 a = 45 then (if (pz G n 4 0 (a + 1) op).2.2 then pz G n 13 (if G.1 a = 43 then v + (pz G n 4 0 (a + 1) op).1 else v - (pz G n 4 0 (a + 1) op).1) (pz G n 4 0 (a + 1) op).2.1 op else ((if G.1 a = 43 then v + (pz G n 4 0 (a + 1) op).1 else v - (pz G n 4 0 (a + 1) op).1), (pz G n 4 0 (a + 1) op).2.1, false)) else (v, a, true) := rfl
theorem pz14 (G : pG) (n : Nat) (v : Int32) (a op : Nat) : pz G (n + 1) 14 v a op = if G.1 a = 42 ∨ G.1 a = 47 ∨ G.1 a = 37 then (if (pz G n 5 0 (a + 1) op).2.2 then pz G n 14 (mulF (G.1 a) v (pz G n 5 0 (a + 1) op).1) (pz G n 5 0 (a + 1) op).2.1 op else (mulF (G.1 a) v (pz G n 5 0 (a + 1) op).1, (pz G n 5 0 (a + 1) op).2.1, false)) else (v, a, true) := rfl
theorem namF_at (G : pG) {e : Nat} (hB : ∀ k, e ≤ k → G.1 k = -1) (a : Nat) (h : a ≤ e) : a ≤ (namF G (G.1 a) a).2.1 ∧ (namF G (G.1 a) a).2.1 ≤ e := by
  have hn : ∀ x : Int32, ¬ x = -1 → G.1 a = x → a + 1 ≤ e := fun x hx hc => by
    rcases Nat.lt_or_ge a e with q | q
    · exact q
    · exact absurd (hc.symm.trans (hB a q)) hx
  unfold namF
  by_cases h1 : G.1 a = 107
  · rw [if_pos h1]; exact ⟨Nat.le_succ _, hn _ (by decide) h1⟩
  · rw [if_neg h1]
    by_cases h2 : G.1 a = (if G.2.1 = 0 then 108 else 119)
    · rw [if_pos h2]; exact ⟨Nat.le_succ _, hn _ (by split <;> decide) h2⟩
    · rw [if_neg h2]
      by_cases h3 : G.1 a = (if G.2.1 = 0 then 112 else 98)
      · rw [if_pos h3]; exact ⟨Nat.le_succ _, hn _ (by split <;> decide) h3⟩
      · rw [if_neg h3]; exact ⟨Nat.le_refl _, h⟩
theorem pz_at (G : pG) {e : Nat} (hB : ∀ k, e ≤ k → G.1 k = -1) : ∀ n md, (md = 0 ∨ md = 1 ∨ md = 2 ∨ md = 3 ∨ md = 4 ∨ md = 5 ∨ md = 10 ∨ md = 11 ∨ md = 13 ∨ md = 14) → ∀ v a op, a ≤ e → a ≤ (pz G n md v a op).2.1 ∧ (pz G n md v a op).2.1 ≤ e := by
  intro n
  have hlt : ∀ k c, G.1 k = c → ¬ c = -1 → k < e := fun k c hk hc => by
    rcases Nat.lt_or_ge k e with q | q
    · exact q
    · exact absurd ((hk.symm.trans (hB k q))) hc
  induction n with
  | zero => intro md _ v a op h; exact ⟨Nat.le_refl _, h⟩
  | succ n ih =>
    intro md hmd v a op h
    rcases hmd with rfl | rfl | rfl | rfl | rfl | rfl | rfl | rfl | rfl | rfl
    · rw [pz0]
      have h1 := ih 1 (by decide) 0 a op h
      have h2 := ih 10 (by decide) (pz G n 1 0 a op).1 (pz G n 1 0 a op).2.1 op h1.2
      split <;> omega
    · rw [pz1]
      have h1 := ih 2 (by decide) 0 a op h
      have h2 := ih 11 (by decide) (pz G n 2 0 a op).1 (pz G n 2 0 a op).2.1 op h1.2
      split <;> omega
    · rw [pz2]
      have h1 := ih 3 (by decide) 0 a op h
      by_cases hg : (pz G n 3 0 a op).2.2 = true
      · rw [if_pos hg]
        by_cases hs : G.1 (pz G n 3 0 a op).2.1 = 60 ∨ G.1 (pz G n 3 0 a op).2.1 = 61 ∨ G.1 (pz G n 3 0 a op).2.1 = 62
        · rw [if_pos hs]
          have hl : (pz G n 3 0 a op).2.1 < e := by rcases hs with q | q | q <;> exact hlt _ _ q (by decide)
          have h2 := ih 3 (by decide) 0 ((pz G n 3 0 a op).2.1 + 1) op (by omega)
          exact ⟨by show a ≤ (pz G n 3 0 ((pz G n 3 0 a op).2.1 + 1) op).2.1; omega, h2.2⟩
        · rw [if_neg hs]; exact h1
      · rw [if_neg hg]; exact h1
    · rw [pz3]
      have h1 := ih 4 (by decide) 0 a op h
      have h2 := ih 13 (by decide) (pz G n 4 0 a op).1 (pz G n 4 0 a op).2.1 op h1.2
      split <;> omega
    · rw [pz4]
      have h1 := ih 5 (by decide) 0 a op h
      have h2 := ih 14 (by decide) (pz G n 5 0 a op).1 (pz G n 5 0 a op).2.1 op h1.2
      split <;> omega
    · rw [pz5]
      by_cases h1 : 48 ≤ G.1 a ∧ G.1 a ≤ 57
      · rw [if_pos h1]; exact numF_le G.1 hB 4 0 a h
      · rw [if_neg h1]
        by_cases h33 : G.1 a = 33
        · rw [if_pos h33]
          have hl := hlt a _ h33 (by decide)
          by_cases h5 : op = 5
          · rw [if_pos h5]; exact ⟨Nat.le_refl _, h⟩
          · rw [if_neg h5]
            have h2 := ih 5 (by decide) 0 (a + 1) (op + 1) (by omega)
            exact ⟨by show a ≤ (pz G n 5 0 (a + 1) (op + 1)).2.1; omega, h2.2⟩
        · rw [if_neg h33]
          by_cases h40 : G.1 a = 40
          · rw [if_pos h40]
            have hl := hlt a _ h40 (by decide)
            by_cases h5 : op = 5
            · rw [if_pos h5]; exact ⟨Nat.le_refl _, h⟩
            · rw [if_neg h5]
              have h2 := ih 0 (by decide) 0 (a + 1) (op + 1) (by omega)
              by_cases hg : (pz G n 0 0 (a + 1) (op + 1)).2.2 = true
              · rw [if_pos hg]
                by_cases h41 : G.1 (pz G n 0 0 (a + 1) (op + 1)).2.1 = 41
                · rw [if_pos h41]
                  have hl2 := hlt _ _ h41 (by decide)
                  exact ⟨by show a ≤ (pz G n 0 0 (a + 1) (op + 1)).2.1 + 1; omega, hl2⟩
                · rw [if_neg h41]
                  exact ⟨by show a ≤ (pz G n 0 0 (a + 1) (op + 1)).2.1; omega, h2.2⟩
              · rw [if_neg hg]
                exact ⟨by show a ≤ (pz G n 0 0 (a + 1) (op + 1)).2.1; omega, h2.2⟩
          · rw [if_neg h40]; exact namF_at G hB a h
    · rw [pz10]
      by_cases hc : G.1 a = 124
      · rw [if_pos hc]
        have hl := hlt a _ hc (by decide)
        have h1 := ih 1 (by decide) 0 (a + 1) op (by omega)
        have h2 := ih 10 (by decide) (kb (¬ v = 0 ∨ ¬ (pz G n 1 0 (a + 1) op).1 = 0)) (pz G n 1 0 (a + 1) op).2.1 op h1.2
        by_cases hg : (pz G n 1 0 (a + 1) op).2.2 = true
        · rw [if_pos hg]; omega
        · rw [if_neg hg]; exact ⟨by show a ≤ (pz G n 1 0 (a + 1) op).2.1; omega, h1.2⟩
      · rw [if_neg hc]; exact ⟨Nat.le_refl _, h⟩
    · rw [pz11]
      by_cases hc : G.1 a = 38
      · rw [if_pos hc]
        have hl := hlt a _ hc (by decide)
        have h1 := ih 2 (by decide) 0 (a + 1) op (by omega)
        have h2 := ih 11 (by decide) (kb (¬ v = 0 ∧ ¬ (pz G n 2 0 (a + 1) op).1 = 0)) (pz G n 2 0 (a + 1) op).2.1 op h1.2
        by_cases hg : (pz G n 2 0 (a + 1) op).2.2 = true
        · rw [if_pos hg]; omega
        · rw [if_neg hg]; exact ⟨by show a ≤ (pz G n 2 0 (a + 1) op).2.1; omega, h1.2⟩
      · rw [if_neg hc]; exact ⟨Nat.le_refl _, h⟩
    · rw [pz13]
      by_cases hc : G.1 a = 43 ∨ G.1 a = 45
      · rw [if_pos hc]
        have hl : a < e := by rcases hc with q | q <;> exact hlt a _ q (by decide)
        have h1 := ih 4 (by decide) 0 (a + 1) op (by omega)
        have h2 := ih 13 (by decide) (if G.1 a = 43 then v + (pz G n 4 0 (a + 1) op).1 else v - (pz G n 4 0 (a + 1) op).1) (pz G n 4 0 (a + 1) op).2.1 op h1.2
        by_cases hg : (pz G n 4 0 (a + 1) op).2.2 = true
        · rw [if_pos hg]; omega
        · rw [if_neg hg]; exact ⟨by show a ≤ (pz G n 4 0 (a + 1) op).2.1; omega, h1.2⟩
      · rw [if_neg hc]; exact ⟨Nat.le_refl _, h⟩
    · rw [pz14]
      by_cases hc : G.1 a = 42 ∨ G.1 a = 47 ∨ G.1 a = 37
      · rw [if_pos hc]
        have hl : a < e := by rcases hc with q | q | q <;> exact hlt a _ q (by decide)
        have h1 := ih 5 (by decide) 0 (a + 1) op (by omega)
        have h2 := ih 14 (by decide) (mulF (G.1 a) v (pz G n 5 0 (a + 1) op).1) (pz G n 5 0 (a + 1) op).2.1 op h1.2
        by_cases hg : (pz G n 5 0 (a + 1) op).2.2 = true
        · rw [if_pos hg]; omega
        · rw [if_neg hg]; exact ⟨by show a ≤ (pz G n 5 0 (a + 1) op).2.1; omega, h1.2⟩
      · rw [if_neg hc]; exact ⟨Nat.le_refl _, h⟩
section M16
variable {E : kE}
set_option maxHeartbeats 2000000 in
set_option maxRecDepth 20000 in
theorem pl_whole (n : Nat) (hC : ∀ m, m ≤ n → pOK E mX9_both m 1) (d : Nat) (I : Nat → Nat → Int32) (o0 : Nat → Int32) (G : pG) (e op : Nat) (hop : op ≤ 5) (hd : 3 + 6 * (5 - op) + (5 - 0) ≤ d) (m : Nat) : m ≤ n + 1 → ∀ (o : Nat → Int32) (v : Int32) (a : Nat) (x2 : Option Value), pC I o G e → a ≤ e → o 8 = nI a → o 10 = nI op → o 14 = 1 → (∀ j, j ≠ 8 → j ≠ 14 → o j = o0 j) → 16 * (e + 1 - a) + rkF 10 ≤ m → Wd E d mX9_whole 0 0 0 0 5 [some (.ref 81), some (.int v), x2] [] (kJ (kset I 81 o)) (pQ I o0 (pz G m 10 v a op)) := by
  induction m with
  | zero => intro hm o v a x2 h ha h8 h10 h14 ho hf; exact absurd hf (by rw [show rkF 10 = 9 from rfl]; omega)
  | succ m ih =>
    intro hm o v a x2 h ha h8 h10 h14 ho hf
    have h50 := h.2.2.2.1
    have hr : rkF 10 = 9 := rfl
    have hr2 : rkF 1 = 8 := rfl
    refine al0 (n := 6) dX9_whole_5 rfl ?_
    refine gsX9_97 (n := 9) dX9_whole_6 rfl rfl rfl ?_
    rw [h14]
    refine k_if_eq (t := 57) (n := 12) dX9_whole_9 (by decide) rfl (fun h9 => ?_) (fun h9 => ?_)
    · exact absurd h9 (by decide)
    · refine al0 (n := 13) dX9_whole_12 rfl ?_
      refine al0 (n := 14) dX9_whole_13 rfl ?_
      refine gsX9_101 (n := 17) dX9_whole_14 rfl rfl rfl ?_
      rw [h8]
      refine qiX9_104 (n := 20) dX9_whole_17 rfl rfl (Nat.le_of_ble_eq_true rfl) (by omega) rfl (m_byteAt h a (by omega)) (Nat.le_refl _) (Nat.le_refl _) ?_
      refine k_bipush (a := 124) (n := 22) dX9_whole_20 rfl rfl ?_
      refine k_icmp_ne (t := 57) (n := 25) dX9_whole_22 (by decide) rfl (fun h22 => ?_) (fun h22 => ?_)
      · refine il1 (n := 58) dX9_whole_57 rfl ?_
        refine k_ireturn (ty := .int) dX9_whole_58 rfl rfl (Nat.le_refl _) (Nat.le_refl _) ?_
        exact ⟨o, by rw [pz10, if_neg h22], rfl, by rw [pz10, if_neg h22]; exact h8, by rw [pz10, if_neg h22]; exact h14.trans (kb_t rfl).symm, ho⟩
      · have hlt : a < e := h.lt (fun q => by rw [h22] at q; exact absurd q (by decide))
        refine al0 (n := 26) dX9_whole_25 rfl ?_
        refine k_dup (n := 27) dX9_whole_26 rfl rfl ?_
        refine gsX9_101 (n := 30) dX9_whole_27 rfl rfl rfl ?_
        rw [h8]
        refine k_iconst (a := 1) (n := 31) dX9_whole_30 rfl rfl ?_
        refine k_iadd (n := 32) dX9_whole_31 rfl ?_
        rw [nI_1 a]
        refine psX9_101 (n := 35) dX9_whole_32 rfl rfl rfl ?_
        refine al0 (n := 36) dX9_whole_35 rfl ?_
        refine qX9_147 (n := 39) dX9_whole_36 rfl rfl (Nat.le_of_ble_eq_true rfl) (by omega) (Nat.le_refl _) (Nat.le_refl _) rfl (hC m (by omega) (d - 1) I (upd o 8 (nI (a + 1))) G e (a + 1) op (h.mv (fun j a1 a2 a3 => pk_un a1)) (by omega) hop pk_us ((pk_un (by decide)).trans h10) ((pk_un (by decide)).trans h14) (by omega) (by omega)) ?_
        rintro _ _ ⟨p1, rfl, rfl, h81, h141, hp1⟩
        dsimp only [Option.toList, List.cons_append, List.nil_append, Nat.add_zero]
        refine is2 (n := 40) dX9_whole_39 rfl trivial ?_
        refine il1 (n := 41) dX9_whole_40 rfl ?_
        refine k_if_ne (t := 48) (n := 44) dX9_whole_41 (by decide) rfl (fun h41 => ?_) (fun h41 => ?_)
        · refine k_iconst (a := 1) (n := 49) dX9_whole_48 rfl rfl ?_
          refine k_goto (n := 53) dX9_whole_49 (by decide) ?_
          refine is1 (n := 54) dX9_whole_53 rfl trivial ?_
          refine k_goto (n := 5) dX9_whole_54 (by decide) ?_
          have hz := pz_at G h.end m 1 (by decide) 0 (a + 1) op (by omega)
          have hv : ∀ x : Int32, x = kb (¬ v = 0 ∨ ¬ (pz G m 1 0 (a + 1) op).1 = 0) → Wd E d mX9_whole 0 0 0 0 5 [some (.ref 81), some (.int x), some (.int (pz G m 1 0 (a + 1) op).1)] [] (kJ (kset I 81 p1)) (pQ I o0 (pz G (m + 1) 10 v a op)) := by
            intro x hx
            subst hx
            have hp : ∀ j, j ≠ 8 → j ≠ 14 → p1 j = o0 j := fun j a1 a2 => (hp1 j a1 a2).trans ((pk_un a1).trans (ho j a1 a2))
            cases hg : (pz G m 1 0 (a + 1) op).2.2 with
            | true =>
              have hih := ih (by omega) p1 (kb (¬ v = 0 ∨ ¬ (pz G m 1 0 (a + 1) op).1 = 0)) (pz G m 1 0 (a + 1) op).2.1 (some (.int (pz G m 1 0 (a + 1) op).1)) (h.mv (fun j a1 a2 a3 => (hp1 j a1 a3).trans (pk_un a1))) hz.2 h81 ((hp1 10 (by decide) (by decide)).trans ((pk_un (by decide)).trans h10)) (by rw [h141, hg]; exact kb_t rfl) hp (by omega)
              have ez : pz G (m + 1) 10 v a op = pz G m 10 (kb (¬ v = 0 ∨ ¬ (pz G m 1 0 (a + 1) op).1 = 0)) (pz G m 1 0 (a + 1) op).2.1 op := by
                rw [pz10, if_pos h22, hg]
                rfl
              rw [ez]
              exact hih
            | false =>
              have ez : pz G (m + 1) 10 v a op = (kb (¬ v = 0 ∨ ¬ (pz G m 1 0 (a + 1) op).1 = 0), (pz G m 1 0 (a + 1) op).2.1, false) := by
                rw [pz10, if_pos h22, hg]
                rfl
              rw [ez]
              refine al0 (n := 6) dX9_whole_5 rfl ?_
              refine gsX9_97 (n := 9) dX9_whole_6 rfl rfl rfl ?_
              rw [h141, hg, kb_f (show ¬ (false = true) by decide)]
              refine k_if_eq (t := 57) (n := 12) dX9_whole_9 (by decide) rfl (fun _ => ?_) (fun q => absurd rfl q)
              refine il1 (n := 58) dX9_whole_57 rfl ?_
              refine k_ireturn (ty := .int) dX9_whole_58 rfl rfl (Nat.le_refl _) (Nat.le_refl _) ?_
              exact ⟨p1, rfl, rfl, h81, by rw [h141, hg], hp⟩
          refine hv _ ?_
          first
            | exact (kb_t (Or.inl h41)).symm
            | exact (kb_t (Or.inr h45)).symm
            | exact (kb_f (fun q => q.elim (fun r => r h41) (fun r => r h45))).symm
        · refine il2 (n := 45) dX9_whole_44 rfl ?_
          refine k_if_eq (t := 52) (n := 48) dX9_whole_45 (by decide) rfl (fun h45 => ?_) (fun h45 => ?_)
          · refine k_iconst (a := 0) (n := 53) dX9_whole_52 rfl rfl ?_
            refine is1 (n := 54) dX9_whole_53 rfl trivial ?_
            refine k_goto (n := 5) dX9_whole_54 (by decide) ?_
            have hz := pz_at G h.end m 1 (by decide) 0 (a + 1) op (by omega)
            have hv : ∀ x : Int32, x = kb (¬ v = 0 ∨ ¬ (pz G m 1 0 (a + 1) op).1 = 0) → Wd E d mX9_whole 0 0 0 0 5 [some (.ref 81), some (.int x), some (.int (pz G m 1 0 (a + 1) op).1)] [] (kJ (kset I 81 p1)) (pQ I o0 (pz G (m + 1) 10 v a op)) := by
              intro x hx
              subst hx
              have hp : ∀ j, j ≠ 8 → j ≠ 14 → p1 j = o0 j := fun j a1 a2 => (hp1 j a1 a2).trans ((pk_un a1).trans (ho j a1 a2))
              cases hg : (pz G m 1 0 (a + 1) op).2.2 with
              | true =>
                have hih := ih (by omega) p1 (kb (¬ v = 0 ∨ ¬ (pz G m 1 0 (a + 1) op).1 = 0)) (pz G m 1 0 (a + 1) op).2.1 (some (.int (pz G m 1 0 (a + 1) op).1)) (h.mv (fun j a1 a2 a3 => (hp1 j a1 a3).trans (pk_un a1))) hz.2 h81 ((hp1 10 (by decide) (by decide)).trans ((pk_un (by decide)).trans h10)) (by rw [h141, hg]; exact kb_t rfl) hp (by omega)
                have ez : pz G (m + 1) 10 v a op = pz G m 10 (kb (¬ v = 0 ∨ ¬ (pz G m 1 0 (a + 1) op).1 = 0)) (pz G m 1 0 (a + 1) op).2.1 op := by
                  rw [pz10, if_pos h22, hg]
                  rfl
                rw [ez]
                exact hih
              | false =>
                have ez : pz G (m + 1) 10 v a op = (kb (¬ v = 0 ∨ ¬ (pz G m 1 0 (a + 1) op).1 = 0), (pz G m 1 0 (a + 1) op).2.1, false) := by
                  rw [pz10, if_pos h22, hg]
                  rfl
                rw [ez]
                refine al0 (n := 6) dX9_whole_5 rfl ?_
                refine gsX9_97 (n := 9) dX9_whole_6 rfl rfl rfl ?_
                rw [h141, hg, kb_f (show ¬ (false = true) by decide)]
                refine k_if_eq (t := 57) (n := 12) dX9_whole_9 (by decide) rfl (fun _ => ?_) (fun q => absurd rfl q)
                refine il1 (n := 58) dX9_whole_57 rfl ?_
                refine k_ireturn (ty := .int) dX9_whole_58 rfl rfl (Nat.le_refl _) (Nat.le_refl _) ?_
                exact ⟨p1, rfl, rfl, h81, by rw [h141, hg], hp⟩
            refine hv _ ?_
            first
              | exact (kb_t (Or.inl h41)).symm
              | exact (kb_t (Or.inr h45)).symm
              | exact (kb_f (fun q => q.elim (fun r => r h41) (fun r => r h45))).symm
          · refine k_iconst (a := 1) (n := 49) dX9_whole_48 rfl rfl ?_
            refine k_goto (n := 53) dX9_whole_49 (by decide) ?_
            refine is1 (n := 54) dX9_whole_53 rfl trivial ?_
            refine k_goto (n := 5) dX9_whole_54 (by decide) ?_
            have hz := pz_at G h.end m 1 (by decide) 0 (a + 1) op (by omega)
            have hv : ∀ x : Int32, x = kb (¬ v = 0 ∨ ¬ (pz G m 1 0 (a + 1) op).1 = 0) → Wd E d mX9_whole 0 0 0 0 5 [some (.ref 81), some (.int x), some (.int (pz G m 1 0 (a + 1) op).1)] [] (kJ (kset I 81 p1)) (pQ I o0 (pz G (m + 1) 10 v a op)) := by
              intro x hx
              subst hx
              have hp : ∀ j, j ≠ 8 → j ≠ 14 → p1 j = o0 j := fun j a1 a2 => (hp1 j a1 a2).trans ((pk_un a1).trans (ho j a1 a2))
              cases hg : (pz G m 1 0 (a + 1) op).2.2 with
              | true =>
                have hih := ih (by omega) p1 (kb (¬ v = 0 ∨ ¬ (pz G m 1 0 (a + 1) op).1 = 0)) (pz G m 1 0 (a + 1) op).2.1 (some (.int (pz G m 1 0 (a + 1) op).1)) (h.mv (fun j a1 a2 a3 => (hp1 j a1 a3).trans (pk_un a1))) hz.2 h81 ((hp1 10 (by decide) (by decide)).trans ((pk_un (by decide)).trans h10)) (by rw [h141, hg]; exact kb_t rfl) hp (by omega)
                have ez : pz G (m + 1) 10 v a op = pz G m 10 (kb (¬ v = 0 ∨ ¬ (pz G m 1 0 (a + 1) op).1 = 0)) (pz G m 1 0 (a + 1) op).2.1 op := by
                  rw [pz10, if_pos h22, hg]
                  rfl
                rw [ez]
                exact hih
              | false =>
                have ez : pz G (m + 1) 10 v a op = (kb (¬ v = 0 ∨ ¬ (pz G m 1 0 (a + 1) op).1 = 0), (pz G m 1 0 (a + 1) op).2.1, false) := by
                  rw [pz10, if_pos h22, hg]
                  rfl
                rw [ez]
                refine al0 (n := 6) dX9_whole_5 rfl ?_
                refine gsX9_97 (n := 9) dX9_whole_6 rfl rfl rfl ?_
                rw [h141, hg, kb_f (show ¬ (false = true) by decide)]
                refine k_if_eq (t := 57) (n := 12) dX9_whole_9 (by decide) rfl (fun _ => ?_) (fun q => absurd rfl q)
                refine il1 (n := 58) dX9_whole_57 rfl ?_
                refine k_ireturn (ty := .int) dX9_whole_58 rfl rfl (Nat.le_refl _) (Nat.le_refl _) ?_
                exact ⟨p1, rfl, rfl, h81, by rw [h141, hg], hp⟩
            refine hv _ ?_
            first
              | exact (kb_t (Or.inl h41)).symm
              | exact (kb_t (Or.inr h45)).symm
              | exact (kb_f (fun q => q.elim (fun r => r h41) (fun r => r h45))).symm
set_option maxHeartbeats 2000000 in
set_option maxRecDepth 20000 in
theorem pl_both (n : Nat) (hC : ∀ m, m ≤ n → pOK E mX9_compared m 2) (d : Nat) (I : Nat → Nat → Int32) (o0 : Nat → Int32) (G : pG) (e op : Nat) (hop : op ≤ 5) (hd : 3 + 6 * (5 - op) + (5 - 1) ≤ d) (m : Nat) : m ≤ n + 1 → ∀ (o : Nat → Int32) (v : Int32) (a : Nat) (x2 : Option Value), pC I o G e → a ≤ e → o 8 = nI a → o 10 = nI op → o 14 = 1 → (∀ j, j ≠ 8 → j ≠ 14 → o j = o0 j) → 16 * (e + 1 - a) + rkF 11 ≤ m → Wd E d mX9_both 0 0 0 0 5 [some (.ref 81), some (.int v), x2] [] (kJ (kset I 81 o)) (pQ I o0 (pz G m 11 v a op)) := by
  induction m with
  | zero => intro hm o v a x2 h ha h8 h10 h14 ho hf; exact absurd hf (by rw [show rkF 11 = 7 from rfl]; omega)
  | succ m ih =>
    intro hm o v a x2 h ha h8 h10 h14 ho hf
    have h50 := h.2.2.2.1
    have hr : rkF 11 = 7 := rfl
    have hr2 : rkF 2 = 6 := rfl
    refine al0 (n := 6) dX9_both_5 rfl ?_
    refine gsX9_97 (n := 9) dX9_both_6 rfl rfl rfl ?_
    rw [h14]
    refine k_if_eq (t := 57) (n := 12) dX9_both_9 (by decide) rfl (fun h9 => ?_) (fun h9 => ?_)
    · exact absurd h9 (by decide)
    · refine al0 (n := 13) dX9_both_12 rfl ?_
      refine al0 (n := 14) dX9_both_13 rfl ?_
      refine gsX9_101 (n := 17) dX9_both_14 rfl rfl rfl ?_
      rw [h8]
      refine qiX9_104 (n := 20) dX9_both_17 rfl rfl (Nat.le_of_ble_eq_true rfl) (by omega) rfl (m_byteAt h a (by omega)) (Nat.le_refl _) (Nat.le_refl _) ?_
      refine k_bipush (a := 38) (n := 22) dX9_both_20 rfl rfl ?_
      refine k_icmp_ne (t := 57) (n := 25) dX9_both_22 (by decide) rfl (fun h22 => ?_) (fun h22 => ?_)
      · refine il1 (n := 58) dX9_both_57 rfl ?_
        refine k_ireturn (ty := .int) dX9_both_58 rfl rfl (Nat.le_refl _) (Nat.le_refl _) ?_
        exact ⟨o, by rw [pz11, if_neg h22], rfl, by rw [pz11, if_neg h22]; exact h8, by rw [pz11, if_neg h22]; exact h14.trans (kb_t rfl).symm, ho⟩
      · have hlt : a < e := h.lt (fun q => by rw [h22] at q; exact absurd q (by decide))
        refine al0 (n := 26) dX9_both_25 rfl ?_
        refine k_dup (n := 27) dX9_both_26 rfl rfl ?_
        refine gsX9_101 (n := 30) dX9_both_27 rfl rfl rfl ?_
        rw [h8]
        refine k_iconst (a := 1) (n := 31) dX9_both_30 rfl rfl ?_
        refine k_iadd (n := 32) dX9_both_31 rfl ?_
        rw [nI_1 a]
        refine psX9_101 (n := 35) dX9_both_32 rfl rfl rfl ?_
        refine al0 (n := 36) dX9_both_35 rfl ?_
        refine qX9_144 (n := 39) dX9_both_36 rfl rfl (Nat.le_of_ble_eq_true rfl) (by omega) (Nat.le_refl _) (Nat.le_refl _) rfl (hC m (by omega) (d - 1) I (upd o 8 (nI (a + 1))) G e (a + 1) op (h.mv (fun j a1 a2 a3 => pk_un a1)) (by omega) hop pk_us ((pk_un (by decide)).trans h10) ((pk_un (by decide)).trans h14) (by omega) (by omega)) ?_
        rintro _ _ ⟨p1, rfl, rfl, h81, h141, hp1⟩
        dsimp only [Option.toList, List.cons_append, List.nil_append, Nat.add_zero]
        refine is2 (n := 40) dX9_both_39 rfl trivial ?_
        refine il1 (n := 41) dX9_both_40 rfl ?_
        refine k_if_eq (t := 52) (n := 44) dX9_both_41 (by decide) rfl (fun h41 => ?_) (fun h41 => ?_)
        · refine k_iconst (a := 0) (n := 53) dX9_both_52 rfl rfl ?_
          refine is1 (n := 54) dX9_both_53 rfl trivial ?_
          refine k_goto (n := 5) dX9_both_54 (by decide) ?_
          have hz := pz_at G h.end m 2 (by decide) 0 (a + 1) op (by omega)
          have hv : ∀ x : Int32, x = kb (¬ v = 0 ∧ ¬ (pz G m 2 0 (a + 1) op).1 = 0) → Wd E d mX9_both 0 0 0 0 5 [some (.ref 81), some (.int x), some (.int (pz G m 2 0 (a + 1) op).1)] [] (kJ (kset I 81 p1)) (pQ I o0 (pz G (m + 1) 11 v a op)) := by
            intro x hx
            subst hx
            have hp : ∀ j, j ≠ 8 → j ≠ 14 → p1 j = o0 j := fun j a1 a2 => (hp1 j a1 a2).trans ((pk_un a1).trans (ho j a1 a2))
            cases hg : (pz G m 2 0 (a + 1) op).2.2 with
            | true =>
              have hih := ih (by omega) p1 (kb (¬ v = 0 ∧ ¬ (pz G m 2 0 (a + 1) op).1 = 0)) (pz G m 2 0 (a + 1) op).2.1 (some (.int (pz G m 2 0 (a + 1) op).1)) (h.mv (fun j a1 a2 a3 => (hp1 j a1 a3).trans (pk_un a1))) hz.2 h81 ((hp1 10 (by decide) (by decide)).trans ((pk_un (by decide)).trans h10)) (by rw [h141, hg]; exact kb_t rfl) hp (by omega)
              have ez : pz G (m + 1) 11 v a op = pz G m 11 (kb (¬ v = 0 ∧ ¬ (pz G m 2 0 (a + 1) op).1 = 0)) (pz G m 2 0 (a + 1) op).2.1 op := by
                rw [pz11, if_pos h22, hg]
                rfl
              rw [ez]
              exact hih
            | false =>
              have ez : pz G (m + 1) 11 v a op = (kb (¬ v = 0 ∧ ¬ (pz G m 2 0 (a + 1) op).1 = 0), (pz G m 2 0 (a + 1) op).2.1, false) := by
                rw [pz11, if_pos h22, hg]
                rfl
              rw [ez]
              refine al0 (n := 6) dX9_both_5 rfl ?_
              refine gsX9_97 (n := 9) dX9_both_6 rfl rfl rfl ?_
              rw [h141, hg, kb_f (show ¬ (false = true) by decide)]
              refine k_if_eq (t := 57) (n := 12) dX9_both_9 (by decide) rfl (fun _ => ?_) (fun q => absurd rfl q)
              refine il1 (n := 58) dX9_both_57 rfl ?_
              refine k_ireturn (ty := .int) dX9_both_58 rfl rfl (Nat.le_refl _) (Nat.le_refl _) ?_
              exact ⟨p1, rfl, rfl, h81, by rw [h141, hg], hp⟩
          refine hv _ ?_
          first
            | exact (kb_t ⟨h41, h45⟩).symm
            | (rw [kb_f]; rintro ⟨q1, q2⟩; exact q2 h45)
            | (rw [kb_f]; rintro ⟨q1, q2⟩; exact q1 h41)
        · refine il2 (n := 45) dX9_both_44 rfl ?_
          refine k_if_eq (t := 52) (n := 48) dX9_both_45 (by decide) rfl (fun h45 => ?_) (fun h45 => ?_)
          · refine k_iconst (a := 0) (n := 53) dX9_both_52 rfl rfl ?_
            refine is1 (n := 54) dX9_both_53 rfl trivial ?_
            refine k_goto (n := 5) dX9_both_54 (by decide) ?_
            have hz := pz_at G h.end m 2 (by decide) 0 (a + 1) op (by omega)
            have hv : ∀ x : Int32, x = kb (¬ v = 0 ∧ ¬ (pz G m 2 0 (a + 1) op).1 = 0) → Wd E d mX9_both 0 0 0 0 5 [some (.ref 81), some (.int x), some (.int (pz G m 2 0 (a + 1) op).1)] [] (kJ (kset I 81 p1)) (pQ I o0 (pz G (m + 1) 11 v a op)) := by
              intro x hx
              subst hx
              have hp : ∀ j, j ≠ 8 → j ≠ 14 → p1 j = o0 j := fun j a1 a2 => (hp1 j a1 a2).trans ((pk_un a1).trans (ho j a1 a2))
              cases hg : (pz G m 2 0 (a + 1) op).2.2 with
              | true =>
                have hih := ih (by omega) p1 (kb (¬ v = 0 ∧ ¬ (pz G m 2 0 (a + 1) op).1 = 0)) (pz G m 2 0 (a + 1) op).2.1 (some (.int (pz G m 2 0 (a + 1) op).1)) (h.mv (fun j a1 a2 a3 => (hp1 j a1 a3).trans (pk_un a1))) hz.2 h81 ((hp1 10 (by decide) (by decide)).trans ((pk_un (by decide)).trans h10)) (by rw [h141, hg]; exact kb_t rfl) hp (by omega)
                have ez : pz G (m + 1) 11 v a op = pz G m 11 (kb (¬ v = 0 ∧ ¬ (pz G m 2 0 (a + 1) op).1 = 0)) (pz G m 2 0 (a + 1) op).2.1 op := by
                  rw [pz11, if_pos h22, hg]
                  rfl
                rw [ez]
                exact hih
              | false =>
                have ez : pz G (m + 1) 11 v a op = (kb (¬ v = 0 ∧ ¬ (pz G m 2 0 (a + 1) op).1 = 0), (pz G m 2 0 (a + 1) op).2.1, false) := by
                  rw [pz11, if_pos h22, hg]
                  rfl
                rw [ez]
                refine al0 (n := 6) dX9_both_5 rfl ?_
                refine gsX9_97 (n := 9) dX9_both_6 rfl rfl rfl ?_
                rw [h141, hg, kb_f (show ¬ (false = true) by decide)]
                refine k_if_eq (t := 57) (n := 12) dX9_both_9 (by decide) rfl (fun _ => ?_) (fun q => absurd rfl q)
                refine il1 (n := 58) dX9_both_57 rfl ?_
                refine k_ireturn (ty := .int) dX9_both_58 rfl rfl (Nat.le_refl _) (Nat.le_refl _) ?_
                exact ⟨p1, rfl, rfl, h81, by rw [h141, hg], hp⟩
            refine hv _ ?_
            first
              | exact (kb_t ⟨h41, h45⟩).symm
              | (rw [kb_f]; rintro ⟨q1, q2⟩; exact q2 h45)
              | (rw [kb_f]; rintro ⟨q1, q2⟩; exact q1 h41)
          · refine k_iconst (a := 1) (n := 49) dX9_both_48 rfl rfl ?_
            refine k_goto (n := 53) dX9_both_49 (by decide) ?_
            refine is1 (n := 54) dX9_both_53 rfl trivial ?_
            refine k_goto (n := 5) dX9_both_54 (by decide) ?_
            have hz := pz_at G h.end m 2 (by decide) 0 (a + 1) op (by omega)
            have hv : ∀ x : Int32, x = kb (¬ v = 0 ∧ ¬ (pz G m 2 0 (a + 1) op).1 = 0) → Wd E d mX9_both 0 0 0 0 5 [some (.ref 81), some (.int x), some (.int (pz G m 2 0 (a + 1) op).1)] [] (kJ (kset I 81 p1)) (pQ I o0 (pz G (m + 1) 11 v a op)) := by
              intro x hx
              subst hx
              have hp : ∀ j, j ≠ 8 → j ≠ 14 → p1 j = o0 j := fun j a1 a2 => (hp1 j a1 a2).trans ((pk_un a1).trans (ho j a1 a2))
              cases hg : (pz G m 2 0 (a + 1) op).2.2 with
              | true =>
                have hih := ih (by omega) p1 (kb (¬ v = 0 ∧ ¬ (pz G m 2 0 (a + 1) op).1 = 0)) (pz G m 2 0 (a + 1) op).2.1 (some (.int (pz G m 2 0 (a + 1) op).1)) (h.mv (fun j a1 a2 a3 => (hp1 j a1 a3).trans (pk_un a1))) hz.2 h81 ((hp1 10 (by decide) (by decide)).trans ((pk_un (by decide)).trans h10)) (by rw [h141, hg]; exact kb_t rfl) hp (by omega)
                have ez : pz G (m + 1) 11 v a op = pz G m 11 (kb (¬ v = 0 ∧ ¬ (pz G m 2 0 (a + 1) op).1 = 0)) (pz G m 2 0 (a + 1) op).2.1 op := by
                  rw [pz11, if_pos h22, hg]
                  rfl
                rw [ez]
                exact hih
              | false =>
                have ez : pz G (m + 1) 11 v a op = (kb (¬ v = 0 ∧ ¬ (pz G m 2 0 (a + 1) op).1 = 0), (pz G m 2 0 (a + 1) op).2.1, false) := by
                  rw [pz11, if_pos h22, hg]
                  rfl
                rw [ez]
                refine al0 (n := 6) dX9_both_5 rfl ?_
                refine gsX9_97 (n := 9) dX9_both_6 rfl rfl rfl ?_
                rw [h141, hg, kb_f (show ¬ (false = true) by decide)]
                refine k_if_eq (t := 57) (n := 12) dX9_both_9 (by decide) rfl (fun _ => ?_) (fun q => absurd rfl q)
                refine il1 (n := 58) dX9_both_57 rfl ?_
                refine k_ireturn (ty := .int) dX9_both_58 rfl rfl (Nat.le_refl _) (Nat.le_refl _) ?_
                exact ⟨p1, rfl, rfl, h81, by rw [h141, hg], hp⟩
            refine hv _ ?_
            first
              | exact (kb_t ⟨h41, h45⟩).symm
              | (rw [kb_f]; rintro ⟨q1, q2⟩; exact q2 h45)
              | (rw [kb_f]; rintro ⟨q1, q2⟩; exact q1 h41)
set_option maxHeartbeats 2000000 in
set_option maxRecDepth 20000 in
theorem pl_sum (n : Nat) (hC : ∀ m, m ≤ n → pOK E mX9_product m 4) (d : Nat) (I : Nat → Nat → Int32) (o0 : Nat → Int32) (G : pG) (e op : Nat) (hop : op ≤ 5) (hd : 3 + 6 * (5 - op) + (5 - 3) ≤ d) (m : Nat) : m ≤ n + 1 → ∀ (o : Nat → Int32) (v : Int32) (a : Nat) (x2 : Option Value) (x3 : Option Value), pC I o G e → a ≤ e → o 8 = nI a → o 10 = nI op → o 14 = 1 → (∀ j, j ≠ 8 → j ≠ 14 → o j = o0 j) → 16 * (e + 1 - a) + rkF 13 ≤ m → Wd E d mX9_sum 0 0 0 0 5 [some (.ref 81), some (.int v), x2, x3] [] (kJ (kset I 81 o)) (pQ I o0 (pz G m 13 v a op)) := by
  induction m with
  | zero => intro hm o v a x2 x3 h ha h8 h10 h14 ho hf; exact absurd hf (by rw [show rkF 13 = 4 from rfl]; omega)
  | succ m ih =>
    intro hm o v a x2 x3 h ha h8 h10 h14 ho hf
    have h50 := h.2.2.2.1
    have hr : rkF 13 = 4 := rfl
    have hr2 : rkF 4 = 3 := rfl
    refine al0 (n := 6) dX9_sum_5 rfl ?_
    refine gsX9_97 (n := 9) dX9_sum_6 rfl rfl rfl ?_
    rw [h14]
    refine k_if_eq (t := 81) (n := 12) dX9_sum_9 (by decide) rfl (fun h9 => ?_) (fun h9 => ?_)
    · exact absurd h9 (by decide)
    · refine al0 (n := 13) dX9_sum_12 rfl ?_
      refine al0 (n := 14) dX9_sum_13 rfl ?_
      refine gsX9_101 (n := 17) dX9_sum_14 rfl rfl rfl ?_
      rw [h8]
      refine qiX9_104 (n := 20) dX9_sum_17 rfl rfl (Nat.le_of_ble_eq_true rfl) (by omega) rfl (m_byteAt h a (by omega)) (Nat.le_refl _) (Nat.le_refl _) ?_
      refine k_bipush (a := 43) (n := 22) dX9_sum_20 rfl rfl ?_
      refine k_icmp_eq (t := 38) (n := 25) dX9_sum_22 (by decide) rfl (fun h22 => ?_) (fun h22 => ?_)
      · have hlt : a < e := h.lt (fun q => by rw [h22] at q; exact absurd q (by decide))
        have hs : G.1 a = 43 ∨ G.1 a = 45 := by simp [h22]
        refine al0 (n := 39) dX9_sum_38 rfl ?_
        refine al0 (n := 40) dX9_sum_39 rfl ?_
        refine gsX9_101 (n := 43) dX9_sum_40 rfl rfl rfl ?_
        rw [h8]
        refine qiX9_104 (n := 46) dX9_sum_43 rfl rfl (Nat.le_of_ble_eq_true rfl) (by omega) rfl (m_byteAt h a (by omega)) (Nat.le_refl _) (Nat.le_refl _) ?_
        refine is2 (n := 47) dX9_sum_46 rfl trivial ?_
        refine al0 (n := 48) dX9_sum_47 rfl ?_
        refine k_dup (n := 49) dX9_sum_48 rfl rfl ?_
        refine gsX9_101 (n := 52) dX9_sum_49 rfl rfl rfl ?_
        rw [h8]
        refine k_iconst (a := 1) (n := 53) dX9_sum_52 rfl rfl ?_
        refine k_iadd (n := 54) dX9_sum_53 rfl ?_
        rw [nI_1 a]
        refine psX9_101 (n := 57) dX9_sum_54 rfl rfl rfl ?_
        refine al0 (n := 58) dX9_sum_57 rfl ?_
        refine qX9_138 (n := 61) dX9_sum_58 rfl rfl (Nat.le_of_ble_eq_true rfl) (by omega) (Nat.le_refl _) (Nat.le_refl _) rfl (hC m (by omega) (d - 1) I (upd o 8 (nI (a + 1))) G e (a + 1) op (h.mv (fun j a1 a2 a3 => pk_un a1)) (by omega) hop pk_us ((pk_un (by decide)).trans h10) ((pk_un (by decide)).trans h14) (by omega) (by omega)) ?_
        rintro _ _ ⟨p1, rfl, rfl, h81, h141, hp1⟩
        dsimp only [Option.toList, List.cons_append, List.nil_append, Nat.add_zero]
        refine is3 (n := 62) dX9_sum_61 rfl trivial ?_
        refine il2 (n := 63) dX9_sum_62 rfl ?_
        refine k_bipush (a := 43) (n := 65) dX9_sum_63 rfl rfl ?_
        refine k_icmp_ne (t := 74) (n := 68) dX9_sum_65 (by decide) rfl (fun h65 => ?_) (fun h65 => ?_)
        · refine il1 (n := 75) dX9_sum_74 rfl ?_
          refine il3 (n := 76) dX9_sum_75 rfl ?_
          refine k_isub (n := 77) dX9_sum_76 rfl ?_
          refine is1 (n := 78) dX9_sum_77 rfl trivial ?_
          refine k_goto (n := 5) dX9_sum_78 (by decide) ?_
          have hz := pz_at G h.end m 4 (by decide) 0 (a + 1) op (by omega)
          have hv : ∀ x : Int32, x = (if G.1 a = 43 then v + (pz G m 4 0 (a + 1) op).1 else v - (pz G m 4 0 (a + 1) op).1) → Wd E d mX9_sum 0 0 0 0 5 [some (.ref 81), some (.int x), some (.int (G.1 a)), some (.int (pz G m 4 0 (a + 1) op).1)] [] (kJ (kset I 81 p1)) (pQ I o0 (pz G (m + 1) 13 v a op)) := by
            intro x hx
            subst hx
            have hp : ∀ j, j ≠ 8 → j ≠ 14 → p1 j = o0 j := fun j a1 a2 => (hp1 j a1 a2).trans ((pk_un a1).trans (ho j a1 a2))
            cases hg : (pz G m 4 0 (a + 1) op).2.2 with
            | true =>
              have hih := ih (by omega) p1 ((if G.1 a = 43 then v + (pz G m 4 0 (a + 1) op).1 else v - (pz G m 4 0 (a + 1) op).1)) (pz G m 4 0 (a + 1) op).2.1 (some (.int (G.1 a))) (some (.int (pz G m 4 0 (a + 1) op).1)) (h.mv (fun j a1 a2 a3 => (hp1 j a1 a3).trans (pk_un a1))) hz.2 h81 ((hp1 10 (by decide) (by decide)).trans ((pk_un (by decide)).trans h10)) (by rw [h141, hg]; exact kb_t rfl) hp (by omega)
              have ez : pz G (m + 1) 13 v a op = pz G m 13 ((if G.1 a = 43 then v + (pz G m 4 0 (a + 1) op).1 else v - (pz G m 4 0 (a + 1) op).1)) (pz G m 4 0 (a + 1) op).2.1 op := by
                rw [pz13, if_pos hs, hg]
                rfl
              rw [ez]
              exact hih
            | false =>
              have ez : pz G (m + 1) 13 v a op = ((if G.1 a = 43 then v + (pz G m 4 0 (a + 1) op).1 else v - (pz G m 4 0 (a + 1) op).1), (pz G m 4 0 (a + 1) op).2.1, false) := by
                rw [pz13, if_pos hs, hg]
                rfl
              rw [ez]
              refine al0 (n := 6) dX9_sum_5 rfl ?_
              refine gsX9_97 (n := 9) dX9_sum_6 rfl rfl rfl ?_
              rw [h141, hg, kb_f (show ¬ (false = true) by decide)]
              refine k_if_eq (t := 81) (n := 12) dX9_sum_9 (by decide) rfl (fun _ => ?_) (fun q => absurd rfl q)
              refine il1 (n := 82) dX9_sum_81 rfl ?_
              refine k_ireturn (ty := .int) dX9_sum_82 rfl rfl (Nat.le_refl _) (Nat.le_refl _) ?_
              exact ⟨p1, rfl, rfl, h81, by rw [h141, hg], hp⟩
          refine hv _ ?_
          first
            | exact (if_pos h65).symm
            | exact (if_neg h65).symm
        · refine il1 (n := 69) dX9_sum_68 rfl ?_
          refine il3 (n := 70) dX9_sum_69 rfl ?_
          refine k_iadd (n := 71) dX9_sum_70 rfl ?_
          refine k_goto (n := 77) dX9_sum_71 (by decide) ?_
          refine is1 (n := 78) dX9_sum_77 rfl trivial ?_
          refine k_goto (n := 5) dX9_sum_78 (by decide) ?_
          have hz := pz_at G h.end m 4 (by decide) 0 (a + 1) op (by omega)
          have hv : ∀ x : Int32, x = (if G.1 a = 43 then v + (pz G m 4 0 (a + 1) op).1 else v - (pz G m 4 0 (a + 1) op).1) → Wd E d mX9_sum 0 0 0 0 5 [some (.ref 81), some (.int x), some (.int (G.1 a)), some (.int (pz G m 4 0 (a + 1) op).1)] [] (kJ (kset I 81 p1)) (pQ I o0 (pz G (m + 1) 13 v a op)) := by
            intro x hx
            subst hx
            have hp : ∀ j, j ≠ 8 → j ≠ 14 → p1 j = o0 j := fun j a1 a2 => (hp1 j a1 a2).trans ((pk_un a1).trans (ho j a1 a2))
            cases hg : (pz G m 4 0 (a + 1) op).2.2 with
            | true =>
              have hih := ih (by omega) p1 ((if G.1 a = 43 then v + (pz G m 4 0 (a + 1) op).1 else v - (pz G m 4 0 (a + 1) op).1)) (pz G m 4 0 (a + 1) op).2.1 (some (.int (G.1 a))) (some (.int (pz G m 4 0 (a + 1) op).1)) (h.mv (fun j a1 a2 a3 => (hp1 j a1 a3).trans (pk_un a1))) hz.2 h81 ((hp1 10 (by decide) (by decide)).trans ((pk_un (by decide)).trans h10)) (by rw [h141, hg]; exact kb_t rfl) hp (by omega)
              have ez : pz G (m + 1) 13 v a op = pz G m 13 ((if G.1 a = 43 then v + (pz G m 4 0 (a + 1) op).1 else v - (pz G m 4 0 (a + 1) op).1)) (pz G m 4 0 (a + 1) op).2.1 op := by
                rw [pz13, if_pos hs, hg]
                rfl
              rw [ez]
              exact hih
            | false =>
              have ez : pz G (m + 1) 13 v a op = ((if G.1 a = 43 then v + (pz G m 4 0 (a + 1) op).1 else v - (pz G m 4 0 (a + 1) op).1), (pz G m 4 0 (a + 1) op).2.1, false) := by
                rw [pz13, if_pos hs, hg]
                rfl
              rw [ez]
              refine al0 (n := 6) dX9_sum_5 rfl ?_
              refine gsX9_97 (n := 9) dX9_sum_6 rfl rfl rfl ?_
              rw [h141, hg, kb_f (show ¬ (false = true) by decide)]
              refine k_if_eq (t := 81) (n := 12) dX9_sum_9 (by decide) rfl (fun _ => ?_) (fun q => absurd rfl q)
              refine il1 (n := 82) dX9_sum_81 rfl ?_
              refine k_ireturn (ty := .int) dX9_sum_82 rfl rfl (Nat.le_refl _) (Nat.le_refl _) ?_
              exact ⟨p1, rfl, rfl, h81, by rw [h141, hg], hp⟩
          refine hv _ ?_
          first
            | exact (if_pos h65).symm
            | exact (if_neg h65).symm
      · refine al0 (n := 26) dX9_sum_25 rfl ?_
        refine al0 (n := 27) dX9_sum_26 rfl ?_
        refine gsX9_101 (n := 30) dX9_sum_27 rfl rfl rfl ?_
        rw [h8]
        refine qiX9_104 (n := 33) dX9_sum_30 rfl rfl (Nat.le_of_ble_eq_true rfl) (by omega) rfl (m_byteAt h a (by omega)) (Nat.le_refl _) (Nat.le_refl _) ?_
        refine k_bipush (a := 45) (n := 35) dX9_sum_33 rfl rfl ?_
        refine k_icmp_ne (t := 81) (n := 38) dX9_sum_35 (by decide) rfl (fun h35 => ?_) (fun h35 => ?_)
        · refine il1 (n := 82) dX9_sum_81 rfl ?_
          refine k_ireturn (ty := .int) dX9_sum_82 rfl rfl (Nat.le_refl _) (Nat.le_refl _) ?_
          have hn : ¬ (G.1 a = 43 ∨ G.1 a = 45) := by simp [h22, h35]
          exact ⟨o, by rw [pz13, if_neg hn], rfl, by rw [pz13, if_neg hn]; exact h8, by rw [pz13, if_neg hn]; exact h14.trans (kb_t rfl).symm, ho⟩
        · have hlt : a < e := h.lt (fun q => by rw [h35] at q; exact absurd q (by decide))
          have hs : G.1 a = 43 ∨ G.1 a = 45 := by simp [h35]
          refine al0 (n := 39) dX9_sum_38 rfl ?_
          refine al0 (n := 40) dX9_sum_39 rfl ?_
          refine gsX9_101 (n := 43) dX9_sum_40 rfl rfl rfl ?_
          rw [h8]
          refine qiX9_104 (n := 46) dX9_sum_43 rfl rfl (Nat.le_of_ble_eq_true rfl) (by omega) rfl (m_byteAt h a (by omega)) (Nat.le_refl _) (Nat.le_refl _) ?_
          refine is2 (n := 47) dX9_sum_46 rfl trivial ?_
          refine al0 (n := 48) dX9_sum_47 rfl ?_
          refine k_dup (n := 49) dX9_sum_48 rfl rfl ?_
          refine gsX9_101 (n := 52) dX9_sum_49 rfl rfl rfl ?_
          rw [h8]
          refine k_iconst (a := 1) (n := 53) dX9_sum_52 rfl rfl ?_
          refine k_iadd (n := 54) dX9_sum_53 rfl ?_
          rw [nI_1 a]
          refine psX9_101 (n := 57) dX9_sum_54 rfl rfl rfl ?_
          refine al0 (n := 58) dX9_sum_57 rfl ?_
          refine qX9_138 (n := 61) dX9_sum_58 rfl rfl (Nat.le_of_ble_eq_true rfl) (by omega) (Nat.le_refl _) (Nat.le_refl _) rfl (hC m (by omega) (d - 1) I (upd o 8 (nI (a + 1))) G e (a + 1) op (h.mv (fun j a1 a2 a3 => pk_un a1)) (by omega) hop pk_us ((pk_un (by decide)).trans h10) ((pk_un (by decide)).trans h14) (by omega) (by omega)) ?_
          rintro _ _ ⟨p1, rfl, rfl, h81, h141, hp1⟩
          dsimp only [Option.toList, List.cons_append, List.nil_append, Nat.add_zero]
          refine is3 (n := 62) dX9_sum_61 rfl trivial ?_
          refine il2 (n := 63) dX9_sum_62 rfl ?_
          refine k_bipush (a := 43) (n := 65) dX9_sum_63 rfl rfl ?_
          refine k_icmp_ne (t := 74) (n := 68) dX9_sum_65 (by decide) rfl (fun h65 => ?_) (fun h65 => ?_)
          · refine il1 (n := 75) dX9_sum_74 rfl ?_
            refine il3 (n := 76) dX9_sum_75 rfl ?_
            refine k_isub (n := 77) dX9_sum_76 rfl ?_
            refine is1 (n := 78) dX9_sum_77 rfl trivial ?_
            refine k_goto (n := 5) dX9_sum_78 (by decide) ?_
            have hz := pz_at G h.end m 4 (by decide) 0 (a + 1) op (by omega)
            have hv : ∀ x : Int32, x = (if G.1 a = 43 then v + (pz G m 4 0 (a + 1) op).1 else v - (pz G m 4 0 (a + 1) op).1) → Wd E d mX9_sum 0 0 0 0 5 [some (.ref 81), some (.int x), some (.int (G.1 a)), some (.int (pz G m 4 0 (a + 1) op).1)] [] (kJ (kset I 81 p1)) (pQ I o0 (pz G (m + 1) 13 v a op)) := by
              intro x hx
              subst hx
              have hp : ∀ j, j ≠ 8 → j ≠ 14 → p1 j = o0 j := fun j a1 a2 => (hp1 j a1 a2).trans ((pk_un a1).trans (ho j a1 a2))
              cases hg : (pz G m 4 0 (a + 1) op).2.2 with
              | true =>
                have hih := ih (by omega) p1 ((if G.1 a = 43 then v + (pz G m 4 0 (a + 1) op).1 else v - (pz G m 4 0 (a + 1) op).1)) (pz G m 4 0 (a + 1) op).2.1 (some (.int (G.1 a))) (some (.int (pz G m 4 0 (a + 1) op).1)) (h.mv (fun j a1 a2 a3 => (hp1 j a1 a3).trans (pk_un a1))) hz.2 h81 ((hp1 10 (by decide) (by decide)).trans ((pk_un (by decide)).trans h10)) (by rw [h141, hg]; exact kb_t rfl) hp (by omega)
                have ez : pz G (m + 1) 13 v a op = pz G m 13 ((if G.1 a = 43 then v + (pz G m 4 0 (a + 1) op).1 else v - (pz G m 4 0 (a + 1) op).1)) (pz G m 4 0 (a + 1) op).2.1 op := by
                  rw [pz13, if_pos hs, hg]
                  rfl
                rw [ez]
                exact hih
              | false =>
                have ez : pz G (m + 1) 13 v a op = ((if G.1 a = 43 then v + (pz G m 4 0 (a + 1) op).1 else v - (pz G m 4 0 (a + 1) op).1), (pz G m 4 0 (a + 1) op).2.1, false) := by
                  rw [pz13, if_pos hs, hg]
                  rfl
                rw [ez]
                refine al0 (n := 6) dX9_sum_5 rfl ?_
                refine gsX9_97 (n := 9) dX9_sum_6 rfl rfl rfl ?_
                rw [h141, hg, kb_f (show ¬ (false = true) by decide)]
                refine k_if_eq (t := 81) (n := 12) dX9_sum_9 (by decide) rfl (fun _ => ?_) (fun q => absurd rfl q)
                refine il1 (n := 82) dX9_sum_81 rfl ?_
                refine k_ireturn (ty := .int) dX9_sum_82 rfl rfl (Nat.le_refl _) (Nat.le_refl _) ?_
                exact ⟨p1, rfl, rfl, h81, by rw [h141, hg], hp⟩
            refine hv _ ?_
            first
              | exact (if_pos h65).symm
              | exact (if_neg h65).symm
          · refine il1 (n := 69) dX9_sum_68 rfl ?_
            refine il3 (n := 70) dX9_sum_69 rfl ?_
            refine k_iadd (n := 71) dX9_sum_70 rfl ?_
            refine k_goto (n := 77) dX9_sum_71 (by decide) ?_
            refine is1 (n := 78) dX9_sum_77 rfl trivial ?_
            refine k_goto (n := 5) dX9_sum_78 (by decide) ?_
            have hz := pz_at G h.end m 4 (by decide) 0 (a + 1) op (by omega)
            have hv : ∀ x : Int32, x = (if G.1 a = 43 then v + (pz G m 4 0 (a + 1) op).1 else v - (pz G m 4 0 (a + 1) op).1) → Wd E d mX9_sum 0 0 0 0 5 [some (.ref 81), some (.int x), some (.int (G.1 a)), some (.int (pz G m 4 0 (a + 1) op).1)] [] (kJ (kset I 81 p1)) (pQ I o0 (pz G (m + 1) 13 v a op)) := by
              intro x hx
              subst hx
              have hp : ∀ j, j ≠ 8 → j ≠ 14 → p1 j = o0 j := fun j a1 a2 => (hp1 j a1 a2).trans ((pk_un a1).trans (ho j a1 a2))
              cases hg : (pz G m 4 0 (a + 1) op).2.2 with
              | true =>
                have hih := ih (by omega) p1 ((if G.1 a = 43 then v + (pz G m 4 0 (a + 1) op).1 else v - (pz G m 4 0 (a + 1) op).1)) (pz G m 4 0 (a + 1) op).2.1 (some (.int (G.1 a))) (some (.int (pz G m 4 0 (a + 1) op).1)) (h.mv (fun j a1 a2 a3 => (hp1 j a1 a3).trans (pk_un a1))) hz.2 h81 ((hp1 10 (by decide) (by decide)).trans ((pk_un (by decide)).trans h10)) (by rw [h141, hg]; exact kb_t rfl) hp (by omega)
                have ez : pz G (m + 1) 13 v a op = pz G m 13 ((if G.1 a = 43 then v + (pz G m 4 0 (a + 1) op).1 else v - (pz G m 4 0 (a + 1) op).1)) (pz G m 4 0 (a + 1) op).2.1 op := by
                  rw [pz13, if_pos hs, hg]
                  rfl
                rw [ez]
                exact hih
              | false =>
                have ez : pz G (m + 1) 13 v a op = ((if G.1 a = 43 then v + (pz G m 4 0 (a + 1) op).1 else v - (pz G m 4 0 (a + 1) op).1), (pz G m 4 0 (a + 1) op).2.1, false) := by
                  rw [pz13, if_pos hs, hg]
                  rfl
                rw [ez]
                refine al0 (n := 6) dX9_sum_5 rfl ?_
                refine gsX9_97 (n := 9) dX9_sum_6 rfl rfl rfl ?_
                rw [h141, hg, kb_f (show ¬ (false = true) by decide)]
                refine k_if_eq (t := 81) (n := 12) dX9_sum_9 (by decide) rfl (fun _ => ?_) (fun q => absurd rfl q)
                refine il1 (n := 82) dX9_sum_81 rfl ?_
                refine k_ireturn (ty := .int) dX9_sum_82 rfl rfl (Nat.le_refl _) (Nat.le_refl _) ?_
                exact ⟨p1, rfl, rfl, h81, by rw [h141, hg], hp⟩
            refine hv _ ?_
            first
              | exact (if_pos h65).symm
              | exact (if_neg h65).symm
set_option maxHeartbeats 2000000 in
set_option maxRecDepth 20000 in
theorem pl_product (n : Nat) (hC : ∀ m, m ≤ n → pOK E mX9_factor m 5) (d : Nat) (I : Nat → Nat → Int32) (o0 : Nat → Int32) (G : pG) (e op : Nat) (hop : op ≤ 5) (hd : 3 + 6 * (5 - op) + (5 - 4) ≤ d) (m : Nat) : m ≤ n + 1 → ∀ (o : Nat → Int32) (v : Int32) (a : Nat) (x2 : Option Value) (x3 : Option Value), pC I o G e → a ≤ e → o 8 = nI a → o 10 = nI op → o 14 = 1 → (∀ j, j ≠ 8 → j ≠ 14 → o j = o0 j) → 16 * (e + 1 - a) + rkF 14 ≤ m → Wd E d mX9_product 0 0 0 0 5 [some (.ref 81), some (.int v), x2, x3] [] (kJ (kset I 81 o)) (pQ I o0 (pz G m 14 v a op)) := by
  induction m with
  | zero => intro hm o v a x2 x3 h ha h8 h10 h14 ho hf; exact absurd hf (by rw [show rkF 14 = 2 from rfl]; omega)
  | succ m ih =>
    intro hm o v a x2 x3 h ha h8 h10 h14 ho hf
    have h50 := h.2.2.2.1
    have hr : rkF 14 = 2 := rfl
    have hr2 : rkF 5 = 1 := rfl
    refine al0 (n := 6) dX9_product_5 rfl ?_
    refine gsX9_97 (n := 9) dX9_product_6 rfl rfl rfl ?_
    rw [h14]
    refine k_if_eq (t := 114) (n := 12) dX9_product_9 (by decide) rfl (fun h9 => ?_) (fun h9 => ?_)
    · exact absurd h9 (by decide)
    · refine al0 (n := 13) dX9_product_12 rfl ?_
      refine al0 (n := 14) dX9_product_13 rfl ?_
      refine gsX9_101 (n := 17) dX9_product_14 rfl rfl rfl ?_
      rw [h8]
      refine qiX9_104 (n := 20) dX9_product_17 rfl rfl (Nat.le_of_ble_eq_true rfl) (by omega) rfl (m_byteAt h a (by omega)) (Nat.le_refl _) (Nat.le_refl _) ?_
      refine k_bipush (a := 42) (n := 22) dX9_product_20 rfl rfl ?_
      refine k_icmp_eq (t := 51) (n := 25) dX9_product_22 (by decide) rfl (fun h22 => ?_) (fun h22 => ?_)
      · have hlt : a < e := h.lt (fun q => by rw [h22] at q; exact absurd q (by decide))
        have hs : G.1 a = 42 ∨ G.1 a = 47 ∨ G.1 a = 37 := by simp [h22]
        refine al0 (n := 52) dX9_product_51 rfl ?_
        refine al0 (n := 53) dX9_product_52 rfl ?_
        refine gsX9_101 (n := 56) dX9_product_53 rfl rfl rfl ?_
        rw [h8]
        refine qiX9_104 (n := 59) dX9_product_56 rfl rfl (Nat.le_of_ble_eq_true rfl) (by omega) rfl (m_byteAt h a (by omega)) (Nat.le_refl _) (Nat.le_refl _) ?_
        refine is2 (n := 60) dX9_product_59 rfl trivial ?_
        refine al0 (n := 61) dX9_product_60 rfl ?_
        refine k_dup (n := 62) dX9_product_61 rfl rfl ?_
        refine gsX9_101 (n := 65) dX9_product_62 rfl rfl rfl ?_
        rw [h8]
        refine k_iconst (a := 1) (n := 66) dX9_product_65 rfl rfl ?_
        refine k_iadd (n := 67) dX9_product_66 rfl ?_
        rw [nI_1 a]
        refine psX9_101 (n := 70) dX9_product_67 rfl rfl rfl ?_
        refine al0 (n := 71) dX9_product_70 rfl ?_
        refine qX9_132 (n := 74) dX9_product_71 rfl rfl (Nat.le_of_ble_eq_true rfl) (by omega) (Nat.le_refl _) (Nat.le_refl _) rfl (hC m (by omega) (d - 1) I (upd o 8 (nI (a + 1))) G e (a + 1) op (h.mv (fun j a1 a2 a3 => pk_un a1)) (by omega) hop pk_us ((pk_un (by decide)).trans h10) ((pk_un (by decide)).trans h14) (by omega) (by omega)) ?_
        rintro _ _ ⟨p1, rfl, rfl, h81, h141, hp1⟩
        dsimp only [Option.toList, List.cons_append, List.nil_append, Nat.add_zero]
        refine is3 (n := 75) dX9_product_74 rfl trivial ?_
        refine il2 (n := 76) dX9_product_75 rfl ?_
        refine k_bipush (a := 42) (n := 78) dX9_product_76 rfl rfl ?_
        refine k_icmp_ne (t := 87) (n := 81) dX9_product_78 (by decide) rfl (fun h78 => ?_) (fun h78 => ?_)
        · refine il3 (n := 88) dX9_product_87 rfl ?_
          refine k_if_ne (t := 95) (n := 91) dX9_product_88 (by decide) rfl (fun h88 => ?_) (fun h88 => ?_)
          · refine il2 (n := 96) dX9_product_95 rfl ?_
            refine k_bipush (a := 47) (n := 98) dX9_product_96 rfl rfl ?_
            refine k_icmp_ne (t := 107) (n := 101) dX9_product_98 (by decide) rfl (fun h98 => ?_) (fun h98 => ?_)
            · refine il1 (n := 108) dX9_product_107 rfl ?_
              refine il3 (n := 109) dX9_product_108 rfl ?_
              refine k_irem (n := 110) dX9_product_109 rfl h88 ?_
              refine is1 (n := 111) dX9_product_110 rfl trivial ?_
              refine k_goto (n := 5) dX9_product_111 (by decide) ?_
              have hz := pz_at G h.end m 5 (by decide) 0 (a + 1) op (by omega)
              have hv : ∀ x : Int32, x = mulF (G.1 a) v (pz G m 5 0 (a + 1) op).1 → Wd E d mX9_product 0 0 0 0 5 [some (.ref 81), some (.int x), some (.int (G.1 a)), some (.int (pz G m 5 0 (a + 1) op).1)] [] (kJ (kset I 81 p1)) (pQ I o0 (pz G (m + 1) 14 v a op)) := by
                intro x hx
                subst hx
                have hp : ∀ j, j ≠ 8 → j ≠ 14 → p1 j = o0 j := fun j a1 a2 => (hp1 j a1 a2).trans ((pk_un a1).trans (ho j a1 a2))
                cases hg : (pz G m 5 0 (a + 1) op).2.2 with
                | true =>
                  have hih := ih (by omega) p1 (mulF (G.1 a) v (pz G m 5 0 (a + 1) op).1) (pz G m 5 0 (a + 1) op).2.1 (some (.int (G.1 a))) (some (.int (pz G m 5 0 (a + 1) op).1)) (h.mv (fun j a1 a2 a3 => (hp1 j a1 a3).trans (pk_un a1))) hz.2 h81 ((hp1 10 (by decide) (by decide)).trans ((pk_un (by decide)).trans h10)) (by rw [h141, hg]; exact kb_t rfl) hp (by omega)
                  have ez : pz G (m + 1) 14 v a op = pz G m 14 (mulF (G.1 a) v (pz G m 5 0 (a + 1) op).1) (pz G m 5 0 (a + 1) op).2.1 op := by
                    rw [pz14, if_pos hs, hg]
                    rfl
                  rw [ez]
                  exact hih
                | false =>
                  have ez : pz G (m + 1) 14 v a op = (mulF (G.1 a) v (pz G m 5 0 (a + 1) op).1, (pz G m 5 0 (a + 1) op).2.1, false) := by
                    rw [pz14, if_pos hs, hg]
                    rfl
                  rw [ez]
                  refine al0 (n := 6) dX9_product_5 rfl ?_
                  refine gsX9_97 (n := 9) dX9_product_6 rfl rfl rfl ?_
                  rw [h141, hg, kb_f (show ¬ (false = true) by decide)]
                  refine k_if_eq (t := 114) (n := 12) dX9_product_9 (by decide) rfl (fun _ => ?_) (fun q => absurd rfl q)
                  refine il1 (n := 115) dX9_product_114 rfl ?_
                  refine k_ireturn (ty := .int) dX9_product_115 rfl rfl (Nat.le_refl _) (Nat.le_refl _) ?_
                  exact ⟨p1, rfl, rfl, h81, by rw [h141, hg], hp⟩
              refine hv _ ?_
              first
                | (rw [mulF, if_pos h78])
                | (rw [mulF, if_neg h78, if_pos h88])
                | (rw [mulF, if_neg h78, if_neg h88, if_pos h98])
                | (rw [mulF, if_neg h78, if_neg h88, if_neg h98])
            · refine il1 (n := 102) dX9_product_101 rfl ?_
              refine il3 (n := 103) dX9_product_102 rfl ?_
              refine k_idiv (n := 104) dX9_product_103 rfl h88 ?_
              refine k_goto (n := 110) dX9_product_104 (by decide) ?_
              refine is1 (n := 111) dX9_product_110 rfl trivial ?_
              refine k_goto (n := 5) dX9_product_111 (by decide) ?_
              have hz := pz_at G h.end m 5 (by decide) 0 (a + 1) op (by omega)
              have hv : ∀ x : Int32, x = mulF (G.1 a) v (pz G m 5 0 (a + 1) op).1 → Wd E d mX9_product 0 0 0 0 5 [some (.ref 81), some (.int x), some (.int (G.1 a)), some (.int (pz G m 5 0 (a + 1) op).1)] [] (kJ (kset I 81 p1)) (pQ I o0 (pz G (m + 1) 14 v a op)) := by
                intro x hx
                subst hx
                have hp : ∀ j, j ≠ 8 → j ≠ 14 → p1 j = o0 j := fun j a1 a2 => (hp1 j a1 a2).trans ((pk_un a1).trans (ho j a1 a2))
                cases hg : (pz G m 5 0 (a + 1) op).2.2 with
                | true =>
                  have hih := ih (by omega) p1 (mulF (G.1 a) v (pz G m 5 0 (a + 1) op).1) (pz G m 5 0 (a + 1) op).2.1 (some (.int (G.1 a))) (some (.int (pz G m 5 0 (a + 1) op).1)) (h.mv (fun j a1 a2 a3 => (hp1 j a1 a3).trans (pk_un a1))) hz.2 h81 ((hp1 10 (by decide) (by decide)).trans ((pk_un (by decide)).trans h10)) (by rw [h141, hg]; exact kb_t rfl) hp (by omega)
                  have ez : pz G (m + 1) 14 v a op = pz G m 14 (mulF (G.1 a) v (pz G m 5 0 (a + 1) op).1) (pz G m 5 0 (a + 1) op).2.1 op := by
                    rw [pz14, if_pos hs, hg]
                    rfl
                  rw [ez]
                  exact hih
                | false =>
                  have ez : pz G (m + 1) 14 v a op = (mulF (G.1 a) v (pz G m 5 0 (a + 1) op).1, (pz G m 5 0 (a + 1) op).2.1, false) := by
                    rw [pz14, if_pos hs, hg]
                    rfl
                  rw [ez]
                  refine al0 (n := 6) dX9_product_5 rfl ?_
                  refine gsX9_97 (n := 9) dX9_product_6 rfl rfl rfl ?_
                  rw [h141, hg, kb_f (show ¬ (false = true) by decide)]
                  refine k_if_eq (t := 114) (n := 12) dX9_product_9 (by decide) rfl (fun _ => ?_) (fun q => absurd rfl q)
                  refine il1 (n := 115) dX9_product_114 rfl ?_
                  refine k_ireturn (ty := .int) dX9_product_115 rfl rfl (Nat.le_refl _) (Nat.le_refl _) ?_
                  exact ⟨p1, rfl, rfl, h81, by rw [h141, hg], hp⟩
              refine hv _ ?_
              first
                | (rw [mulF, if_pos h78])
                | (rw [mulF, if_neg h78, if_pos h88])
                | (rw [mulF, if_neg h78, if_neg h88, if_pos h98])
                | (rw [mulF, if_neg h78, if_neg h88, if_neg h98])
          · refine k_iconst (a := 0) (n := 92) dX9_product_91 rfl rfl ?_
            refine k_goto (n := 110) dX9_product_92 (by decide) ?_
            refine is1 (n := 111) dX9_product_110 rfl trivial ?_
            refine k_goto (n := 5) dX9_product_111 (by decide) ?_
            have hz := pz_at G h.end m 5 (by decide) 0 (a + 1) op (by omega)
            have hv : ∀ x : Int32, x = mulF (G.1 a) v (pz G m 5 0 (a + 1) op).1 → Wd E d mX9_product 0 0 0 0 5 [some (.ref 81), some (.int x), some (.int (G.1 a)), some (.int (pz G m 5 0 (a + 1) op).1)] [] (kJ (kset I 81 p1)) (pQ I o0 (pz G (m + 1) 14 v a op)) := by
              intro x hx
              subst hx
              have hp : ∀ j, j ≠ 8 → j ≠ 14 → p1 j = o0 j := fun j a1 a2 => (hp1 j a1 a2).trans ((pk_un a1).trans (ho j a1 a2))
              cases hg : (pz G m 5 0 (a + 1) op).2.2 with
              | true =>
                have hih := ih (by omega) p1 (mulF (G.1 a) v (pz G m 5 0 (a + 1) op).1) (pz G m 5 0 (a + 1) op).2.1 (some (.int (G.1 a))) (some (.int (pz G m 5 0 (a + 1) op).1)) (h.mv (fun j a1 a2 a3 => (hp1 j a1 a3).trans (pk_un a1))) hz.2 h81 ((hp1 10 (by decide) (by decide)).trans ((pk_un (by decide)).trans h10)) (by rw [h141, hg]; exact kb_t rfl) hp (by omega)
                have ez : pz G (m + 1) 14 v a op = pz G m 14 (mulF (G.1 a) v (pz G m 5 0 (a + 1) op).1) (pz G m 5 0 (a + 1) op).2.1 op := by
                  rw [pz14, if_pos hs, hg]
                  rfl
                rw [ez]
                exact hih
              | false =>
                have ez : pz G (m + 1) 14 v a op = (mulF (G.1 a) v (pz G m 5 0 (a + 1) op).1, (pz G m 5 0 (a + 1) op).2.1, false) := by
                  rw [pz14, if_pos hs, hg]
                  rfl
                rw [ez]
                refine al0 (n := 6) dX9_product_5 rfl ?_
                refine gsX9_97 (n := 9) dX9_product_6 rfl rfl rfl ?_
                rw [h141, hg, kb_f (show ¬ (false = true) by decide)]
                refine k_if_eq (t := 114) (n := 12) dX9_product_9 (by decide) rfl (fun _ => ?_) (fun q => absurd rfl q)
                refine il1 (n := 115) dX9_product_114 rfl ?_
                refine k_ireturn (ty := .int) dX9_product_115 rfl rfl (Nat.le_refl _) (Nat.le_refl _) ?_
                exact ⟨p1, rfl, rfl, h81, by rw [h141, hg], hp⟩
            refine hv _ ?_
            first
              | (rw [mulF, if_pos h78])
              | (rw [mulF, if_neg h78, if_pos h88])
              | (rw [mulF, if_neg h78, if_neg h88, if_pos h98])
              | (rw [mulF, if_neg h78, if_neg h88, if_neg h98])
        · refine il1 (n := 82) dX9_product_81 rfl ?_
          refine il3 (n := 83) dX9_product_82 rfl ?_
          refine k_imul (n := 84) dX9_product_83 rfl ?_
          refine k_goto (n := 110) dX9_product_84 (by decide) ?_
          refine is1 (n := 111) dX9_product_110 rfl trivial ?_
          refine k_goto (n := 5) dX9_product_111 (by decide) ?_
          have hz := pz_at G h.end m 5 (by decide) 0 (a + 1) op (by omega)
          have hv : ∀ x : Int32, x = mulF (G.1 a) v (pz G m 5 0 (a + 1) op).1 → Wd E d mX9_product 0 0 0 0 5 [some (.ref 81), some (.int x), some (.int (G.1 a)), some (.int (pz G m 5 0 (a + 1) op).1)] [] (kJ (kset I 81 p1)) (pQ I o0 (pz G (m + 1) 14 v a op)) := by
            intro x hx
            subst hx
            have hp : ∀ j, j ≠ 8 → j ≠ 14 → p1 j = o0 j := fun j a1 a2 => (hp1 j a1 a2).trans ((pk_un a1).trans (ho j a1 a2))
            cases hg : (pz G m 5 0 (a + 1) op).2.2 with
            | true =>
              have hih := ih (by omega) p1 (mulF (G.1 a) v (pz G m 5 0 (a + 1) op).1) (pz G m 5 0 (a + 1) op).2.1 (some (.int (G.1 a))) (some (.int (pz G m 5 0 (a + 1) op).1)) (h.mv (fun j a1 a2 a3 => (hp1 j a1 a3).trans (pk_un a1))) hz.2 h81 ((hp1 10 (by decide) (by decide)).trans ((pk_un (by decide)).trans h10)) (by rw [h141, hg]; exact kb_t rfl) hp (by omega)
              have ez : pz G (m + 1) 14 v a op = pz G m 14 (mulF (G.1 a) v (pz G m 5 0 (a + 1) op).1) (pz G m 5 0 (a + 1) op).2.1 op := by
                rw [pz14, if_pos hs, hg]
                rfl
              rw [ez]
              exact hih
            | false =>
              have ez : pz G (m + 1) 14 v a op = (mulF (G.1 a) v (pz G m 5 0 (a + 1) op).1, (pz G m 5 0 (a + 1) op).2.1, false) := by
                rw [pz14, if_pos hs, hg]
                rfl
              rw [ez]
              refine al0 (n := 6) dX9_product_5 rfl ?_
              refine gsX9_97 (n := 9) dX9_product_6 rfl rfl rfl ?_
              rw [h141, hg, kb_f (show ¬ (false = true) by decide)]
              refine k_if_eq (t := 114) (n := 12) dX9_product_9 (by decide) rfl (fun _ => ?_) (fun q => absurd rfl q)
              refine il1 (n := 115) dX9_product_114 rfl ?_
              refine k_ireturn (ty := .int) dX9_product_115 rfl rfl (Nat.le_refl _) (Nat.le_refl _) ?_
              exact ⟨p1, rfl, rfl, h81, by rw [h141, hg], hp⟩
          refine hv _ ?_
          first
            | (rw [mulF, if_pos h78])
            | (rw [mulF, if_neg h78, if_pos h88])
            | (rw [mulF, if_neg h78, if_neg h88, if_pos h98])
            | (rw [mulF, if_neg h78, if_neg h88, if_neg h98])
      · refine al0 (n := 26) dX9_product_25 rfl ?_
        refine al0 (n := 27) dX9_product_26 rfl ?_
        refine gsX9_101 (n := 30) dX9_product_27 rfl rfl rfl ?_
        rw [h8]
        refine qiX9_104 (n := 33) dX9_product_30 rfl rfl (Nat.le_of_ble_eq_true rfl) (by omega) rfl (m_byteAt h a (by omega)) (Nat.le_refl _) (Nat.le_refl _) ?_
        refine k_bipush (a := 47) (n := 35) dX9_product_33 rfl rfl ?_
        refine k_icmp_eq (t := 51) (n := 38) dX9_product_35 (by decide) rfl (fun h35 => ?_) (fun h35 => ?_)
        · have hlt : a < e := h.lt (fun q => by rw [h35] at q; exact absurd q (by decide))
          have hs : G.1 a = 42 ∨ G.1 a = 47 ∨ G.1 a = 37 := by simp [h35]
          refine al0 (n := 52) dX9_product_51 rfl ?_
          refine al0 (n := 53) dX9_product_52 rfl ?_
          refine gsX9_101 (n := 56) dX9_product_53 rfl rfl rfl ?_
          rw [h8]
          refine qiX9_104 (n := 59) dX9_product_56 rfl rfl (Nat.le_of_ble_eq_true rfl) (by omega) rfl (m_byteAt h a (by omega)) (Nat.le_refl _) (Nat.le_refl _) ?_
          refine is2 (n := 60) dX9_product_59 rfl trivial ?_
          refine al0 (n := 61) dX9_product_60 rfl ?_
          refine k_dup (n := 62) dX9_product_61 rfl rfl ?_
          refine gsX9_101 (n := 65) dX9_product_62 rfl rfl rfl ?_
          rw [h8]
          refine k_iconst (a := 1) (n := 66) dX9_product_65 rfl rfl ?_
          refine k_iadd (n := 67) dX9_product_66 rfl ?_
          rw [nI_1 a]
          refine psX9_101 (n := 70) dX9_product_67 rfl rfl rfl ?_
          refine al0 (n := 71) dX9_product_70 rfl ?_
          refine qX9_132 (n := 74) dX9_product_71 rfl rfl (Nat.le_of_ble_eq_true rfl) (by omega) (Nat.le_refl _) (Nat.le_refl _) rfl (hC m (by omega) (d - 1) I (upd o 8 (nI (a + 1))) G e (a + 1) op (h.mv (fun j a1 a2 a3 => pk_un a1)) (by omega) hop pk_us ((pk_un (by decide)).trans h10) ((pk_un (by decide)).trans h14) (by omega) (by omega)) ?_
          rintro _ _ ⟨p1, rfl, rfl, h81, h141, hp1⟩
          dsimp only [Option.toList, List.cons_append, List.nil_append, Nat.add_zero]
          refine is3 (n := 75) dX9_product_74 rfl trivial ?_
          refine il2 (n := 76) dX9_product_75 rfl ?_
          refine k_bipush (a := 42) (n := 78) dX9_product_76 rfl rfl ?_
          refine k_icmp_ne (t := 87) (n := 81) dX9_product_78 (by decide) rfl (fun h78 => ?_) (fun h78 => ?_)
          · refine il3 (n := 88) dX9_product_87 rfl ?_
            refine k_if_ne (t := 95) (n := 91) dX9_product_88 (by decide) rfl (fun h88 => ?_) (fun h88 => ?_)
            · refine il2 (n := 96) dX9_product_95 rfl ?_
              refine k_bipush (a := 47) (n := 98) dX9_product_96 rfl rfl ?_
              refine k_icmp_ne (t := 107) (n := 101) dX9_product_98 (by decide) rfl (fun h98 => ?_) (fun h98 => ?_)
              · refine il1 (n := 108) dX9_product_107 rfl ?_
                refine il3 (n := 109) dX9_product_108 rfl ?_
                refine k_irem (n := 110) dX9_product_109 rfl h88 ?_
                refine is1 (n := 111) dX9_product_110 rfl trivial ?_
                refine k_goto (n := 5) dX9_product_111 (by decide) ?_
                have hz := pz_at G h.end m 5 (by decide) 0 (a + 1) op (by omega)
                have hv : ∀ x : Int32, x = mulF (G.1 a) v (pz G m 5 0 (a + 1) op).1 → Wd E d mX9_product 0 0 0 0 5 [some (.ref 81), some (.int x), some (.int (G.1 a)), some (.int (pz G m 5 0 (a + 1) op).1)] [] (kJ (kset I 81 p1)) (pQ I o0 (pz G (m + 1) 14 v a op)) := by
                  intro x hx
                  subst hx
                  have hp : ∀ j, j ≠ 8 → j ≠ 14 → p1 j = o0 j := fun j a1 a2 => (hp1 j a1 a2).trans ((pk_un a1).trans (ho j a1 a2))
                  cases hg : (pz G m 5 0 (a + 1) op).2.2 with
                  | true =>
                    have hih := ih (by omega) p1 (mulF (G.1 a) v (pz G m 5 0 (a + 1) op).1) (pz G m 5 0 (a + 1) op).2.1 (some (.int (G.1 a))) (some (.int (pz G m 5 0 (a + 1) op).1)) (h.mv (fun j a1 a2 a3 => (hp1 j a1 a3).trans (pk_un a1))) hz.2 h81 ((hp1 10 (by decide) (by decide)).trans ((pk_un (by decide)).trans h10)) (by rw [h141, hg]; exact kb_t rfl) hp (by omega)
                    have ez : pz G (m + 1) 14 v a op = pz G m 14 (mulF (G.1 a) v (pz G m 5 0 (a + 1) op).1) (pz G m 5 0 (a + 1) op).2.1 op := by
                      rw [pz14, if_pos hs, hg]
                      rfl
                    rw [ez]
                    exact hih
                  | false =>
                    have ez : pz G (m + 1) 14 v a op = (mulF (G.1 a) v (pz G m 5 0 (a + 1) op).1, (pz G m 5 0 (a + 1) op).2.1, false) := by
                      rw [pz14, if_pos hs, hg]
                      rfl
                    rw [ez]
                    refine al0 (n := 6) dX9_product_5 rfl ?_
                    refine gsX9_97 (n := 9) dX9_product_6 rfl rfl rfl ?_
                    rw [h141, hg, kb_f (show ¬ (false = true) by decide)]
                    refine k_if_eq (t := 114) (n := 12) dX9_product_9 (by decide) rfl (fun _ => ?_) (fun q => absurd rfl q)
                    refine il1 (n := 115) dX9_product_114 rfl ?_
                    refine k_ireturn (ty := .int) dX9_product_115 rfl rfl (Nat.le_refl _) (Nat.le_refl _) ?_
                    exact ⟨p1, rfl, rfl, h81, by rw [h141, hg], hp⟩
                refine hv _ ?_
                first
                  | (rw [mulF, if_pos h78])
                  | (rw [mulF, if_neg h78, if_pos h88])
                  | (rw [mulF, if_neg h78, if_neg h88, if_pos h98])
                  | (rw [mulF, if_neg h78, if_neg h88, if_neg h98])
              · refine il1 (n := 102) dX9_product_101 rfl ?_
                refine il3 (n := 103) dX9_product_102 rfl ?_
                refine k_idiv (n := 104) dX9_product_103 rfl h88 ?_
                refine k_goto (n := 110) dX9_product_104 (by decide) ?_
                refine is1 (n := 111) dX9_product_110 rfl trivial ?_
                refine k_goto (n := 5) dX9_product_111 (by decide) ?_
                have hz := pz_at G h.end m 5 (by decide) 0 (a + 1) op (by omega)
                have hv : ∀ x : Int32, x = mulF (G.1 a) v (pz G m 5 0 (a + 1) op).1 → Wd E d mX9_product 0 0 0 0 5 [some (.ref 81), some (.int x), some (.int (G.1 a)), some (.int (pz G m 5 0 (a + 1) op).1)] [] (kJ (kset I 81 p1)) (pQ I o0 (pz G (m + 1) 14 v a op)) := by
                  intro x hx
                  subst hx
                  have hp : ∀ j, j ≠ 8 → j ≠ 14 → p1 j = o0 j := fun j a1 a2 => (hp1 j a1 a2).trans ((pk_un a1).trans (ho j a1 a2))
                  cases hg : (pz G m 5 0 (a + 1) op).2.2 with
                  | true =>
                    have hih := ih (by omega) p1 (mulF (G.1 a) v (pz G m 5 0 (a + 1) op).1) (pz G m 5 0 (a + 1) op).2.1 (some (.int (G.1 a))) (some (.int (pz G m 5 0 (a + 1) op).1)) (h.mv (fun j a1 a2 a3 => (hp1 j a1 a3).trans (pk_un a1))) hz.2 h81 ((hp1 10 (by decide) (by decide)).trans ((pk_un (by decide)).trans h10)) (by rw [h141, hg]; exact kb_t rfl) hp (by omega)
                    have ez : pz G (m + 1) 14 v a op = pz G m 14 (mulF (G.1 a) v (pz G m 5 0 (a + 1) op).1) (pz G m 5 0 (a + 1) op).2.1 op := by
                      rw [pz14, if_pos hs, hg]
                      rfl
                    rw [ez]
                    exact hih
                  | false =>
                    have ez : pz G (m + 1) 14 v a op = (mulF (G.1 a) v (pz G m 5 0 (a + 1) op).1, (pz G m 5 0 (a + 1) op).2.1, false) := by
                      rw [pz14, if_pos hs, hg]
                      rfl
                    rw [ez]
                    refine al0 (n := 6) dX9_product_5 rfl ?_
                    refine gsX9_97 (n := 9) dX9_product_6 rfl rfl rfl ?_
                    rw [h141, hg, kb_f (show ¬ (false = true) by decide)]
                    refine k_if_eq (t := 114) (n := 12) dX9_product_9 (by decide) rfl (fun _ => ?_) (fun q => absurd rfl q)
                    refine il1 (n := 115) dX9_product_114 rfl ?_
                    refine k_ireturn (ty := .int) dX9_product_115 rfl rfl (Nat.le_refl _) (Nat.le_refl _) ?_
                    exact ⟨p1, rfl, rfl, h81, by rw [h141, hg], hp⟩
                refine hv _ ?_
                first
                  | (rw [mulF, if_pos h78])
                  | (rw [mulF, if_neg h78, if_pos h88])
                  | (rw [mulF, if_neg h78, if_neg h88, if_pos h98])
                  | (rw [mulF, if_neg h78, if_neg h88, if_neg h98])
            · refine k_iconst (a := 0) (n := 92) dX9_product_91 rfl rfl ?_
              refine k_goto (n := 110) dX9_product_92 (by decide) ?_
              refine is1 (n := 111) dX9_product_110 rfl trivial ?_
              refine k_goto (n := 5) dX9_product_111 (by decide) ?_
              have hz := pz_at G h.end m 5 (by decide) 0 (a + 1) op (by omega)
              have hv : ∀ x : Int32, x = mulF (G.1 a) v (pz G m 5 0 (a + 1) op).1 → Wd E d mX9_product 0 0 0 0 5 [some (.ref 81), some (.int x), some (.int (G.1 a)), some (.int (pz G m 5 0 (a + 1) op).1)] [] (kJ (kset I 81 p1)) (pQ I o0 (pz G (m + 1) 14 v a op)) := by
                intro x hx
                subst hx
                have hp : ∀ j, j ≠ 8 → j ≠ 14 → p1 j = o0 j := fun j a1 a2 => (hp1 j a1 a2).trans ((pk_un a1).trans (ho j a1 a2))
                cases hg : (pz G m 5 0 (a + 1) op).2.2 with
                | true =>
                  have hih := ih (by omega) p1 (mulF (G.1 a) v (pz G m 5 0 (a + 1) op).1) (pz G m 5 0 (a + 1) op).2.1 (some (.int (G.1 a))) (some (.int (pz G m 5 0 (a + 1) op).1)) (h.mv (fun j a1 a2 a3 => (hp1 j a1 a3).trans (pk_un a1))) hz.2 h81 ((hp1 10 (by decide) (by decide)).trans ((pk_un (by decide)).trans h10)) (by rw [h141, hg]; exact kb_t rfl) hp (by omega)
                  have ez : pz G (m + 1) 14 v a op = pz G m 14 (mulF (G.1 a) v (pz G m 5 0 (a + 1) op).1) (pz G m 5 0 (a + 1) op).2.1 op := by
                    rw [pz14, if_pos hs, hg]
                    rfl
                  rw [ez]
                  exact hih
                | false =>
                  have ez : pz G (m + 1) 14 v a op = (mulF (G.1 a) v (pz G m 5 0 (a + 1) op).1, (pz G m 5 0 (a + 1) op).2.1, false) := by
                    rw [pz14, if_pos hs, hg]
                    rfl
                  rw [ez]
                  refine al0 (n := 6) dX9_product_5 rfl ?_
                  refine gsX9_97 (n := 9) dX9_product_6 rfl rfl rfl ?_
                  rw [h141, hg, kb_f (show ¬ (false = true) by decide)]
                  refine k_if_eq (t := 114) (n := 12) dX9_product_9 (by decide) rfl (fun _ => ?_) (fun q => absurd rfl q)
                  refine il1 (n := 115) dX9_product_114 rfl ?_
                  refine k_ireturn (ty := .int) dX9_product_115 rfl rfl (Nat.le_refl _) (Nat.le_refl _) ?_
                  exact ⟨p1, rfl, rfl, h81, by rw [h141, hg], hp⟩
              refine hv _ ?_
              first
                | (rw [mulF, if_pos h78])
                | (rw [mulF, if_neg h78, if_pos h88])
                | (rw [mulF, if_neg h78, if_neg h88, if_pos h98])
                | (rw [mulF, if_neg h78, if_neg h88, if_neg h98])
          · refine il1 (n := 82) dX9_product_81 rfl ?_
            refine il3 (n := 83) dX9_product_82 rfl ?_
            refine k_imul (n := 84) dX9_product_83 rfl ?_
            refine k_goto (n := 110) dX9_product_84 (by decide) ?_
            refine is1 (n := 111) dX9_product_110 rfl trivial ?_
            refine k_goto (n := 5) dX9_product_111 (by decide) ?_
            have hz := pz_at G h.end m 5 (by decide) 0 (a + 1) op (by omega)
            have hv : ∀ x : Int32, x = mulF (G.1 a) v (pz G m 5 0 (a + 1) op).1 → Wd E d mX9_product 0 0 0 0 5 [some (.ref 81), some (.int x), some (.int (G.1 a)), some (.int (pz G m 5 0 (a + 1) op).1)] [] (kJ (kset I 81 p1)) (pQ I o0 (pz G (m + 1) 14 v a op)) := by
              intro x hx
              subst hx
              have hp : ∀ j, j ≠ 8 → j ≠ 14 → p1 j = o0 j := fun j a1 a2 => (hp1 j a1 a2).trans ((pk_un a1).trans (ho j a1 a2))
              cases hg : (pz G m 5 0 (a + 1) op).2.2 with
              | true =>
                have hih := ih (by omega) p1 (mulF (G.1 a) v (pz G m 5 0 (a + 1) op).1) (pz G m 5 0 (a + 1) op).2.1 (some (.int (G.1 a))) (some (.int (pz G m 5 0 (a + 1) op).1)) (h.mv (fun j a1 a2 a3 => (hp1 j a1 a3).trans (pk_un a1))) hz.2 h81 ((hp1 10 (by decide) (by decide)).trans ((pk_un (by decide)).trans h10)) (by rw [h141, hg]; exact kb_t rfl) hp (by omega)
                have ez : pz G (m + 1) 14 v a op = pz G m 14 (mulF (G.1 a) v (pz G m 5 0 (a + 1) op).1) (pz G m 5 0 (a + 1) op).2.1 op := by
                  rw [pz14, if_pos hs, hg]
                  rfl
                rw [ez]
                exact hih
              | false =>
                have ez : pz G (m + 1) 14 v a op = (mulF (G.1 a) v (pz G m 5 0 (a + 1) op).1, (pz G m 5 0 (a + 1) op).2.1, false) := by
                  rw [pz14, if_pos hs, hg]
                  rfl
                rw [ez]
                refine al0 (n := 6) dX9_product_5 rfl ?_
                refine gsX9_97 (n := 9) dX9_product_6 rfl rfl rfl ?_
                rw [h141, hg, kb_f (show ¬ (false = true) by decide)]
                refine k_if_eq (t := 114) (n := 12) dX9_product_9 (by decide) rfl (fun _ => ?_) (fun q => absurd rfl q)
                refine il1 (n := 115) dX9_product_114 rfl ?_
                refine k_ireturn (ty := .int) dX9_product_115 rfl rfl (Nat.le_refl _) (Nat.le_refl _) ?_
                exact ⟨p1, rfl, rfl, h81, by rw [h141, hg], hp⟩
            refine hv _ ?_
            first
              | (rw [mulF, if_pos h78])
              | (rw [mulF, if_neg h78, if_pos h88])
              | (rw [mulF, if_neg h78, if_neg h88, if_pos h98])
              | (rw [mulF, if_neg h78, if_neg h88, if_neg h98])
        · refine al0 (n := 39) dX9_product_38 rfl ?_
          refine al0 (n := 40) dX9_product_39 rfl ?_
          refine gsX9_101 (n := 43) dX9_product_40 rfl rfl rfl ?_
          rw [h8]
          refine qiX9_104 (n := 46) dX9_product_43 rfl rfl (Nat.le_of_ble_eq_true rfl) (by omega) rfl (m_byteAt h a (by omega)) (Nat.le_refl _) (Nat.le_refl _) ?_
          refine k_bipush (a := 37) (n := 48) dX9_product_46 rfl rfl ?_
          refine k_icmp_ne (t := 114) (n := 51) dX9_product_48 (by decide) rfl (fun h48 => ?_) (fun h48 => ?_)
          · refine il1 (n := 115) dX9_product_114 rfl ?_
            refine k_ireturn (ty := .int) dX9_product_115 rfl rfl (Nat.le_refl _) (Nat.le_refl _) ?_
            have hn : ¬ (G.1 a = 42 ∨ G.1 a = 47 ∨ G.1 a = 37) := by simp [h22, h35, h48]
            exact ⟨o, by rw [pz14, if_neg hn], rfl, by rw [pz14, if_neg hn]; exact h8, by rw [pz14, if_neg hn]; exact h14.trans (kb_t rfl).symm, ho⟩
          · have hlt : a < e := h.lt (fun q => by rw [h48] at q; exact absurd q (by decide))
            have hs : G.1 a = 42 ∨ G.1 a = 47 ∨ G.1 a = 37 := by simp [h48]
            refine al0 (n := 52) dX9_product_51 rfl ?_
            refine al0 (n := 53) dX9_product_52 rfl ?_
            refine gsX9_101 (n := 56) dX9_product_53 rfl rfl rfl ?_
            rw [h8]
            refine qiX9_104 (n := 59) dX9_product_56 rfl rfl (Nat.le_of_ble_eq_true rfl) (by omega) rfl (m_byteAt h a (by omega)) (Nat.le_refl _) (Nat.le_refl _) ?_
            refine is2 (n := 60) dX9_product_59 rfl trivial ?_
            refine al0 (n := 61) dX9_product_60 rfl ?_
            refine k_dup (n := 62) dX9_product_61 rfl rfl ?_
            refine gsX9_101 (n := 65) dX9_product_62 rfl rfl rfl ?_
            rw [h8]
            refine k_iconst (a := 1) (n := 66) dX9_product_65 rfl rfl ?_
            refine k_iadd (n := 67) dX9_product_66 rfl ?_
            rw [nI_1 a]
            refine psX9_101 (n := 70) dX9_product_67 rfl rfl rfl ?_
            refine al0 (n := 71) dX9_product_70 rfl ?_
            refine qX9_132 (n := 74) dX9_product_71 rfl rfl (Nat.le_of_ble_eq_true rfl) (by omega) (Nat.le_refl _) (Nat.le_refl _) rfl (hC m (by omega) (d - 1) I (upd o 8 (nI (a + 1))) G e (a + 1) op (h.mv (fun j a1 a2 a3 => pk_un a1)) (by omega) hop pk_us ((pk_un (by decide)).trans h10) ((pk_un (by decide)).trans h14) (by omega) (by omega)) ?_
            rintro _ _ ⟨p1, rfl, rfl, h81, h141, hp1⟩
            dsimp only [Option.toList, List.cons_append, List.nil_append, Nat.add_zero]
            refine is3 (n := 75) dX9_product_74 rfl trivial ?_
            refine il2 (n := 76) dX9_product_75 rfl ?_
            refine k_bipush (a := 42) (n := 78) dX9_product_76 rfl rfl ?_
            refine k_icmp_ne (t := 87) (n := 81) dX9_product_78 (by decide) rfl (fun h78 => ?_) (fun h78 => ?_)
            · refine il3 (n := 88) dX9_product_87 rfl ?_
              refine k_if_ne (t := 95) (n := 91) dX9_product_88 (by decide) rfl (fun h88 => ?_) (fun h88 => ?_)
              · refine il2 (n := 96) dX9_product_95 rfl ?_
                refine k_bipush (a := 47) (n := 98) dX9_product_96 rfl rfl ?_
                refine k_icmp_ne (t := 107) (n := 101) dX9_product_98 (by decide) rfl (fun h98 => ?_) (fun h98 => ?_)
                · refine il1 (n := 108) dX9_product_107 rfl ?_
                  refine il3 (n := 109) dX9_product_108 rfl ?_
                  refine k_irem (n := 110) dX9_product_109 rfl h88 ?_
                  refine is1 (n := 111) dX9_product_110 rfl trivial ?_
                  refine k_goto (n := 5) dX9_product_111 (by decide) ?_
                  have hz := pz_at G h.end m 5 (by decide) 0 (a + 1) op (by omega)
                  have hv : ∀ x : Int32, x = mulF (G.1 a) v (pz G m 5 0 (a + 1) op).1 → Wd E d mX9_product 0 0 0 0 5 [some (.ref 81), some (.int x), some (.int (G.1 a)), some (.int (pz G m 5 0 (a + 1) op).1)] [] (kJ (kset I 81 p1)) (pQ I o0 (pz G (m + 1) 14 v a op)) := by
                    intro x hx
                    subst hx
                    have hp : ∀ j, j ≠ 8 → j ≠ 14 → p1 j = o0 j := fun j a1 a2 => (hp1 j a1 a2).trans ((pk_un a1).trans (ho j a1 a2))
                    cases hg : (pz G m 5 0 (a + 1) op).2.2 with
                    | true =>
                      have hih := ih (by omega) p1 (mulF (G.1 a) v (pz G m 5 0 (a + 1) op).1) (pz G m 5 0 (a + 1) op).2.1 (some (.int (G.1 a))) (some (.int (pz G m 5 0 (a + 1) op).1)) (h.mv (fun j a1 a2 a3 => (hp1 j a1 a3).trans (pk_un a1))) hz.2 h81 ((hp1 10 (by decide) (by decide)).trans ((pk_un (by decide)).trans h10)) (by rw [h141, hg]; exact kb_t rfl) hp (by omega)
                      have ez : pz G (m + 1) 14 v a op = pz G m 14 (mulF (G.1 a) v (pz G m 5 0 (a + 1) op).1) (pz G m 5 0 (a + 1) op).2.1 op := by
                        rw [pz14, if_pos hs, hg]
                        rfl
                      rw [ez]
                      exact hih
                    | false =>
                      have ez : pz G (m + 1) 14 v a op = (mulF (G.1 a) v (pz G m 5 0 (a + 1) op).1, (pz G m 5 0 (a + 1) op).2.1, false) := by
                        rw [pz14, if_pos hs, hg]
                        rfl
                      rw [ez]
                      refine al0 (n := 6) dX9_product_5 rfl ?_
                      refine gsX9_97 (n := 9) dX9_product_6 rfl rfl rfl ?_
                      rw [h141, hg, kb_f (show ¬ (false = true) by decide)]
                      refine k_if_eq (t := 114) (n := 12) dX9_product_9 (by decide) rfl (fun _ => ?_) (fun q => absurd rfl q)
                      refine il1 (n := 115) dX9_product_114 rfl ?_
                      refine k_ireturn (ty := .int) dX9_product_115 rfl rfl (Nat.le_refl _) (Nat.le_refl _) ?_
                      exact ⟨p1, rfl, rfl, h81, by rw [h141, hg], hp⟩
                  refine hv _ ?_
                  first
                    | (rw [mulF, if_pos h78])
                    | (rw [mulF, if_neg h78, if_pos h88])
                    | (rw [mulF, if_neg h78, if_neg h88, if_pos h98])
                    | (rw [mulF, if_neg h78, if_neg h88, if_neg h98])
                · refine il1 (n := 102) dX9_product_101 rfl ?_
                  refine il3 (n := 103) dX9_product_102 rfl ?_
                  refine k_idiv (n := 104) dX9_product_103 rfl h88 ?_
                  refine k_goto (n := 110) dX9_product_104 (by decide) ?_
                  refine is1 (n := 111) dX9_product_110 rfl trivial ?_
                  refine k_goto (n := 5) dX9_product_111 (by decide) ?_
                  have hz := pz_at G h.end m 5 (by decide) 0 (a + 1) op (by omega)
                  have hv : ∀ x : Int32, x = mulF (G.1 a) v (pz G m 5 0 (a + 1) op).1 → Wd E d mX9_product 0 0 0 0 5 [some (.ref 81), some (.int x), some (.int (G.1 a)), some (.int (pz G m 5 0 (a + 1) op).1)] [] (kJ (kset I 81 p1)) (pQ I o0 (pz G (m + 1) 14 v a op)) := by
                    intro x hx
                    subst hx
                    have hp : ∀ j, j ≠ 8 → j ≠ 14 → p1 j = o0 j := fun j a1 a2 => (hp1 j a1 a2).trans ((pk_un a1).trans (ho j a1 a2))
                    cases hg : (pz G m 5 0 (a + 1) op).2.2 with
                    | true =>
                      have hih := ih (by omega) p1 (mulF (G.1 a) v (pz G m 5 0 (a + 1) op).1) (pz G m 5 0 (a + 1) op).2.1 (some (.int (G.1 a))) (some (.int (pz G m 5 0 (a + 1) op).1)) (h.mv (fun j a1 a2 a3 => (hp1 j a1 a3).trans (pk_un a1))) hz.2 h81 ((hp1 10 (by decide) (by decide)).trans ((pk_un (by decide)).trans h10)) (by rw [h141, hg]; exact kb_t rfl) hp (by omega)
                      have ez : pz G (m + 1) 14 v a op = pz G m 14 (mulF (G.1 a) v (pz G m 5 0 (a + 1) op).1) (pz G m 5 0 (a + 1) op).2.1 op := by
                        rw [pz14, if_pos hs, hg]
                        rfl
                      rw [ez]
                      exact hih
                    | false =>
                      have ez : pz G (m + 1) 14 v a op = (mulF (G.1 a) v (pz G m 5 0 (a + 1) op).1, (pz G m 5 0 (a + 1) op).2.1, false) := by
                        rw [pz14, if_pos hs, hg]
                        rfl
                      rw [ez]
                      refine al0 (n := 6) dX9_product_5 rfl ?_
                      refine gsX9_97 (n := 9) dX9_product_6 rfl rfl rfl ?_
                      rw [h141, hg, kb_f (show ¬ (false = true) by decide)]
                      refine k_if_eq (t := 114) (n := 12) dX9_product_9 (by decide) rfl (fun _ => ?_) (fun q => absurd rfl q)
                      refine il1 (n := 115) dX9_product_114 rfl ?_
                      refine k_ireturn (ty := .int) dX9_product_115 rfl rfl (Nat.le_refl _) (Nat.le_refl _) ?_
                      exact ⟨p1, rfl, rfl, h81, by rw [h141, hg], hp⟩
                  refine hv _ ?_
                  first
                    | (rw [mulF, if_pos h78])
                    | (rw [mulF, if_neg h78, if_pos h88])
                    | (rw [mulF, if_neg h78, if_neg h88, if_pos h98])
                    | (rw [mulF, if_neg h78, if_neg h88, if_neg h98])
              · refine k_iconst (a := 0) (n := 92) dX9_product_91 rfl rfl ?_
                refine k_goto (n := 110) dX9_product_92 (by decide) ?_
                refine is1 (n := 111) dX9_product_110 rfl trivial ?_
                refine k_goto (n := 5) dX9_product_111 (by decide) ?_
                have hz := pz_at G h.end m 5 (by decide) 0 (a + 1) op (by omega)
                have hv : ∀ x : Int32, x = mulF (G.1 a) v (pz G m 5 0 (a + 1) op).1 → Wd E d mX9_product 0 0 0 0 5 [some (.ref 81), some (.int x), some (.int (G.1 a)), some (.int (pz G m 5 0 (a + 1) op).1)] [] (kJ (kset I 81 p1)) (pQ I o0 (pz G (m + 1) 14 v a op)) := by
                  intro x hx
                  subst hx
                  have hp : ∀ j, j ≠ 8 → j ≠ 14 → p1 j = o0 j := fun j a1 a2 => (hp1 j a1 a2).trans ((pk_un a1).trans (ho j a1 a2))
                  cases hg : (pz G m 5 0 (a + 1) op).2.2 with
                  | true =>
                    have hih := ih (by omega) p1 (mulF (G.1 a) v (pz G m 5 0 (a + 1) op).1) (pz G m 5 0 (a + 1) op).2.1 (some (.int (G.1 a))) (some (.int (pz G m 5 0 (a + 1) op).1)) (h.mv (fun j a1 a2 a3 => (hp1 j a1 a3).trans (pk_un a1))) hz.2 h81 ((hp1 10 (by decide) (by decide)).trans ((pk_un (by decide)).trans h10)) (by rw [h141, hg]; exact kb_t rfl) hp (by omega)
                    have ez : pz G (m + 1) 14 v a op = pz G m 14 (mulF (G.1 a) v (pz G m 5 0 (a + 1) op).1) (pz G m 5 0 (a + 1) op).2.1 op := by
                      rw [pz14, if_pos hs, hg]
                      rfl
                    rw [ez]
                    exact hih
                  | false =>
                    have ez : pz G (m + 1) 14 v a op = (mulF (G.1 a) v (pz G m 5 0 (a + 1) op).1, (pz G m 5 0 (a + 1) op).2.1, false) := by
                      rw [pz14, if_pos hs, hg]
                      rfl
                    rw [ez]
                    refine al0 (n := 6) dX9_product_5 rfl ?_
                    refine gsX9_97 (n := 9) dX9_product_6 rfl rfl rfl ?_
                    rw [h141, hg, kb_f (show ¬ (false = true) by decide)]
                    refine k_if_eq (t := 114) (n := 12) dX9_product_9 (by decide) rfl (fun _ => ?_) (fun q => absurd rfl q)
                    refine il1 (n := 115) dX9_product_114 rfl ?_
                    refine k_ireturn (ty := .int) dX9_product_115 rfl rfl (Nat.le_refl _) (Nat.le_refl _) ?_
                    exact ⟨p1, rfl, rfl, h81, by rw [h141, hg], hp⟩
                refine hv _ ?_
                first
                  | (rw [mulF, if_pos h78])
                  | (rw [mulF, if_neg h78, if_pos h88])
                  | (rw [mulF, if_neg h78, if_neg h88, if_pos h98])
                  | (rw [mulF, if_neg h78, if_neg h88, if_neg h98])
            · refine il1 (n := 82) dX9_product_81 rfl ?_
              refine il3 (n := 83) dX9_product_82 rfl ?_
              refine k_imul (n := 84) dX9_product_83 rfl ?_
              refine k_goto (n := 110) dX9_product_84 (by decide) ?_
              refine is1 (n := 111) dX9_product_110 rfl trivial ?_
              refine k_goto (n := 5) dX9_product_111 (by decide) ?_
              have hz := pz_at G h.end m 5 (by decide) 0 (a + 1) op (by omega)
              have hv : ∀ x : Int32, x = mulF (G.1 a) v (pz G m 5 0 (a + 1) op).1 → Wd E d mX9_product 0 0 0 0 5 [some (.ref 81), some (.int x), some (.int (G.1 a)), some (.int (pz G m 5 0 (a + 1) op).1)] [] (kJ (kset I 81 p1)) (pQ I o0 (pz G (m + 1) 14 v a op)) := by
                intro x hx
                subst hx
                have hp : ∀ j, j ≠ 8 → j ≠ 14 → p1 j = o0 j := fun j a1 a2 => (hp1 j a1 a2).trans ((pk_un a1).trans (ho j a1 a2))
                cases hg : (pz G m 5 0 (a + 1) op).2.2 with
                | true =>
                  have hih := ih (by omega) p1 (mulF (G.1 a) v (pz G m 5 0 (a + 1) op).1) (pz G m 5 0 (a + 1) op).2.1 (some (.int (G.1 a))) (some (.int (pz G m 5 0 (a + 1) op).1)) (h.mv (fun j a1 a2 a3 => (hp1 j a1 a3).trans (pk_un a1))) hz.2 h81 ((hp1 10 (by decide) (by decide)).trans ((pk_un (by decide)).trans h10)) (by rw [h141, hg]; exact kb_t rfl) hp (by omega)
                  have ez : pz G (m + 1) 14 v a op = pz G m 14 (mulF (G.1 a) v (pz G m 5 0 (a + 1) op).1) (pz G m 5 0 (a + 1) op).2.1 op := by
                    rw [pz14, if_pos hs, hg]
                    rfl
                  rw [ez]
                  exact hih
                | false =>
                  have ez : pz G (m + 1) 14 v a op = (mulF (G.1 a) v (pz G m 5 0 (a + 1) op).1, (pz G m 5 0 (a + 1) op).2.1, false) := by
                    rw [pz14, if_pos hs, hg]
                    rfl
                  rw [ez]
                  refine al0 (n := 6) dX9_product_5 rfl ?_
                  refine gsX9_97 (n := 9) dX9_product_6 rfl rfl rfl ?_
                  rw [h141, hg, kb_f (show ¬ (false = true) by decide)]
                  refine k_if_eq (t := 114) (n := 12) dX9_product_9 (by decide) rfl (fun _ => ?_) (fun q => absurd rfl q)
                  refine il1 (n := 115) dX9_product_114 rfl ?_
                  refine k_ireturn (ty := .int) dX9_product_115 rfl rfl (Nat.le_refl _) (Nat.le_refl _) ?_
                  exact ⟨p1, rfl, rfl, h81, by rw [h141, hg], hp⟩
              refine hv _ ?_
              first
                | (rw [mulF, if_pos h78])
                | (rw [mulF, if_neg h78, if_pos h88])
                | (rw [mulF, if_neg h78, if_neg h88, if_pos h98])
                | (rw [mulF, if_neg h78, if_neg h88, if_neg h98])
set_option maxHeartbeats 2000000 in
set_option maxRecDepth 20000 in
theorem pv_whole (n : Nat) (hC : ∀ m, m ≤ n → pOK E mX9_both m 1) : pOK E mX9_whole (n + 1) 0 := by
  intro d I o G e a op h ha hop h8 h10 h14 hf hd
  have hr : rkF 0 = 10 := rfl
  have hr2 : rkF 1 = 8 := rfl
  have hr3 : rkF 10 = 9 := rfl
  refine Ct.of (L := [some (.ref 81), none, none]) rfl rfl (Nat.le_of_ble_eq_true rfl) ?_
  refine al0 (n := 1) dX9_whole_0 rfl ?_
  refine qX9_147 (n := 4) dX9_whole_1 rfl rfl (Nat.le_of_ble_eq_true rfl) (by omega) (Nat.le_refl _) (Nat.le_refl _) rfl (hC n (Nat.le_refl _) (d - 1) I o G e a op h ha hop h8 h10 h14 (by omega) (by omega)) ?_
  rintro _ _ ⟨p1, rfl, rfl, h81, h141, hp1⟩
  dsimp only [Option.toList, List.cons_append, List.nil_append, Nat.add_zero]
  refine is1 (n := 5) dX9_whole_4 rfl trivial ?_
  have hz := pz_at G h.end n 1 (by decide) 0 a op ha
  cases hg : (pz G n 1 0 a op).2.2 with
  | true =>
    have hl := pl_whole n hC d I o G e op hop hd n (by omega) p1 (pz G n 1 0 a op).1 (pz G n 1 0 a op).2.1 none (h.mv (fun j a1 a2 a3 => hp1 j a1 a3)) hz.2 h81 ((hp1 10 (by decide) (by decide)).trans h10) (by rw [h141, hg]; exact kb_t rfl) hp1 (by omega)
    have ez : pz G (n + 1) 0 0 a op = pz G n 10 (pz G n 1 0 a op).1 (pz G n 1 0 a op).2.1 op := by
      rw [pz0, hg]
      rfl
    rw [ez]
    exact hl
  | false =>
    have ez : pz G (n + 1) 0 0 a op = pz G n 1 0 a op := by
      rw [pz0, hg]
      rfl
    rw [ez]
    refine al0 (n := 6) dX9_whole_5 rfl ?_
    refine gsX9_97 (n := 9) dX9_whole_6 rfl rfl rfl ?_
    rw [h141, hg, kb_f (show ¬ (false = true) by decide)]
    refine k_if_eq (t := 57) (n := 12) dX9_whole_9 (by decide) rfl (fun _ => ?_) (fun q => absurd rfl q)
    refine il1 (n := 58) dX9_whole_57 rfl ?_
    refine k_ireturn (ty := .int) dX9_whole_58 rfl rfl (Nat.le_refl _) (Nat.le_refl _) ?_
    exact ⟨p1, rfl, rfl, h81, h141, hp1⟩
set_option maxHeartbeats 2000000 in
set_option maxRecDepth 20000 in
theorem pv_both (n : Nat) (hC : ∀ m, m ≤ n → pOK E mX9_compared m 2) : pOK E mX9_both (n + 1) 1 := by
  intro d I o G e a op h ha hop h8 h10 h14 hf hd
  have hr : rkF 1 = 8 := rfl
  have hr2 : rkF 2 = 6 := rfl
  have hr3 : rkF 11 = 7 := rfl
  refine Ct.of (L := [some (.ref 81), none, none]) rfl rfl (Nat.le_of_ble_eq_true rfl) ?_
  refine al0 (n := 1) dX9_both_0 rfl ?_
  refine qX9_144 (n := 4) dX9_both_1 rfl rfl (Nat.le_of_ble_eq_true rfl) (by omega) (Nat.le_refl _) (Nat.le_refl _) rfl (hC n (Nat.le_refl _) (d - 1) I o G e a op h ha hop h8 h10 h14 (by omega) (by omega)) ?_
  rintro _ _ ⟨p1, rfl, rfl, h81, h141, hp1⟩
  dsimp only [Option.toList, List.cons_append, List.nil_append, Nat.add_zero]
  refine is1 (n := 5) dX9_both_4 rfl trivial ?_
  have hz := pz_at G h.end n 2 (by decide) 0 a op ha
  cases hg : (pz G n 2 0 a op).2.2 with
  | true =>
    have hl := pl_both n hC d I o G e op hop hd n (by omega) p1 (pz G n 2 0 a op).1 (pz G n 2 0 a op).2.1 none (h.mv (fun j a1 a2 a3 => hp1 j a1 a3)) hz.2 h81 ((hp1 10 (by decide) (by decide)).trans h10) (by rw [h141, hg]; exact kb_t rfl) hp1 (by omega)
    have ez : pz G (n + 1) 1 0 a op = pz G n 11 (pz G n 2 0 a op).1 (pz G n 2 0 a op).2.1 op := by
      rw [pz1, hg]
      rfl
    rw [ez]
    exact hl
  | false =>
    have ez : pz G (n + 1) 1 0 a op = pz G n 2 0 a op := by
      rw [pz1, hg]
      rfl
    rw [ez]
    refine al0 (n := 6) dX9_both_5 rfl ?_
    refine gsX9_97 (n := 9) dX9_both_6 rfl rfl rfl ?_
    rw [h141, hg, kb_f (show ¬ (false = true) by decide)]
    refine k_if_eq (t := 57) (n := 12) dX9_both_9 (by decide) rfl (fun _ => ?_) (fun q => absurd rfl q)
    refine il1 (n := 58) dX9_both_57 rfl ?_
    refine k_ireturn (ty := .int) dX9_both_58 rfl rfl (Nat.le_refl _) (Nat.le_refl _) ?_
    exact ⟨p1, rfl, rfl, h81, h141, hp1⟩
set_option maxHeartbeats 2000000 in
set_option maxRecDepth 20000 in
theorem pv_sum (n : Nat) (hC : ∀ m, m ≤ n → pOK E mX9_product m 4) : pOK E mX9_sum (n + 1) 3 := by
  intro d I o G e a op h ha hop h8 h10 h14 hf hd
  have hr : rkF 3 = 5 := rfl
  have hr2 : rkF 4 = 3 := rfl
  have hr3 : rkF 13 = 4 := rfl
  refine Ct.of (L := [some (.ref 81), none, none, none]) rfl rfl (Nat.le_of_ble_eq_true rfl) ?_
  refine al0 (n := 1) dX9_sum_0 rfl ?_
  refine qX9_138 (n := 4) dX9_sum_1 rfl rfl (Nat.le_of_ble_eq_true rfl) (by omega) (Nat.le_refl _) (Nat.le_refl _) rfl (hC n (Nat.le_refl _) (d - 1) I o G e a op h ha hop h8 h10 h14 (by omega) (by omega)) ?_
  rintro _ _ ⟨p1, rfl, rfl, h81, h141, hp1⟩
  dsimp only [Option.toList, List.cons_append, List.nil_append, Nat.add_zero]
  refine is1 (n := 5) dX9_sum_4 rfl trivial ?_
  have hz := pz_at G h.end n 4 (by decide) 0 a op ha
  cases hg : (pz G n 4 0 a op).2.2 with
  | true =>
    have hl := pl_sum n hC d I o G e op hop hd n (by omega) p1 (pz G n 4 0 a op).1 (pz G n 4 0 a op).2.1 none none (h.mv (fun j a1 a2 a3 => hp1 j a1 a3)) hz.2 h81 ((hp1 10 (by decide) (by decide)).trans h10) (by rw [h141, hg]; exact kb_t rfl) hp1 (by omega)
    have ez : pz G (n + 1) 3 0 a op = pz G n 13 (pz G n 4 0 a op).1 (pz G n 4 0 a op).2.1 op := by
      rw [pz3, hg]
      rfl
    rw [ez]
    exact hl
  | false =>
    have ez : pz G (n + 1) 3 0 a op = pz G n 4 0 a op := by
      rw [pz3, hg]
      rfl
    rw [ez]
    refine al0 (n := 6) dX9_sum_5 rfl ?_
    refine gsX9_97 (n := 9) dX9_sum_6 rfl rfl rfl ?_
    rw [h141, hg, kb_f (show ¬ (false = true) by decide)]
    refine k_if_eq (t := 81) (n := 12) dX9_sum_9 (by decide) rfl (fun _ => ?_) (fun q => absurd rfl q)
    refine il1 (n := 82) dX9_sum_81 rfl ?_
    refine k_ireturn (ty := .int) dX9_sum_82 rfl rfl (Nat.le_refl _) (Nat.le_refl _) ?_
    exact ⟨p1, rfl, rfl, h81, h141, hp1⟩
set_option maxHeartbeats 2000000 in
set_option maxRecDepth 20000 in
theorem pv_product (n : Nat) (hC : ∀ m, m ≤ n → pOK E mX9_factor m 5) : pOK E mX9_product (n + 1) 4 := by
  intro d I o G e a op h ha hop h8 h10 h14 hf hd
  have hr : rkF 4 = 3 := rfl
  have hr2 : rkF 5 = 1 := rfl
  have hr3 : rkF 14 = 2 := rfl
  refine Ct.of (L := [some (.ref 81), none, none, none]) rfl rfl (Nat.le_of_ble_eq_true rfl) ?_
  refine al0 (n := 1) dX9_product_0 rfl ?_
  refine qX9_132 (n := 4) dX9_product_1 rfl rfl (Nat.le_of_ble_eq_true rfl) (by omega) (Nat.le_refl _) (Nat.le_refl _) rfl (hC n (Nat.le_refl _) (d - 1) I o G e a op h ha hop h8 h10 h14 (by omega) (by omega)) ?_
  rintro _ _ ⟨p1, rfl, rfl, h81, h141, hp1⟩
  dsimp only [Option.toList, List.cons_append, List.nil_append, Nat.add_zero]
  refine is1 (n := 5) dX9_product_4 rfl trivial ?_
  have hz := pz_at G h.end n 5 (by decide) 0 a op ha
  cases hg : (pz G n 5 0 a op).2.2 with
  | true =>
    have hl := pl_product n hC d I o G e op hop hd n (by omega) p1 (pz G n 5 0 a op).1 (pz G n 5 0 a op).2.1 none none (h.mv (fun j a1 a2 a3 => hp1 j a1 a3)) hz.2 h81 ((hp1 10 (by decide) (by decide)).trans h10) (by rw [h141, hg]; exact kb_t rfl) hp1 (by omega)
    have ez : pz G (n + 1) 4 0 a op = pz G n 14 (pz G n 5 0 a op).1 (pz G n 5 0 a op).2.1 op := by
      rw [pz4, hg]
      rfl
    rw [ez]
    exact hl
  | false =>
    have ez : pz G (n + 1) 4 0 a op = pz G n 5 0 a op := by
      rw [pz4, hg]
      rfl
    rw [ez]
    refine al0 (n := 6) dX9_product_5 rfl ?_
    refine gsX9_97 (n := 9) dX9_product_6 rfl rfl rfl ?_
    rw [h141, hg, kb_f (show ¬ (false = true) by decide)]
    refine k_if_eq (t := 114) (n := 12) dX9_product_9 (by decide) rfl (fun _ => ?_) (fun q => absurd rfl q)
    refine il1 (n := 115) dX9_product_114 rfl ?_
    refine k_ireturn (ty := .int) dX9_product_115 rfl rfl (Nat.le_refl _) (Nat.le_refl _) ?_
    exact ⟨p1, rfl, rfl, h81, h141, hp1⟩
set_option maxHeartbeats 2000000 in
set_option maxRecDepth 20000 in
theorem pv_compared (n : Nat) (hC : ∀ m, m ≤ n → pOK E mX9_sum m 3) : pOK E mX9_compared (n + 1) 2 := by
  intro d I o G e a op h ha hop h8 h10 h14 hf hd
  have hr : rkF 2 = 6 := rfl
  have hr2 : rkF 3 = 5 := rfl
  refine Ct.of (L := [some (.ref 81), none, none, none, none]) rfl rfl (Nat.le_of_ble_eq_true rfl) ?_
  refine al0 (n := 1) dX9_compared_0 rfl ?_
  refine qX9_141 (n := 4) dX9_compared_1 rfl rfl (Nat.le_of_ble_eq_true rfl) (by omega) (Nat.le_refl _) (Nat.le_refl _) rfl (hC n (Nat.le_refl _) (d - 1) I o G e a op h ha hop h8 h10 h14 (by omega) (by omega)) ?_
  rintro _ _ ⟨p1, rfl, rfl, h81, h141, hp1⟩
  dsimp only [Option.toList, List.cons_append, List.nil_append, Nat.add_zero]
  have hz := pz_at G h.end n 3 (by decide) 0 a op ha
  have h1 : pC I p1 G e := h.mv (fun j a1 a2 a3 => hp1 j a1 a3)
  have h50 := h.2.2.2.1
  refine is1 (n := 5) dX9_compared_4 rfl trivial ?_
  refine al0 (n := 6) dX9_compared_5 rfl ?_
  refine gsX9_97 (n := 9) dX9_compared_6 rfl rfl rfl ?_
  rw [h141]
  refine k_ifb_eq (t := 23) (n := 12) dX9_compared_9 (by decide) rfl (fun h9 => ?_) (fun h9 => ?_)
  · refine k_iconst (a := (-1)) (n := 24) dX9_compared_23 rfl rfl ?_
    refine is2 (n := 25) dX9_compared_24 rfl trivial ?_
    refine il2 (n := 26) dX9_compared_25 rfl ?_
    refine k_bipush (a := 60) (n := 28) dX9_compared_26 rfl rfl ?_
    refine k_icmp_eq (t := 45) (n := 31) dX9_compared_28 (by decide) rfl (fun h28 => ?_) (fun h28 => ?_)
    · exact absurd h28 (by decide)
    · refine il2 (n := 32) dX9_compared_31 rfl ?_
      refine k_bipush (a := 61) (n := 34) dX9_compared_32 rfl rfl ?_
      refine k_icmp_eq (t := 45) (n := 37) dX9_compared_34 (by decide) rfl (fun h34 => ?_) (fun h34 => ?_)
      · exact absurd h34 (by decide)
      · refine il2 (n := 38) dX9_compared_37 rfl ?_
        refine k_bipush (a := 62) (n := 40) dX9_compared_38 rfl rfl ?_
        refine k_icmp_eq (t := 45) (n := 43) dX9_compared_40 (by decide) rfl (fun h40 => ?_) (fun h40 => ?_)
        · exact absurd h40 (by decide)
        · refine il1 (n := 44) dX9_compared_43 rfl ?_
          refine k_ireturn (ty := .int) dX9_compared_44 rfl rfl (Nat.le_refl _) (Nat.le_refl _) ?_
          have ez : pz G (n + 1) 2 0 a op = pz G n 3 0 a op := by rw [pz2, if_neg h9]
          rw [ez]
          exact ⟨p1, rfl, rfl, h81, h141, hp1⟩
  · refine al0 (n := 13) dX9_compared_12 rfl ?_
    refine al0 (n := 14) dX9_compared_13 rfl ?_
    refine gsX9_101 (n := 17) dX9_compared_14 rfl rfl rfl ?_
    rw [h81]
    refine qiX9_104 (n := 20) dX9_compared_17 rfl rfl (Nat.le_of_ble_eq_true rfl) (by omega) rfl (m_byteAt h1 _ (by omega)) (Nat.le_refl _) (Nat.le_refl _) ?_
    refine k_goto (n := 24) dX9_compared_20 (by decide) ?_
    refine is2 (n := 25) dX9_compared_24 rfl trivial ?_
    refine il2 (n := 26) dX9_compared_25 rfl ?_
    refine k_bipush (a := 60) (n := 28) dX9_compared_26 rfl rfl ?_
    refine k_icmp_eq (t := 45) (n := 31) dX9_compared_28 (by decide) rfl (fun h28 => ?_) (fun h28 => ?_)
    · have hs : G.1 (pz G n 3 0 a op).2.1 = 60 ∨ G.1 (pz G n 3 0 a op).2.1 = 61 ∨ G.1 (pz G n 3 0 a op).2.1 = 62 := Or.inl h28
      have hlt : (pz G n 3 0 a op).2.1 < e := h.lt (fun q => by rcases hs with r | r | r <;> (rw [r] at q; exact absurd q (by decide)))
      refine al0 (n := 46) dX9_compared_45 rfl ?_
      refine k_dup (n := 47) dX9_compared_46 rfl rfl ?_
      refine gsX9_101 (n := 50) dX9_compared_47 rfl rfl rfl ?_
      rw [h81]
      refine k_iconst (a := 1) (n := 51) dX9_compared_50 rfl rfl ?_
      refine k_iadd (n := 52) dX9_compared_51 rfl ?_
      rw [nI_1]
      refine psX9_101 (n := 55) dX9_compared_52 rfl rfl rfl ?_
      refine al0 (n := 56) dX9_compared_55 rfl ?_
      refine qX9_141 (n := 59) dX9_compared_56 rfl rfl (Nat.le_of_ble_eq_true rfl) (by omega) (Nat.le_refl _) (Nat.le_refl _) rfl (hC n (Nat.le_refl _) (d - 1) I (upd p1 8 (nI ((pz G n 3 0 a op).2.1 + 1))) G e ((pz G n 3 0 a op).2.1 + 1) op (h1.mv (fun j a1 a2 a3 => pk_un a1)) (by omega) hop pk_us ((pk_un (by decide)).trans ((hp1 10 (by decide) (by decide)).trans h10)) ((pk_un (by decide)).trans (h141.trans (kb_t h9))) (by omega) (by omega)) ?_
      rintro _ _ ⟨p2, rfl, rfl, h82, h142, hp2⟩
      dsimp only [Option.toList, List.cons_append, List.nil_append, Nat.add_zero]
      refine is3 (n := 60) dX9_compared_59 rfl trivial ?_
      refine il2 (n := 61) dX9_compared_60 rfl ?_
      refine k_bipush (a := 60) (n := 63) dX9_compared_61 rfl rfl ?_
      refine k_icmp_ne (t := 79) (n := 66) dX9_compared_63 (by decide) rfl (fun h63 => ?_) (fun h63 => ?_)
      · refine il2 (n := 80) dX9_compared_79 rfl ?_
        refine k_bipush (a := 61) (n := 82) dX9_compared_80 rfl rfl ?_
        refine k_icmp_ne (t := 98) (n := 85) dX9_compared_82 (by decide) rfl (fun h82_1 => ?_) (fun h82_1 => ?_)
        · refine il1 (n := 99) dX9_compared_98 rfl ?_
          refine il3 (n := 100) dX9_compared_99 rfl ?_
          refine k_icmp_le (t := 107) (n := 103) dX9_compared_100 (by decide) rfl (fun h100 => ?_) (fun h100 => ?_)
          · refine k_iconst (a := 0) (n := 108) dX9_compared_107 rfl rfl ?_
            refine is4 (n := 110) dX9_compared_108 rfl trivial ?_
            refine il4 (n := 112) dX9_compared_110 rfl ?_
            refine k_if_eq (t := 119) (n := 115) dX9_compared_112 (by decide) rfl (fun h112 => ?_) (fun h112 => ?_)
            · refine k_iconst (a := 0) (n := 120) dX9_compared_119 rfl rfl ?_
              refine k_ireturn (ty := .int) dX9_compared_120 rfl rfl (Nat.le_refl _) (Nat.le_refl _) ?_
              first
                | (exfalso; revert h112; decide)
                | (have ez : pz G (n + 1) 2 0 a op = (cmpF (G.1 (pz G n 3 0 a op).2.1) (pz G n 3 0 a op).1 (pz G n 3 0 ((pz G n 3 0 a op).2.1 + 1) op).1, (pz G n 3 0 ((pz G n 3 0 a op).2.1 + 1) op).2.1, (pz G n 3 0 ((pz G n 3 0 a op).2.1 + 1) op).2.2) := by
                     rw [pz2, if_pos h9, if_pos hs]
                   rw [ez]
                   refine ⟨p2, ?_, rfl, h82, h142, fun j a1 a2 => (hp2 j a1 a2).trans ((pk_un a1).trans (hp1 j a1 a2))⟩
                   congr 2
                   first
                     | (rw [cmpF, if_pos h63, kb_t (Int32.not_le.mp h68)])
                     | (rw [cmpF, if_pos h63, kb_f (Int32.not_lt.mpr h68)])
                     | (rw [cmpF, if_neg h63, if_pos h82_1, kb_t h87])
                     | (rw [cmpF, if_neg h63, if_pos h82_1, kb_f h87])
                     | (rw [cmpF, if_neg h63, if_neg h82_1, kb_t (Int32.not_le.mp h100)])
                     | (rw [cmpF, if_neg h63, if_neg h82_1, kb_f (Int32.not_lt.mpr h100)]))
            · refine k_iconst (a := 1) (n := 116) dX9_compared_115 rfl rfl ?_
              refine k_goto (n := 120) dX9_compared_116 (by decide) ?_
              refine k_ireturn (ty := .int) dX9_compared_120 rfl rfl (Nat.le_refl _) (Nat.le_refl _) ?_
              first
                | (exfalso; revert h112; decide)
                | (have ez : pz G (n + 1) 2 0 a op = (cmpF (G.1 (pz G n 3 0 a op).2.1) (pz G n 3 0 a op).1 (pz G n 3 0 ((pz G n 3 0 a op).2.1 + 1) op).1, (pz G n 3 0 ((pz G n 3 0 a op).2.1 + 1) op).2.1, (pz G n 3 0 ((pz G n 3 0 a op).2.1 + 1) op).2.2) := by
                     rw [pz2, if_pos h9, if_pos hs]
                   rw [ez]
                   refine ⟨p2, ?_, rfl, h82, h142, fun j a1 a2 => (hp2 j a1 a2).trans ((pk_un a1).trans (hp1 j a1 a2))⟩
                   congr 2
                   first
                     | (rw [cmpF, if_pos h63, kb_t (Int32.not_le.mp h68)])
                     | (rw [cmpF, if_pos h63, kb_f (Int32.not_lt.mpr h68)])
                     | (rw [cmpF, if_neg h63, if_pos h82_1, kb_t h87])
                     | (rw [cmpF, if_neg h63, if_pos h82_1, kb_f h87])
                     | (rw [cmpF, if_neg h63, if_neg h82_1, kb_t (Int32.not_le.mp h100)])
                     | (rw [cmpF, if_neg h63, if_neg h82_1, kb_f (Int32.not_lt.mpr h100)]))
          · refine k_iconst (a := 1) (n := 104) dX9_compared_103 rfl rfl ?_
            refine k_goto (n := 108) dX9_compared_104 (by decide) ?_
            refine is4 (n := 110) dX9_compared_108 rfl trivial ?_
            refine il4 (n := 112) dX9_compared_110 rfl ?_
            refine k_if_eq (t := 119) (n := 115) dX9_compared_112 (by decide) rfl (fun h112 => ?_) (fun h112 => ?_)
            · refine k_iconst (a := 0) (n := 120) dX9_compared_119 rfl rfl ?_
              refine k_ireturn (ty := .int) dX9_compared_120 rfl rfl (Nat.le_refl _) (Nat.le_refl _) ?_
              first
                | (exfalso; revert h112; decide)
                | (have ez : pz G (n + 1) 2 0 a op = (cmpF (G.1 (pz G n 3 0 a op).2.1) (pz G n 3 0 a op).1 (pz G n 3 0 ((pz G n 3 0 a op).2.1 + 1) op).1, (pz G n 3 0 ((pz G n 3 0 a op).2.1 + 1) op).2.1, (pz G n 3 0 ((pz G n 3 0 a op).2.1 + 1) op).2.2) := by
                     rw [pz2, if_pos h9, if_pos hs]
                   rw [ez]
                   refine ⟨p2, ?_, rfl, h82, h142, fun j a1 a2 => (hp2 j a1 a2).trans ((pk_un a1).trans (hp1 j a1 a2))⟩
                   congr 2
                   first
                     | (rw [cmpF, if_pos h63, kb_t (Int32.not_le.mp h68)])
                     | (rw [cmpF, if_pos h63, kb_f (Int32.not_lt.mpr h68)])
                     | (rw [cmpF, if_neg h63, if_pos h82_1, kb_t h87])
                     | (rw [cmpF, if_neg h63, if_pos h82_1, kb_f h87])
                     | (rw [cmpF, if_neg h63, if_neg h82_1, kb_t (Int32.not_le.mp h100)])
                     | (rw [cmpF, if_neg h63, if_neg h82_1, kb_f (Int32.not_lt.mpr h100)]))
            · refine k_iconst (a := 1) (n := 116) dX9_compared_115 rfl rfl ?_
              refine k_goto (n := 120) dX9_compared_116 (by decide) ?_
              refine k_ireturn (ty := .int) dX9_compared_120 rfl rfl (Nat.le_refl _) (Nat.le_refl _) ?_
              first
                | (exfalso; revert h112; decide)
                | (have ez : pz G (n + 1) 2 0 a op = (cmpF (G.1 (pz G n 3 0 a op).2.1) (pz G n 3 0 a op).1 (pz G n 3 0 ((pz G n 3 0 a op).2.1 + 1) op).1, (pz G n 3 0 ((pz G n 3 0 a op).2.1 + 1) op).2.1, (pz G n 3 0 ((pz G n 3 0 a op).2.1 + 1) op).2.2) := by
                     rw [pz2, if_pos h9, if_pos hs]
                   rw [ez]
                   refine ⟨p2, ?_, rfl, h82, h142, fun j a1 a2 => (hp2 j a1 a2).trans ((pk_un a1).trans (hp1 j a1 a2))⟩
                   congr 2
                   first
                     | (rw [cmpF, if_pos h63, kb_t (Int32.not_le.mp h68)])
                     | (rw [cmpF, if_pos h63, kb_f (Int32.not_lt.mpr h68)])
                     | (rw [cmpF, if_neg h63, if_pos h82_1, kb_t h87])
                     | (rw [cmpF, if_neg h63, if_pos h82_1, kb_f h87])
                     | (rw [cmpF, if_neg h63, if_neg h82_1, kb_t (Int32.not_le.mp h100)])
                     | (rw [cmpF, if_neg h63, if_neg h82_1, kb_f (Int32.not_lt.mpr h100)]))
        · refine il1 (n := 86) dX9_compared_85 rfl ?_
          refine il3 (n := 87) dX9_compared_86 rfl ?_
          refine k_icmp_ne (t := 94) (n := 90) dX9_compared_87 (by decide) rfl (fun h87 => ?_) (fun h87 => ?_)
          · refine k_iconst (a := 0) (n := 95) dX9_compared_94 rfl rfl ?_
            refine k_goto (n := 108) dX9_compared_95 (by decide) ?_
            refine is4 (n := 110) dX9_compared_108 rfl trivial ?_
            refine il4 (n := 112) dX9_compared_110 rfl ?_
            refine k_if_eq (t := 119) (n := 115) dX9_compared_112 (by decide) rfl (fun h112 => ?_) (fun h112 => ?_)
            · refine k_iconst (a := 0) (n := 120) dX9_compared_119 rfl rfl ?_
              refine k_ireturn (ty := .int) dX9_compared_120 rfl rfl (Nat.le_refl _) (Nat.le_refl _) ?_
              first
                | (exfalso; revert h112; decide)
                | (have ez : pz G (n + 1) 2 0 a op = (cmpF (G.1 (pz G n 3 0 a op).2.1) (pz G n 3 0 a op).1 (pz G n 3 0 ((pz G n 3 0 a op).2.1 + 1) op).1, (pz G n 3 0 ((pz G n 3 0 a op).2.1 + 1) op).2.1, (pz G n 3 0 ((pz G n 3 0 a op).2.1 + 1) op).2.2) := by
                     rw [pz2, if_pos h9, if_pos hs]
                   rw [ez]
                   refine ⟨p2, ?_, rfl, h82, h142, fun j a1 a2 => (hp2 j a1 a2).trans ((pk_un a1).trans (hp1 j a1 a2))⟩
                   congr 2
                   first
                     | (rw [cmpF, if_pos h63, kb_t (Int32.not_le.mp h68)])
                     | (rw [cmpF, if_pos h63, kb_f (Int32.not_lt.mpr h68)])
                     | (rw [cmpF, if_neg h63, if_pos h82_1, kb_t h87])
                     | (rw [cmpF, if_neg h63, if_pos h82_1, kb_f h87])
                     | (rw [cmpF, if_neg h63, if_neg h82_1, kb_t (Int32.not_le.mp h100)])
                     | (rw [cmpF, if_neg h63, if_neg h82_1, kb_f (Int32.not_lt.mpr h100)]))
            · refine k_iconst (a := 1) (n := 116) dX9_compared_115 rfl rfl ?_
              refine k_goto (n := 120) dX9_compared_116 (by decide) ?_
              refine k_ireturn (ty := .int) dX9_compared_120 rfl rfl (Nat.le_refl _) (Nat.le_refl _) ?_
              first
                | (exfalso; revert h112; decide)
                | (have ez : pz G (n + 1) 2 0 a op = (cmpF (G.1 (pz G n 3 0 a op).2.1) (pz G n 3 0 a op).1 (pz G n 3 0 ((pz G n 3 0 a op).2.1 + 1) op).1, (pz G n 3 0 ((pz G n 3 0 a op).2.1 + 1) op).2.1, (pz G n 3 0 ((pz G n 3 0 a op).2.1 + 1) op).2.2) := by
                     rw [pz2, if_pos h9, if_pos hs]
                   rw [ez]
                   refine ⟨p2, ?_, rfl, h82, h142, fun j a1 a2 => (hp2 j a1 a2).trans ((pk_un a1).trans (hp1 j a1 a2))⟩
                   congr 2
                   first
                     | (rw [cmpF, if_pos h63, kb_t (Int32.not_le.mp h68)])
                     | (rw [cmpF, if_pos h63, kb_f (Int32.not_lt.mpr h68)])
                     | (rw [cmpF, if_neg h63, if_pos h82_1, kb_t h87])
                     | (rw [cmpF, if_neg h63, if_pos h82_1, kb_f h87])
                     | (rw [cmpF, if_neg h63, if_neg h82_1, kb_t (Int32.not_le.mp h100)])
                     | (rw [cmpF, if_neg h63, if_neg h82_1, kb_f (Int32.not_lt.mpr h100)]))
          · refine k_iconst (a := 1) (n := 91) dX9_compared_90 rfl rfl ?_
            refine k_goto (n := 108) dX9_compared_91 (by decide) ?_
            refine is4 (n := 110) dX9_compared_108 rfl trivial ?_
            refine il4 (n := 112) dX9_compared_110 rfl ?_
            refine k_if_eq (t := 119) (n := 115) dX9_compared_112 (by decide) rfl (fun h112 => ?_) (fun h112 => ?_)
            · refine k_iconst (a := 0) (n := 120) dX9_compared_119 rfl rfl ?_
              refine k_ireturn (ty := .int) dX9_compared_120 rfl rfl (Nat.le_refl _) (Nat.le_refl _) ?_
              first
                | (exfalso; revert h112; decide)
                | (have ez : pz G (n + 1) 2 0 a op = (cmpF (G.1 (pz G n 3 0 a op).2.1) (pz G n 3 0 a op).1 (pz G n 3 0 ((pz G n 3 0 a op).2.1 + 1) op).1, (pz G n 3 0 ((pz G n 3 0 a op).2.1 + 1) op).2.1, (pz G n 3 0 ((pz G n 3 0 a op).2.1 + 1) op).2.2) := by
                     rw [pz2, if_pos h9, if_pos hs]
                   rw [ez]
                   refine ⟨p2, ?_, rfl, h82, h142, fun j a1 a2 => (hp2 j a1 a2).trans ((pk_un a1).trans (hp1 j a1 a2))⟩
                   congr 2
                   first
                     | (rw [cmpF, if_pos h63, kb_t (Int32.not_le.mp h68)])
                     | (rw [cmpF, if_pos h63, kb_f (Int32.not_lt.mpr h68)])
                     | (rw [cmpF, if_neg h63, if_pos h82_1, kb_t h87])
                     | (rw [cmpF, if_neg h63, if_pos h82_1, kb_f h87])
                     | (rw [cmpF, if_neg h63, if_neg h82_1, kb_t (Int32.not_le.mp h100)])
                     | (rw [cmpF, if_neg h63, if_neg h82_1, kb_f (Int32.not_lt.mpr h100)]))
            · refine k_iconst (a := 1) (n := 116) dX9_compared_115 rfl rfl ?_
              refine k_goto (n := 120) dX9_compared_116 (by decide) ?_
              refine k_ireturn (ty := .int) dX9_compared_120 rfl rfl (Nat.le_refl _) (Nat.le_refl _) ?_
              first
                | (exfalso; revert h112; decide)
                | (have ez : pz G (n + 1) 2 0 a op = (cmpF (G.1 (pz G n 3 0 a op).2.1) (pz G n 3 0 a op).1 (pz G n 3 0 ((pz G n 3 0 a op).2.1 + 1) op).1, (pz G n 3 0 ((pz G n 3 0 a op).2.1 + 1) op).2.1, (pz G n 3 0 ((pz G n 3 0 a op).2.1 + 1) op).2.2) := by
                     rw [pz2, if_pos h9, if_pos hs]
                   rw [ez]
                   refine ⟨p2, ?_, rfl, h82, h142, fun j a1 a2 => (hp2 j a1 a2).trans ((pk_un a1).trans (hp1 j a1 a2))⟩
                   congr 2
                   first
                     | (rw [cmpF, if_pos h63, kb_t (Int32.not_le.mp h68)])
                     | (rw [cmpF, if_pos h63, kb_f (Int32.not_lt.mpr h68)])
                     | (rw [cmpF, if_neg h63, if_pos h82_1, kb_t h87])
                     | (rw [cmpF, if_neg h63, if_pos h82_1, kb_f h87])
                     | (rw [cmpF, if_neg h63, if_neg h82_1, kb_t (Int32.not_le.mp h100)])
                     | (rw [cmpF, if_neg h63, if_neg h82_1, kb_f (Int32.not_lt.mpr h100)]))
      · refine il1 (n := 67) dX9_compared_66 rfl ?_
        refine il3 (n := 68) dX9_compared_67 rfl ?_
        refine k_icmp_ge (t := 75) (n := 71) dX9_compared_68 (by decide) rfl (fun h68 => ?_) (fun h68 => ?_)
        · refine k_iconst (a := 0) (n := 76) dX9_compared_75 rfl rfl ?_
          refine k_goto (n := 108) dX9_compared_76 (by decide) ?_
          refine is4 (n := 110) dX9_compared_108 rfl trivial ?_
          refine il4 (n := 112) dX9_compared_110 rfl ?_
          refine k_if_eq (t := 119) (n := 115) dX9_compared_112 (by decide) rfl (fun h112 => ?_) (fun h112 => ?_)
          · refine k_iconst (a := 0) (n := 120) dX9_compared_119 rfl rfl ?_
            refine k_ireturn (ty := .int) dX9_compared_120 rfl rfl (Nat.le_refl _) (Nat.le_refl _) ?_
            first
              | (exfalso; revert h112; decide)
              | (have ez : pz G (n + 1) 2 0 a op = (cmpF (G.1 (pz G n 3 0 a op).2.1) (pz G n 3 0 a op).1 (pz G n 3 0 ((pz G n 3 0 a op).2.1 + 1) op).1, (pz G n 3 0 ((pz G n 3 0 a op).2.1 + 1) op).2.1, (pz G n 3 0 ((pz G n 3 0 a op).2.1 + 1) op).2.2) := by
                   rw [pz2, if_pos h9, if_pos hs]
                 rw [ez]
                 refine ⟨p2, ?_, rfl, h82, h142, fun j a1 a2 => (hp2 j a1 a2).trans ((pk_un a1).trans (hp1 j a1 a2))⟩
                 congr 2
                 first
                   | (rw [cmpF, if_pos h63, kb_t (Int32.not_le.mp h68)])
                   | (rw [cmpF, if_pos h63, kb_f (Int32.not_lt.mpr h68)])
                   | (rw [cmpF, if_neg h63, if_pos h82_1, kb_t h87])
                   | (rw [cmpF, if_neg h63, if_pos h82_1, kb_f h87])
                   | (rw [cmpF, if_neg h63, if_neg h82_1, kb_t (Int32.not_le.mp h100)])
                   | (rw [cmpF, if_neg h63, if_neg h82_1, kb_f (Int32.not_lt.mpr h100)]))
          · refine k_iconst (a := 1) (n := 116) dX9_compared_115 rfl rfl ?_
            refine k_goto (n := 120) dX9_compared_116 (by decide) ?_
            refine k_ireturn (ty := .int) dX9_compared_120 rfl rfl (Nat.le_refl _) (Nat.le_refl _) ?_
            first
              | (exfalso; revert h112; decide)
              | (have ez : pz G (n + 1) 2 0 a op = (cmpF (G.1 (pz G n 3 0 a op).2.1) (pz G n 3 0 a op).1 (pz G n 3 0 ((pz G n 3 0 a op).2.1 + 1) op).1, (pz G n 3 0 ((pz G n 3 0 a op).2.1 + 1) op).2.1, (pz G n 3 0 ((pz G n 3 0 a op).2.1 + 1) op).2.2) := by
                   rw [pz2, if_pos h9, if_pos hs]
                 rw [ez]
                 refine ⟨p2, ?_, rfl, h82, h142, fun j a1 a2 => (hp2 j a1 a2).trans ((pk_un a1).trans (hp1 j a1 a2))⟩
                 congr 2
                 first
                   | (rw [cmpF, if_pos h63, kb_t (Int32.not_le.mp h68)])
                   | (rw [cmpF, if_pos h63, kb_f (Int32.not_lt.mpr h68)])
                   | (rw [cmpF, if_neg h63, if_pos h82_1, kb_t h87])
                   | (rw [cmpF, if_neg h63, if_pos h82_1, kb_f h87])
                   | (rw [cmpF, if_neg h63, if_neg h82_1, kb_t (Int32.not_le.mp h100)])
                   | (rw [cmpF, if_neg h63, if_neg h82_1, kb_f (Int32.not_lt.mpr h100)]))
        · refine k_iconst (a := 1) (n := 72) dX9_compared_71 rfl rfl ?_
          refine k_goto (n := 108) dX9_compared_72 (by decide) ?_
          refine is4 (n := 110) dX9_compared_108 rfl trivial ?_
          refine il4 (n := 112) dX9_compared_110 rfl ?_
          refine k_if_eq (t := 119) (n := 115) dX9_compared_112 (by decide) rfl (fun h112 => ?_) (fun h112 => ?_)
          · refine k_iconst (a := 0) (n := 120) dX9_compared_119 rfl rfl ?_
            refine k_ireturn (ty := .int) dX9_compared_120 rfl rfl (Nat.le_refl _) (Nat.le_refl _) ?_
            first
              | (exfalso; revert h112; decide)
              | (have ez : pz G (n + 1) 2 0 a op = (cmpF (G.1 (pz G n 3 0 a op).2.1) (pz G n 3 0 a op).1 (pz G n 3 0 ((pz G n 3 0 a op).2.1 + 1) op).1, (pz G n 3 0 ((pz G n 3 0 a op).2.1 + 1) op).2.1, (pz G n 3 0 ((pz G n 3 0 a op).2.1 + 1) op).2.2) := by
                   rw [pz2, if_pos h9, if_pos hs]
                 rw [ez]
                 refine ⟨p2, ?_, rfl, h82, h142, fun j a1 a2 => (hp2 j a1 a2).trans ((pk_un a1).trans (hp1 j a1 a2))⟩
                 congr 2
                 first
                   | (rw [cmpF, if_pos h63, kb_t (Int32.not_le.mp h68)])
                   | (rw [cmpF, if_pos h63, kb_f (Int32.not_lt.mpr h68)])
                   | (rw [cmpF, if_neg h63, if_pos h82_1, kb_t h87])
                   | (rw [cmpF, if_neg h63, if_pos h82_1, kb_f h87])
                   | (rw [cmpF, if_neg h63, if_neg h82_1, kb_t (Int32.not_le.mp h100)])
                   | (rw [cmpF, if_neg h63, if_neg h82_1, kb_f (Int32.not_lt.mpr h100)]))
          · refine k_iconst (a := 1) (n := 116) dX9_compared_115 rfl rfl ?_
            refine k_goto (n := 120) dX9_compared_116 (by decide) ?_
            refine k_ireturn (ty := .int) dX9_compared_120 rfl rfl (Nat.le_refl _) (Nat.le_refl _) ?_
            first
              | (exfalso; revert h112; decide)
              | (have ez : pz G (n + 1) 2 0 a op = (cmpF (G.1 (pz G n 3 0 a op).2.1) (pz G n 3 0 a op).1 (pz G n 3 0 ((pz G n 3 0 a op).2.1 + 1) op).1, (pz G n 3 0 ((pz G n 3 0 a op).2.1 + 1) op).2.1, (pz G n 3 0 ((pz G n 3 0 a op).2.1 + 1) op).2.2) := by
                   rw [pz2, if_pos h9, if_pos hs]
                 rw [ez]
                 refine ⟨p2, ?_, rfl, h82, h142, fun j a1 a2 => (hp2 j a1 a2).trans ((pk_un a1).trans (hp1 j a1 a2))⟩
                 congr 2
                 first
                   | (rw [cmpF, if_pos h63, kb_t (Int32.not_le.mp h68)])
                   | (rw [cmpF, if_pos h63, kb_f (Int32.not_lt.mpr h68)])
                   | (rw [cmpF, if_neg h63, if_pos h82_1, kb_t h87])
                   | (rw [cmpF, if_neg h63, if_pos h82_1, kb_f h87])
                   | (rw [cmpF, if_neg h63, if_neg h82_1, kb_t (Int32.not_le.mp h100)])
                   | (rw [cmpF, if_neg h63, if_neg h82_1, kb_f (Int32.not_lt.mpr h100)]))
    · refine il2 (n := 32) dX9_compared_31 rfl ?_
      refine k_bipush (a := 61) (n := 34) dX9_compared_32 rfl rfl ?_
      refine k_icmp_eq (t := 45) (n := 37) dX9_compared_34 (by decide) rfl (fun h34 => ?_) (fun h34 => ?_)
      · have hs : G.1 (pz G n 3 0 a op).2.1 = 60 ∨ G.1 (pz G n 3 0 a op).2.1 = 61 ∨ G.1 (pz G n 3 0 a op).2.1 = 62 := Or.inr (Or.inl h34)
        have hlt : (pz G n 3 0 a op).2.1 < e := h.lt (fun q => by rcases hs with r | r | r <;> (rw [r] at q; exact absurd q (by decide)))
        refine al0 (n := 46) dX9_compared_45 rfl ?_
        refine k_dup (n := 47) dX9_compared_46 rfl rfl ?_
        refine gsX9_101 (n := 50) dX9_compared_47 rfl rfl rfl ?_
        rw [h81]
        refine k_iconst (a := 1) (n := 51) dX9_compared_50 rfl rfl ?_
        refine k_iadd (n := 52) dX9_compared_51 rfl ?_
        rw [nI_1]
        refine psX9_101 (n := 55) dX9_compared_52 rfl rfl rfl ?_
        refine al0 (n := 56) dX9_compared_55 rfl ?_
        refine qX9_141 (n := 59) dX9_compared_56 rfl rfl (Nat.le_of_ble_eq_true rfl) (by omega) (Nat.le_refl _) (Nat.le_refl _) rfl (hC n (Nat.le_refl _) (d - 1) I (upd p1 8 (nI ((pz G n 3 0 a op).2.1 + 1))) G e ((pz G n 3 0 a op).2.1 + 1) op (h1.mv (fun j a1 a2 a3 => pk_un a1)) (by omega) hop pk_us ((pk_un (by decide)).trans ((hp1 10 (by decide) (by decide)).trans h10)) ((pk_un (by decide)).trans (h141.trans (kb_t h9))) (by omega) (by omega)) ?_
        rintro _ _ ⟨p2, rfl, rfl, h82, h142, hp2⟩
        dsimp only [Option.toList, List.cons_append, List.nil_append, Nat.add_zero]
        refine is3 (n := 60) dX9_compared_59 rfl trivial ?_
        refine il2 (n := 61) dX9_compared_60 rfl ?_
        refine k_bipush (a := 60) (n := 63) dX9_compared_61 rfl rfl ?_
        refine k_icmp_ne (t := 79) (n := 66) dX9_compared_63 (by decide) rfl (fun h63 => ?_) (fun h63 => ?_)
        · refine il2 (n := 80) dX9_compared_79 rfl ?_
          refine k_bipush (a := 61) (n := 82) dX9_compared_80 rfl rfl ?_
          refine k_icmp_ne (t := 98) (n := 85) dX9_compared_82 (by decide) rfl (fun h82_1 => ?_) (fun h82_1 => ?_)
          · refine il1 (n := 99) dX9_compared_98 rfl ?_
            refine il3 (n := 100) dX9_compared_99 rfl ?_
            refine k_icmp_le (t := 107) (n := 103) dX9_compared_100 (by decide) rfl (fun h100 => ?_) (fun h100 => ?_)
            · refine k_iconst (a := 0) (n := 108) dX9_compared_107 rfl rfl ?_
              refine is4 (n := 110) dX9_compared_108 rfl trivial ?_
              refine il4 (n := 112) dX9_compared_110 rfl ?_
              refine k_if_eq (t := 119) (n := 115) dX9_compared_112 (by decide) rfl (fun h112 => ?_) (fun h112 => ?_)
              · refine k_iconst (a := 0) (n := 120) dX9_compared_119 rfl rfl ?_
                refine k_ireturn (ty := .int) dX9_compared_120 rfl rfl (Nat.le_refl _) (Nat.le_refl _) ?_
                first
                  | (exfalso; revert h112; decide)
                  | (have ez : pz G (n + 1) 2 0 a op = (cmpF (G.1 (pz G n 3 0 a op).2.1) (pz G n 3 0 a op).1 (pz G n 3 0 ((pz G n 3 0 a op).2.1 + 1) op).1, (pz G n 3 0 ((pz G n 3 0 a op).2.1 + 1) op).2.1, (pz G n 3 0 ((pz G n 3 0 a op).2.1 + 1) op).2.2) := by
                       rw [pz2, if_pos h9, if_pos hs]
                     rw [ez]
                     refine ⟨p2, ?_, rfl, h82, h142, fun j a1 a2 => (hp2 j a1 a2).trans ((pk_un a1).trans (hp1 j a1 a2))⟩
                     congr 2
                     first
                       | (rw [cmpF, if_pos h63, kb_t (Int32.not_le.mp h68)])
                       | (rw [cmpF, if_pos h63, kb_f (Int32.not_lt.mpr h68)])
                       | (rw [cmpF, if_neg h63, if_pos h82_1, kb_t h87])
                       | (rw [cmpF, if_neg h63, if_pos h82_1, kb_f h87])
                       | (rw [cmpF, if_neg h63, if_neg h82_1, kb_t (Int32.not_le.mp h100)])
                       | (rw [cmpF, if_neg h63, if_neg h82_1, kb_f (Int32.not_lt.mpr h100)]))
              · refine k_iconst (a := 1) (n := 116) dX9_compared_115 rfl rfl ?_
                refine k_goto (n := 120) dX9_compared_116 (by decide) ?_
                refine k_ireturn (ty := .int) dX9_compared_120 rfl rfl (Nat.le_refl _) (Nat.le_refl _) ?_
                first
                  | (exfalso; revert h112; decide)
                  | (have ez : pz G (n + 1) 2 0 a op = (cmpF (G.1 (pz G n 3 0 a op).2.1) (pz G n 3 0 a op).1 (pz G n 3 0 ((pz G n 3 0 a op).2.1 + 1) op).1, (pz G n 3 0 ((pz G n 3 0 a op).2.1 + 1) op).2.1, (pz G n 3 0 ((pz G n 3 0 a op).2.1 + 1) op).2.2) := by
                       rw [pz2, if_pos h9, if_pos hs]
                     rw [ez]
                     refine ⟨p2, ?_, rfl, h82, h142, fun j a1 a2 => (hp2 j a1 a2).trans ((pk_un a1).trans (hp1 j a1 a2))⟩
                     congr 2
                     first
                       | (rw [cmpF, if_pos h63, kb_t (Int32.not_le.mp h68)])
                       | (rw [cmpF, if_pos h63, kb_f (Int32.not_lt.mpr h68)])
                       | (rw [cmpF, if_neg h63, if_pos h82_1, kb_t h87])
                       | (rw [cmpF, if_neg h63, if_pos h82_1, kb_f h87])
                       | (rw [cmpF, if_neg h63, if_neg h82_1, kb_t (Int32.not_le.mp h100)])
                       | (rw [cmpF, if_neg h63, if_neg h82_1, kb_f (Int32.not_lt.mpr h100)]))
            · refine k_iconst (a := 1) (n := 104) dX9_compared_103 rfl rfl ?_
              refine k_goto (n := 108) dX9_compared_104 (by decide) ?_
              refine is4 (n := 110) dX9_compared_108 rfl trivial ?_
              refine il4 (n := 112) dX9_compared_110 rfl ?_
              refine k_if_eq (t := 119) (n := 115) dX9_compared_112 (by decide) rfl (fun h112 => ?_) (fun h112 => ?_)
              · refine k_iconst (a := 0) (n := 120) dX9_compared_119 rfl rfl ?_
                refine k_ireturn (ty := .int) dX9_compared_120 rfl rfl (Nat.le_refl _) (Nat.le_refl _) ?_
                first
                  | (exfalso; revert h112; decide)
                  | (have ez : pz G (n + 1) 2 0 a op = (cmpF (G.1 (pz G n 3 0 a op).2.1) (pz G n 3 0 a op).1 (pz G n 3 0 ((pz G n 3 0 a op).2.1 + 1) op).1, (pz G n 3 0 ((pz G n 3 0 a op).2.1 + 1) op).2.1, (pz G n 3 0 ((pz G n 3 0 a op).2.1 + 1) op).2.2) := by
                       rw [pz2, if_pos h9, if_pos hs]
                     rw [ez]
                     refine ⟨p2, ?_, rfl, h82, h142, fun j a1 a2 => (hp2 j a1 a2).trans ((pk_un a1).trans (hp1 j a1 a2))⟩
                     congr 2
                     first
                       | (rw [cmpF, if_pos h63, kb_t (Int32.not_le.mp h68)])
                       | (rw [cmpF, if_pos h63, kb_f (Int32.not_lt.mpr h68)])
                       | (rw [cmpF, if_neg h63, if_pos h82_1, kb_t h87])
                       | (rw [cmpF, if_neg h63, if_pos h82_1, kb_f h87])
                       | (rw [cmpF, if_neg h63, if_neg h82_1, kb_t (Int32.not_le.mp h100)])
                       | (rw [cmpF, if_neg h63, if_neg h82_1, kb_f (Int32.not_lt.mpr h100)]))
              · refine k_iconst (a := 1) (n := 116) dX9_compared_115 rfl rfl ?_
                refine k_goto (n := 120) dX9_compared_116 (by decide) ?_
                refine k_ireturn (ty := .int) dX9_compared_120 rfl rfl (Nat.le_refl _) (Nat.le_refl _) ?_
                first
                  | (exfalso; revert h112; decide)
                  | (have ez : pz G (n + 1) 2 0 a op = (cmpF (G.1 (pz G n 3 0 a op).2.1) (pz G n 3 0 a op).1 (pz G n 3 0 ((pz G n 3 0 a op).2.1 + 1) op).1, (pz G n 3 0 ((pz G n 3 0 a op).2.1 + 1) op).2.1, (pz G n 3 0 ((pz G n 3 0 a op).2.1 + 1) op).2.2) := by
                       rw [pz2, if_pos h9, if_pos hs]
                     rw [ez]
                     refine ⟨p2, ?_, rfl, h82, h142, fun j a1 a2 => (hp2 j a1 a2).trans ((pk_un a1).trans (hp1 j a1 a2))⟩
                     congr 2
                     first
                       | (rw [cmpF, if_pos h63, kb_t (Int32.not_le.mp h68)])
                       | (rw [cmpF, if_pos h63, kb_f (Int32.not_lt.mpr h68)])
                       | (rw [cmpF, if_neg h63, if_pos h82_1, kb_t h87])
                       | (rw [cmpF, if_neg h63, if_pos h82_1, kb_f h87])
                       | (rw [cmpF, if_neg h63, if_neg h82_1, kb_t (Int32.not_le.mp h100)])
                       | (rw [cmpF, if_neg h63, if_neg h82_1, kb_f (Int32.not_lt.mpr h100)]))
          · refine il1 (n := 86) dX9_compared_85 rfl ?_
            refine il3 (n := 87) dX9_compared_86 rfl ?_
            refine k_icmp_ne (t := 94) (n := 90) dX9_compared_87 (by decide) rfl (fun h87 => ?_) (fun h87 => ?_)
            · refine k_iconst (a := 0) (n := 95) dX9_compared_94 rfl rfl ?_
              refine k_goto (n := 108) dX9_compared_95 (by decide) ?_
              refine is4 (n := 110) dX9_compared_108 rfl trivial ?_
              refine il4 (n := 112) dX9_compared_110 rfl ?_
              refine k_if_eq (t := 119) (n := 115) dX9_compared_112 (by decide) rfl (fun h112 => ?_) (fun h112 => ?_)
              · refine k_iconst (a := 0) (n := 120) dX9_compared_119 rfl rfl ?_
                refine k_ireturn (ty := .int) dX9_compared_120 rfl rfl (Nat.le_refl _) (Nat.le_refl _) ?_
                first
                  | (exfalso; revert h112; decide)
                  | (have ez : pz G (n + 1) 2 0 a op = (cmpF (G.1 (pz G n 3 0 a op).2.1) (pz G n 3 0 a op).1 (pz G n 3 0 ((pz G n 3 0 a op).2.1 + 1) op).1, (pz G n 3 0 ((pz G n 3 0 a op).2.1 + 1) op).2.1, (pz G n 3 0 ((pz G n 3 0 a op).2.1 + 1) op).2.2) := by
                       rw [pz2, if_pos h9, if_pos hs]
                     rw [ez]
                     refine ⟨p2, ?_, rfl, h82, h142, fun j a1 a2 => (hp2 j a1 a2).trans ((pk_un a1).trans (hp1 j a1 a2))⟩
                     congr 2
                     first
                       | (rw [cmpF, if_pos h63, kb_t (Int32.not_le.mp h68)])
                       | (rw [cmpF, if_pos h63, kb_f (Int32.not_lt.mpr h68)])
                       | (rw [cmpF, if_neg h63, if_pos h82_1, kb_t h87])
                       | (rw [cmpF, if_neg h63, if_pos h82_1, kb_f h87])
                       | (rw [cmpF, if_neg h63, if_neg h82_1, kb_t (Int32.not_le.mp h100)])
                       | (rw [cmpF, if_neg h63, if_neg h82_1, kb_f (Int32.not_lt.mpr h100)]))
              · refine k_iconst (a := 1) (n := 116) dX9_compared_115 rfl rfl ?_
                refine k_goto (n := 120) dX9_compared_116 (by decide) ?_
                refine k_ireturn (ty := .int) dX9_compared_120 rfl rfl (Nat.le_refl _) (Nat.le_refl _) ?_
                first
                  | (exfalso; revert h112; decide)
                  | (have ez : pz G (n + 1) 2 0 a op = (cmpF (G.1 (pz G n 3 0 a op).2.1) (pz G n 3 0 a op).1 (pz G n 3 0 ((pz G n 3 0 a op).2.1 + 1) op).1, (pz G n 3 0 ((pz G n 3 0 a op).2.1 + 1) op).2.1, (pz G n 3 0 ((pz G n 3 0 a op).2.1 + 1) op).2.2) := by
                       rw [pz2, if_pos h9, if_pos hs]
                     rw [ez]
                     refine ⟨p2, ?_, rfl, h82, h142, fun j a1 a2 => (hp2 j a1 a2).trans ((pk_un a1).trans (hp1 j a1 a2))⟩
                     congr 2
                     first
                       | (rw [cmpF, if_pos h63, kb_t (Int32.not_le.mp h68)])
                       | (rw [cmpF, if_pos h63, kb_f (Int32.not_lt.mpr h68)])
                       | (rw [cmpF, if_neg h63, if_pos h82_1, kb_t h87])
                       | (rw [cmpF, if_neg h63, if_pos h82_1, kb_f h87])
                       | (rw [cmpF, if_neg h63, if_neg h82_1, kb_t (Int32.not_le.mp h100)])
                       | (rw [cmpF, if_neg h63, if_neg h82_1, kb_f (Int32.not_lt.mpr h100)]))
            · refine k_iconst (a := 1) (n := 91) dX9_compared_90 rfl rfl ?_
              refine k_goto (n := 108) dX9_compared_91 (by decide) ?_
              refine is4 (n := 110) dX9_compared_108 rfl trivial ?_
              refine il4 (n := 112) dX9_compared_110 rfl ?_
              refine k_if_eq (t := 119) (n := 115) dX9_compared_112 (by decide) rfl (fun h112 => ?_) (fun h112 => ?_)
              · refine k_iconst (a := 0) (n := 120) dX9_compared_119 rfl rfl ?_
                refine k_ireturn (ty := .int) dX9_compared_120 rfl rfl (Nat.le_refl _) (Nat.le_refl _) ?_
                first
                  | (exfalso; revert h112; decide)
                  | (have ez : pz G (n + 1) 2 0 a op = (cmpF (G.1 (pz G n 3 0 a op).2.1) (pz G n 3 0 a op).1 (pz G n 3 0 ((pz G n 3 0 a op).2.1 + 1) op).1, (pz G n 3 0 ((pz G n 3 0 a op).2.1 + 1) op).2.1, (pz G n 3 0 ((pz G n 3 0 a op).2.1 + 1) op).2.2) := by
                       rw [pz2, if_pos h9, if_pos hs]
                     rw [ez]
                     refine ⟨p2, ?_, rfl, h82, h142, fun j a1 a2 => (hp2 j a1 a2).trans ((pk_un a1).trans (hp1 j a1 a2))⟩
                     congr 2
                     first
                       | (rw [cmpF, if_pos h63, kb_t (Int32.not_le.mp h68)])
                       | (rw [cmpF, if_pos h63, kb_f (Int32.not_lt.mpr h68)])
                       | (rw [cmpF, if_neg h63, if_pos h82_1, kb_t h87])
                       | (rw [cmpF, if_neg h63, if_pos h82_1, kb_f h87])
                       | (rw [cmpF, if_neg h63, if_neg h82_1, kb_t (Int32.not_le.mp h100)])
                       | (rw [cmpF, if_neg h63, if_neg h82_1, kb_f (Int32.not_lt.mpr h100)]))
              · refine k_iconst (a := 1) (n := 116) dX9_compared_115 rfl rfl ?_
                refine k_goto (n := 120) dX9_compared_116 (by decide) ?_
                refine k_ireturn (ty := .int) dX9_compared_120 rfl rfl (Nat.le_refl _) (Nat.le_refl _) ?_
                first
                  | (exfalso; revert h112; decide)
                  | (have ez : pz G (n + 1) 2 0 a op = (cmpF (G.1 (pz G n 3 0 a op).2.1) (pz G n 3 0 a op).1 (pz G n 3 0 ((pz G n 3 0 a op).2.1 + 1) op).1, (pz G n 3 0 ((pz G n 3 0 a op).2.1 + 1) op).2.1, (pz G n 3 0 ((pz G n 3 0 a op).2.1 + 1) op).2.2) := by
                       rw [pz2, if_pos h9, if_pos hs]
                     rw [ez]
                     refine ⟨p2, ?_, rfl, h82, h142, fun j a1 a2 => (hp2 j a1 a2).trans ((pk_un a1).trans (hp1 j a1 a2))⟩
                     congr 2
                     first
                       | (rw [cmpF, if_pos h63, kb_t (Int32.not_le.mp h68)])
                       | (rw [cmpF, if_pos h63, kb_f (Int32.not_lt.mpr h68)])
                       | (rw [cmpF, if_neg h63, if_pos h82_1, kb_t h87])
                       | (rw [cmpF, if_neg h63, if_pos h82_1, kb_f h87])
                       | (rw [cmpF, if_neg h63, if_neg h82_1, kb_t (Int32.not_le.mp h100)])
                       | (rw [cmpF, if_neg h63, if_neg h82_1, kb_f (Int32.not_lt.mpr h100)]))
        · refine il1 (n := 67) dX9_compared_66 rfl ?_
          refine il3 (n := 68) dX9_compared_67 rfl ?_
          refine k_icmp_ge (t := 75) (n := 71) dX9_compared_68 (by decide) rfl (fun h68 => ?_) (fun h68 => ?_)
          · refine k_iconst (a := 0) (n := 76) dX9_compared_75 rfl rfl ?_
            refine k_goto (n := 108) dX9_compared_76 (by decide) ?_
            refine is4 (n := 110) dX9_compared_108 rfl trivial ?_
            refine il4 (n := 112) dX9_compared_110 rfl ?_
            refine k_if_eq (t := 119) (n := 115) dX9_compared_112 (by decide) rfl (fun h112 => ?_) (fun h112 => ?_)
            · refine k_iconst (a := 0) (n := 120) dX9_compared_119 rfl rfl ?_
              refine k_ireturn (ty := .int) dX9_compared_120 rfl rfl (Nat.le_refl _) (Nat.le_refl _) ?_
              first
                | (exfalso; revert h112; decide)
                | (have ez : pz G (n + 1) 2 0 a op = (cmpF (G.1 (pz G n 3 0 a op).2.1) (pz G n 3 0 a op).1 (pz G n 3 0 ((pz G n 3 0 a op).2.1 + 1) op).1, (pz G n 3 0 ((pz G n 3 0 a op).2.1 + 1) op).2.1, (pz G n 3 0 ((pz G n 3 0 a op).2.1 + 1) op).2.2) := by
                     rw [pz2, if_pos h9, if_pos hs]
                   rw [ez]
                   refine ⟨p2, ?_, rfl, h82, h142, fun j a1 a2 => (hp2 j a1 a2).trans ((pk_un a1).trans (hp1 j a1 a2))⟩
                   congr 2
                   first
                     | (rw [cmpF, if_pos h63, kb_t (Int32.not_le.mp h68)])
                     | (rw [cmpF, if_pos h63, kb_f (Int32.not_lt.mpr h68)])
                     | (rw [cmpF, if_neg h63, if_pos h82_1, kb_t h87])
                     | (rw [cmpF, if_neg h63, if_pos h82_1, kb_f h87])
                     | (rw [cmpF, if_neg h63, if_neg h82_1, kb_t (Int32.not_le.mp h100)])
                     | (rw [cmpF, if_neg h63, if_neg h82_1, kb_f (Int32.not_lt.mpr h100)]))
            · refine k_iconst (a := 1) (n := 116) dX9_compared_115 rfl rfl ?_
              refine k_goto (n := 120) dX9_compared_116 (by decide) ?_
              refine k_ireturn (ty := .int) dX9_compared_120 rfl rfl (Nat.le_refl _) (Nat.le_refl _) ?_
              first
                | (exfalso; revert h112; decide)
                | (have ez : pz G (n + 1) 2 0 a op = (cmpF (G.1 (pz G n 3 0 a op).2.1) (pz G n 3 0 a op).1 (pz G n 3 0 ((pz G n 3 0 a op).2.1 + 1) op).1, (pz G n 3 0 ((pz G n 3 0 a op).2.1 + 1) op).2.1, (pz G n 3 0 ((pz G n 3 0 a op).2.1 + 1) op).2.2) := by
                     rw [pz2, if_pos h9, if_pos hs]
                   rw [ez]
                   refine ⟨p2, ?_, rfl, h82, h142, fun j a1 a2 => (hp2 j a1 a2).trans ((pk_un a1).trans (hp1 j a1 a2))⟩
                   congr 2
                   first
                     | (rw [cmpF, if_pos h63, kb_t (Int32.not_le.mp h68)])
                     | (rw [cmpF, if_pos h63, kb_f (Int32.not_lt.mpr h68)])
                     | (rw [cmpF, if_neg h63, if_pos h82_1, kb_t h87])
                     | (rw [cmpF, if_neg h63, if_pos h82_1, kb_f h87])
                     | (rw [cmpF, if_neg h63, if_neg h82_1, kb_t (Int32.not_le.mp h100)])
                     | (rw [cmpF, if_neg h63, if_neg h82_1, kb_f (Int32.not_lt.mpr h100)]))
          · refine k_iconst (a := 1) (n := 72) dX9_compared_71 rfl rfl ?_
            refine k_goto (n := 108) dX9_compared_72 (by decide) ?_
            refine is4 (n := 110) dX9_compared_108 rfl trivial ?_
            refine il4 (n := 112) dX9_compared_110 rfl ?_
            refine k_if_eq (t := 119) (n := 115) dX9_compared_112 (by decide) rfl (fun h112 => ?_) (fun h112 => ?_)
            · refine k_iconst (a := 0) (n := 120) dX9_compared_119 rfl rfl ?_
              refine k_ireturn (ty := .int) dX9_compared_120 rfl rfl (Nat.le_refl _) (Nat.le_refl _) ?_
              first
                | (exfalso; revert h112; decide)
                | (have ez : pz G (n + 1) 2 0 a op = (cmpF (G.1 (pz G n 3 0 a op).2.1) (pz G n 3 0 a op).1 (pz G n 3 0 ((pz G n 3 0 a op).2.1 + 1) op).1, (pz G n 3 0 ((pz G n 3 0 a op).2.1 + 1) op).2.1, (pz G n 3 0 ((pz G n 3 0 a op).2.1 + 1) op).2.2) := by
                     rw [pz2, if_pos h9, if_pos hs]
                   rw [ez]
                   refine ⟨p2, ?_, rfl, h82, h142, fun j a1 a2 => (hp2 j a1 a2).trans ((pk_un a1).trans (hp1 j a1 a2))⟩
                   congr 2
                   first
                     | (rw [cmpF, if_pos h63, kb_t (Int32.not_le.mp h68)])
                     | (rw [cmpF, if_pos h63, kb_f (Int32.not_lt.mpr h68)])
                     | (rw [cmpF, if_neg h63, if_pos h82_1, kb_t h87])
                     | (rw [cmpF, if_neg h63, if_pos h82_1, kb_f h87])
                     | (rw [cmpF, if_neg h63, if_neg h82_1, kb_t (Int32.not_le.mp h100)])
                     | (rw [cmpF, if_neg h63, if_neg h82_1, kb_f (Int32.not_lt.mpr h100)]))
            · refine k_iconst (a := 1) (n := 116) dX9_compared_115 rfl rfl ?_
              refine k_goto (n := 120) dX9_compared_116 (by decide) ?_
              refine k_ireturn (ty := .int) dX9_compared_120 rfl rfl (Nat.le_refl _) (Nat.le_refl _) ?_
              first
                | (exfalso; revert h112; decide)
                | (have ez : pz G (n + 1) 2 0 a op = (cmpF (G.1 (pz G n 3 0 a op).2.1) (pz G n 3 0 a op).1 (pz G n 3 0 ((pz G n 3 0 a op).2.1 + 1) op).1, (pz G n 3 0 ((pz G n 3 0 a op).2.1 + 1) op).2.1, (pz G n 3 0 ((pz G n 3 0 a op).2.1 + 1) op).2.2) := by
                     rw [pz2, if_pos h9, if_pos hs]
                   rw [ez]
                   refine ⟨p2, ?_, rfl, h82, h142, fun j a1 a2 => (hp2 j a1 a2).trans ((pk_un a1).trans (hp1 j a1 a2))⟩
                   congr 2
                   first
                     | (rw [cmpF, if_pos h63, kb_t (Int32.not_le.mp h68)])
                     | (rw [cmpF, if_pos h63, kb_f (Int32.not_lt.mpr h68)])
                     | (rw [cmpF, if_neg h63, if_pos h82_1, kb_t h87])
                     | (rw [cmpF, if_neg h63, if_pos h82_1, kb_f h87])
                     | (rw [cmpF, if_neg h63, if_neg h82_1, kb_t (Int32.not_le.mp h100)])
                     | (rw [cmpF, if_neg h63, if_neg h82_1, kb_f (Int32.not_lt.mpr h100)]))
      · refine il2 (n := 38) dX9_compared_37 rfl ?_
        refine k_bipush (a := 62) (n := 40) dX9_compared_38 rfl rfl ?_
        refine k_icmp_eq (t := 45) (n := 43) dX9_compared_40 (by decide) rfl (fun h40 => ?_) (fun h40 => ?_)
        · have hs : G.1 (pz G n 3 0 a op).2.1 = 60 ∨ G.1 (pz G n 3 0 a op).2.1 = 61 ∨ G.1 (pz G n 3 0 a op).2.1 = 62 := Or.inr (Or.inr h40)
          have hlt : (pz G n 3 0 a op).2.1 < e := h.lt (fun q => by rcases hs with r | r | r <;> (rw [r] at q; exact absurd q (by decide)))
          refine al0 (n := 46) dX9_compared_45 rfl ?_
          refine k_dup (n := 47) dX9_compared_46 rfl rfl ?_
          refine gsX9_101 (n := 50) dX9_compared_47 rfl rfl rfl ?_
          rw [h81]
          refine k_iconst (a := 1) (n := 51) dX9_compared_50 rfl rfl ?_
          refine k_iadd (n := 52) dX9_compared_51 rfl ?_
          rw [nI_1]
          refine psX9_101 (n := 55) dX9_compared_52 rfl rfl rfl ?_
          refine al0 (n := 56) dX9_compared_55 rfl ?_
          refine qX9_141 (n := 59) dX9_compared_56 rfl rfl (Nat.le_of_ble_eq_true rfl) (by omega) (Nat.le_refl _) (Nat.le_refl _) rfl (hC n (Nat.le_refl _) (d - 1) I (upd p1 8 (nI ((pz G n 3 0 a op).2.1 + 1))) G e ((pz G n 3 0 a op).2.1 + 1) op (h1.mv (fun j a1 a2 a3 => pk_un a1)) (by omega) hop pk_us ((pk_un (by decide)).trans ((hp1 10 (by decide) (by decide)).trans h10)) ((pk_un (by decide)).trans (h141.trans (kb_t h9))) (by omega) (by omega)) ?_
          rintro _ _ ⟨p2, rfl, rfl, h82, h142, hp2⟩
          dsimp only [Option.toList, List.cons_append, List.nil_append, Nat.add_zero]
          refine is3 (n := 60) dX9_compared_59 rfl trivial ?_
          refine il2 (n := 61) dX9_compared_60 rfl ?_
          refine k_bipush (a := 60) (n := 63) dX9_compared_61 rfl rfl ?_
          refine k_icmp_ne (t := 79) (n := 66) dX9_compared_63 (by decide) rfl (fun h63 => ?_) (fun h63 => ?_)
          · refine il2 (n := 80) dX9_compared_79 rfl ?_
            refine k_bipush (a := 61) (n := 82) dX9_compared_80 rfl rfl ?_
            refine k_icmp_ne (t := 98) (n := 85) dX9_compared_82 (by decide) rfl (fun h82_1 => ?_) (fun h82_1 => ?_)
            · refine il1 (n := 99) dX9_compared_98 rfl ?_
              refine il3 (n := 100) dX9_compared_99 rfl ?_
              refine k_icmp_le (t := 107) (n := 103) dX9_compared_100 (by decide) rfl (fun h100 => ?_) (fun h100 => ?_)
              · refine k_iconst (a := 0) (n := 108) dX9_compared_107 rfl rfl ?_
                refine is4 (n := 110) dX9_compared_108 rfl trivial ?_
                refine il4 (n := 112) dX9_compared_110 rfl ?_
                refine k_if_eq (t := 119) (n := 115) dX9_compared_112 (by decide) rfl (fun h112 => ?_) (fun h112 => ?_)
                · refine k_iconst (a := 0) (n := 120) dX9_compared_119 rfl rfl ?_
                  refine k_ireturn (ty := .int) dX9_compared_120 rfl rfl (Nat.le_refl _) (Nat.le_refl _) ?_
                  first
                    | (exfalso; revert h112; decide)
                    | (have ez : pz G (n + 1) 2 0 a op = (cmpF (G.1 (pz G n 3 0 a op).2.1) (pz G n 3 0 a op).1 (pz G n 3 0 ((pz G n 3 0 a op).2.1 + 1) op).1, (pz G n 3 0 ((pz G n 3 0 a op).2.1 + 1) op).2.1, (pz G n 3 0 ((pz G n 3 0 a op).2.1 + 1) op).2.2) := by
                         rw [pz2, if_pos h9, if_pos hs]
                       rw [ez]
                       refine ⟨p2, ?_, rfl, h82, h142, fun j a1 a2 => (hp2 j a1 a2).trans ((pk_un a1).trans (hp1 j a1 a2))⟩
                       congr 2
                       first
                         | (rw [cmpF, if_pos h63, kb_t (Int32.not_le.mp h68)])
                         | (rw [cmpF, if_pos h63, kb_f (Int32.not_lt.mpr h68)])
                         | (rw [cmpF, if_neg h63, if_pos h82_1, kb_t h87])
                         | (rw [cmpF, if_neg h63, if_pos h82_1, kb_f h87])
                         | (rw [cmpF, if_neg h63, if_neg h82_1, kb_t (Int32.not_le.mp h100)])
                         | (rw [cmpF, if_neg h63, if_neg h82_1, kb_f (Int32.not_lt.mpr h100)]))
                · refine k_iconst (a := 1) (n := 116) dX9_compared_115 rfl rfl ?_
                  refine k_goto (n := 120) dX9_compared_116 (by decide) ?_
                  refine k_ireturn (ty := .int) dX9_compared_120 rfl rfl (Nat.le_refl _) (Nat.le_refl _) ?_
                  first
                    | (exfalso; revert h112; decide)
                    | (have ez : pz G (n + 1) 2 0 a op = (cmpF (G.1 (pz G n 3 0 a op).2.1) (pz G n 3 0 a op).1 (pz G n 3 0 ((pz G n 3 0 a op).2.1 + 1) op).1, (pz G n 3 0 ((pz G n 3 0 a op).2.1 + 1) op).2.1, (pz G n 3 0 ((pz G n 3 0 a op).2.1 + 1) op).2.2) := by
                         rw [pz2, if_pos h9, if_pos hs]
                       rw [ez]
                       refine ⟨p2, ?_, rfl, h82, h142, fun j a1 a2 => (hp2 j a1 a2).trans ((pk_un a1).trans (hp1 j a1 a2))⟩
                       congr 2
                       first
                         | (rw [cmpF, if_pos h63, kb_t (Int32.not_le.mp h68)])
                         | (rw [cmpF, if_pos h63, kb_f (Int32.not_lt.mpr h68)])
                         | (rw [cmpF, if_neg h63, if_pos h82_1, kb_t h87])
                         | (rw [cmpF, if_neg h63, if_pos h82_1, kb_f h87])
                         | (rw [cmpF, if_neg h63, if_neg h82_1, kb_t (Int32.not_le.mp h100)])
                         | (rw [cmpF, if_neg h63, if_neg h82_1, kb_f (Int32.not_lt.mpr h100)]))
              · refine k_iconst (a := 1) (n := 104) dX9_compared_103 rfl rfl ?_
                refine k_goto (n := 108) dX9_compared_104 (by decide) ?_
                refine is4 (n := 110) dX9_compared_108 rfl trivial ?_
                refine il4 (n := 112) dX9_compared_110 rfl ?_
                refine k_if_eq (t := 119) (n := 115) dX9_compared_112 (by decide) rfl (fun h112 => ?_) (fun h112 => ?_)
                · refine k_iconst (a := 0) (n := 120) dX9_compared_119 rfl rfl ?_
                  refine k_ireturn (ty := .int) dX9_compared_120 rfl rfl (Nat.le_refl _) (Nat.le_refl _) ?_
                  first
                    | (exfalso; revert h112; decide)
                    | (have ez : pz G (n + 1) 2 0 a op = (cmpF (G.1 (pz G n 3 0 a op).2.1) (pz G n 3 0 a op).1 (pz G n 3 0 ((pz G n 3 0 a op).2.1 + 1) op).1, (pz G n 3 0 ((pz G n 3 0 a op).2.1 + 1) op).2.1, (pz G n 3 0 ((pz G n 3 0 a op).2.1 + 1) op).2.2) := by
                         rw [pz2, if_pos h9, if_pos hs]
                       rw [ez]
                       refine ⟨p2, ?_, rfl, h82, h142, fun j a1 a2 => (hp2 j a1 a2).trans ((pk_un a1).trans (hp1 j a1 a2))⟩
                       congr 2
                       first
                         | (rw [cmpF, if_pos h63, kb_t (Int32.not_le.mp h68)])
                         | (rw [cmpF, if_pos h63, kb_f (Int32.not_lt.mpr h68)])
                         | (rw [cmpF, if_neg h63, if_pos h82_1, kb_t h87])
                         | (rw [cmpF, if_neg h63, if_pos h82_1, kb_f h87])
                         | (rw [cmpF, if_neg h63, if_neg h82_1, kb_t (Int32.not_le.mp h100)])
                         | (rw [cmpF, if_neg h63, if_neg h82_1, kb_f (Int32.not_lt.mpr h100)]))
                · refine k_iconst (a := 1) (n := 116) dX9_compared_115 rfl rfl ?_
                  refine k_goto (n := 120) dX9_compared_116 (by decide) ?_
                  refine k_ireturn (ty := .int) dX9_compared_120 rfl rfl (Nat.le_refl _) (Nat.le_refl _) ?_
                  first
                    | (exfalso; revert h112; decide)
                    | (have ez : pz G (n + 1) 2 0 a op = (cmpF (G.1 (pz G n 3 0 a op).2.1) (pz G n 3 0 a op).1 (pz G n 3 0 ((pz G n 3 0 a op).2.1 + 1) op).1, (pz G n 3 0 ((pz G n 3 0 a op).2.1 + 1) op).2.1, (pz G n 3 0 ((pz G n 3 0 a op).2.1 + 1) op).2.2) := by
                         rw [pz2, if_pos h9, if_pos hs]
                       rw [ez]
                       refine ⟨p2, ?_, rfl, h82, h142, fun j a1 a2 => (hp2 j a1 a2).trans ((pk_un a1).trans (hp1 j a1 a2))⟩
                       congr 2
                       first
                         | (rw [cmpF, if_pos h63, kb_t (Int32.not_le.mp h68)])
                         | (rw [cmpF, if_pos h63, kb_f (Int32.not_lt.mpr h68)])
                         | (rw [cmpF, if_neg h63, if_pos h82_1, kb_t h87])
                         | (rw [cmpF, if_neg h63, if_pos h82_1, kb_f h87])
                         | (rw [cmpF, if_neg h63, if_neg h82_1, kb_t (Int32.not_le.mp h100)])
                         | (rw [cmpF, if_neg h63, if_neg h82_1, kb_f (Int32.not_lt.mpr h100)]))
            · refine il1 (n := 86) dX9_compared_85 rfl ?_
              refine il3 (n := 87) dX9_compared_86 rfl ?_
              refine k_icmp_ne (t := 94) (n := 90) dX9_compared_87 (by decide) rfl (fun h87 => ?_) (fun h87 => ?_)
              · refine k_iconst (a := 0) (n := 95) dX9_compared_94 rfl rfl ?_
                refine k_goto (n := 108) dX9_compared_95 (by decide) ?_
                refine is4 (n := 110) dX9_compared_108 rfl trivial ?_
                refine il4 (n := 112) dX9_compared_110 rfl ?_
                refine k_if_eq (t := 119) (n := 115) dX9_compared_112 (by decide) rfl (fun h112 => ?_) (fun h112 => ?_)
                · refine k_iconst (a := 0) (n := 120) dX9_compared_119 rfl rfl ?_
                  refine k_ireturn (ty := .int) dX9_compared_120 rfl rfl (Nat.le_refl _) (Nat.le_refl _) ?_
                  first
                    | (exfalso; revert h112; decide)
                    | (have ez : pz G (n + 1) 2 0 a op = (cmpF (G.1 (pz G n 3 0 a op).2.1) (pz G n 3 0 a op).1 (pz G n 3 0 ((pz G n 3 0 a op).2.1 + 1) op).1, (pz G n 3 0 ((pz G n 3 0 a op).2.1 + 1) op).2.1, (pz G n 3 0 ((pz G n 3 0 a op).2.1 + 1) op).2.2) := by
                         rw [pz2, if_pos h9, if_pos hs]
                       rw [ez]
                       refine ⟨p2, ?_, rfl, h82, h142, fun j a1 a2 => (hp2 j a1 a2).trans ((pk_un a1).trans (hp1 j a1 a2))⟩
                       congr 2
                       first
                         | (rw [cmpF, if_pos h63, kb_t (Int32.not_le.mp h68)])
                         | (rw [cmpF, if_pos h63, kb_f (Int32.not_lt.mpr h68)])
                         | (rw [cmpF, if_neg h63, if_pos h82_1, kb_t h87])
                         | (rw [cmpF, if_neg h63, if_pos h82_1, kb_f h87])
                         | (rw [cmpF, if_neg h63, if_neg h82_1, kb_t (Int32.not_le.mp h100)])
                         | (rw [cmpF, if_neg h63, if_neg h82_1, kb_f (Int32.not_lt.mpr h100)]))
                · refine k_iconst (a := 1) (n := 116) dX9_compared_115 rfl rfl ?_
                  refine k_goto (n := 120) dX9_compared_116 (by decide) ?_
                  refine k_ireturn (ty := .int) dX9_compared_120 rfl rfl (Nat.le_refl _) (Nat.le_refl _) ?_
                  first
                    | (exfalso; revert h112; decide)
                    | (have ez : pz G (n + 1) 2 0 a op = (cmpF (G.1 (pz G n 3 0 a op).2.1) (pz G n 3 0 a op).1 (pz G n 3 0 ((pz G n 3 0 a op).2.1 + 1) op).1, (pz G n 3 0 ((pz G n 3 0 a op).2.1 + 1) op).2.1, (pz G n 3 0 ((pz G n 3 0 a op).2.1 + 1) op).2.2) := by
                         rw [pz2, if_pos h9, if_pos hs]
                       rw [ez]
                       refine ⟨p2, ?_, rfl, h82, h142, fun j a1 a2 => (hp2 j a1 a2).trans ((pk_un a1).trans (hp1 j a1 a2))⟩
                       congr 2
                       first
                         | (rw [cmpF, if_pos h63, kb_t (Int32.not_le.mp h68)])
                         | (rw [cmpF, if_pos h63, kb_f (Int32.not_lt.mpr h68)])
                         | (rw [cmpF, if_neg h63, if_pos h82_1, kb_t h87])
                         | (rw [cmpF, if_neg h63, if_pos h82_1, kb_f h87])
                         | (rw [cmpF, if_neg h63, if_neg h82_1, kb_t (Int32.not_le.mp h100)])
                         | (rw [cmpF, if_neg h63, if_neg h82_1, kb_f (Int32.not_lt.mpr h100)]))
              · refine k_iconst (a := 1) (n := 91) dX9_compared_90 rfl rfl ?_
                refine k_goto (n := 108) dX9_compared_91 (by decide) ?_
                refine is4 (n := 110) dX9_compared_108 rfl trivial ?_
                refine il4 (n := 112) dX9_compared_110 rfl ?_
                refine k_if_eq (t := 119) (n := 115) dX9_compared_112 (by decide) rfl (fun h112 => ?_) (fun h112 => ?_)
                · refine k_iconst (a := 0) (n := 120) dX9_compared_119 rfl rfl ?_
                  refine k_ireturn (ty := .int) dX9_compared_120 rfl rfl (Nat.le_refl _) (Nat.le_refl _) ?_
                  first
                    | (exfalso; revert h112; decide)
                    | (have ez : pz G (n + 1) 2 0 a op = (cmpF (G.1 (pz G n 3 0 a op).2.1) (pz G n 3 0 a op).1 (pz G n 3 0 ((pz G n 3 0 a op).2.1 + 1) op).1, (pz G n 3 0 ((pz G n 3 0 a op).2.1 + 1) op).2.1, (pz G n 3 0 ((pz G n 3 0 a op).2.1 + 1) op).2.2) := by
                         rw [pz2, if_pos h9, if_pos hs]
                       rw [ez]
                       refine ⟨p2, ?_, rfl, h82, h142, fun j a1 a2 => (hp2 j a1 a2).trans ((pk_un a1).trans (hp1 j a1 a2))⟩
                       congr 2
                       first
                         | (rw [cmpF, if_pos h63, kb_t (Int32.not_le.mp h68)])
                         | (rw [cmpF, if_pos h63, kb_f (Int32.not_lt.mpr h68)])
                         | (rw [cmpF, if_neg h63, if_pos h82_1, kb_t h87])
                         | (rw [cmpF, if_neg h63, if_pos h82_1, kb_f h87])
                         | (rw [cmpF, if_neg h63, if_neg h82_1, kb_t (Int32.not_le.mp h100)])
                         | (rw [cmpF, if_neg h63, if_neg h82_1, kb_f (Int32.not_lt.mpr h100)]))
                · refine k_iconst (a := 1) (n := 116) dX9_compared_115 rfl rfl ?_
                  refine k_goto (n := 120) dX9_compared_116 (by decide) ?_
                  refine k_ireturn (ty := .int) dX9_compared_120 rfl rfl (Nat.le_refl _) (Nat.le_refl _) ?_
                  first
                    | (exfalso; revert h112; decide)
                    | (have ez : pz G (n + 1) 2 0 a op = (cmpF (G.1 (pz G n 3 0 a op).2.1) (pz G n 3 0 a op).1 (pz G n 3 0 ((pz G n 3 0 a op).2.1 + 1) op).1, (pz G n 3 0 ((pz G n 3 0 a op).2.1 + 1) op).2.1, (pz G n 3 0 ((pz G n 3 0 a op).2.1 + 1) op).2.2) := by
                         rw [pz2, if_pos h9, if_pos hs]
                       rw [ez]
                       refine ⟨p2, ?_, rfl, h82, h142, fun j a1 a2 => (hp2 j a1 a2).trans ((pk_un a1).trans (hp1 j a1 a2))⟩
                       congr 2
                       first
                         | (rw [cmpF, if_pos h63, kb_t (Int32.not_le.mp h68)])
                         | (rw [cmpF, if_pos h63, kb_f (Int32.not_lt.mpr h68)])
                         | (rw [cmpF, if_neg h63, if_pos h82_1, kb_t h87])
                         | (rw [cmpF, if_neg h63, if_pos h82_1, kb_f h87])
                         | (rw [cmpF, if_neg h63, if_neg h82_1, kb_t (Int32.not_le.mp h100)])
                         | (rw [cmpF, if_neg h63, if_neg h82_1, kb_f (Int32.not_lt.mpr h100)]))
          · refine il1 (n := 67) dX9_compared_66 rfl ?_
            refine il3 (n := 68) dX9_compared_67 rfl ?_
            refine k_icmp_ge (t := 75) (n := 71) dX9_compared_68 (by decide) rfl (fun h68 => ?_) (fun h68 => ?_)
            · refine k_iconst (a := 0) (n := 76) dX9_compared_75 rfl rfl ?_
              refine k_goto (n := 108) dX9_compared_76 (by decide) ?_
              refine is4 (n := 110) dX9_compared_108 rfl trivial ?_
              refine il4 (n := 112) dX9_compared_110 rfl ?_
              refine k_if_eq (t := 119) (n := 115) dX9_compared_112 (by decide) rfl (fun h112 => ?_) (fun h112 => ?_)
              · refine k_iconst (a := 0) (n := 120) dX9_compared_119 rfl rfl ?_
                refine k_ireturn (ty := .int) dX9_compared_120 rfl rfl (Nat.le_refl _) (Nat.le_refl _) ?_
                first
                  | (exfalso; revert h112; decide)
                  | (have ez : pz G (n + 1) 2 0 a op = (cmpF (G.1 (pz G n 3 0 a op).2.1) (pz G n 3 0 a op).1 (pz G n 3 0 ((pz G n 3 0 a op).2.1 + 1) op).1, (pz G n 3 0 ((pz G n 3 0 a op).2.1 + 1) op).2.1, (pz G n 3 0 ((pz G n 3 0 a op).2.1 + 1) op).2.2) := by
                       rw [pz2, if_pos h9, if_pos hs]
                     rw [ez]
                     refine ⟨p2, ?_, rfl, h82, h142, fun j a1 a2 => (hp2 j a1 a2).trans ((pk_un a1).trans (hp1 j a1 a2))⟩
                     congr 2
                     first
                       | (rw [cmpF, if_pos h63, kb_t (Int32.not_le.mp h68)])
                       | (rw [cmpF, if_pos h63, kb_f (Int32.not_lt.mpr h68)])
                       | (rw [cmpF, if_neg h63, if_pos h82_1, kb_t h87])
                       | (rw [cmpF, if_neg h63, if_pos h82_1, kb_f h87])
                       | (rw [cmpF, if_neg h63, if_neg h82_1, kb_t (Int32.not_le.mp h100)])
                       | (rw [cmpF, if_neg h63, if_neg h82_1, kb_f (Int32.not_lt.mpr h100)]))
              · refine k_iconst (a := 1) (n := 116) dX9_compared_115 rfl rfl ?_
                refine k_goto (n := 120) dX9_compared_116 (by decide) ?_
                refine k_ireturn (ty := .int) dX9_compared_120 rfl rfl (Nat.le_refl _) (Nat.le_refl _) ?_
                first
                  | (exfalso; revert h112; decide)
                  | (have ez : pz G (n + 1) 2 0 a op = (cmpF (G.1 (pz G n 3 0 a op).2.1) (pz G n 3 0 a op).1 (pz G n 3 0 ((pz G n 3 0 a op).2.1 + 1) op).1, (pz G n 3 0 ((pz G n 3 0 a op).2.1 + 1) op).2.1, (pz G n 3 0 ((pz G n 3 0 a op).2.1 + 1) op).2.2) := by
                       rw [pz2, if_pos h9, if_pos hs]
                     rw [ez]
                     refine ⟨p2, ?_, rfl, h82, h142, fun j a1 a2 => (hp2 j a1 a2).trans ((pk_un a1).trans (hp1 j a1 a2))⟩
                     congr 2
                     first
                       | (rw [cmpF, if_pos h63, kb_t (Int32.not_le.mp h68)])
                       | (rw [cmpF, if_pos h63, kb_f (Int32.not_lt.mpr h68)])
                       | (rw [cmpF, if_neg h63, if_pos h82_1, kb_t h87])
                       | (rw [cmpF, if_neg h63, if_pos h82_1, kb_f h87])
                       | (rw [cmpF, if_neg h63, if_neg h82_1, kb_t (Int32.not_le.mp h100)])
                       | (rw [cmpF, if_neg h63, if_neg h82_1, kb_f (Int32.not_lt.mpr h100)]))
            · refine k_iconst (a := 1) (n := 72) dX9_compared_71 rfl rfl ?_
              refine k_goto (n := 108) dX9_compared_72 (by decide) ?_
              refine is4 (n := 110) dX9_compared_108 rfl trivial ?_
              refine il4 (n := 112) dX9_compared_110 rfl ?_
              refine k_if_eq (t := 119) (n := 115) dX9_compared_112 (by decide) rfl (fun h112 => ?_) (fun h112 => ?_)
              · refine k_iconst (a := 0) (n := 120) dX9_compared_119 rfl rfl ?_
                refine k_ireturn (ty := .int) dX9_compared_120 rfl rfl (Nat.le_refl _) (Nat.le_refl _) ?_
                first
                  | (exfalso; revert h112; decide)
                  | (have ez : pz G (n + 1) 2 0 a op = (cmpF (G.1 (pz G n 3 0 a op).2.1) (pz G n 3 0 a op).1 (pz G n 3 0 ((pz G n 3 0 a op).2.1 + 1) op).1, (pz G n 3 0 ((pz G n 3 0 a op).2.1 + 1) op).2.1, (pz G n 3 0 ((pz G n 3 0 a op).2.1 + 1) op).2.2) := by
                       rw [pz2, if_pos h9, if_pos hs]
                     rw [ez]
                     refine ⟨p2, ?_, rfl, h82, h142, fun j a1 a2 => (hp2 j a1 a2).trans ((pk_un a1).trans (hp1 j a1 a2))⟩
                     congr 2
                     first
                       | (rw [cmpF, if_pos h63, kb_t (Int32.not_le.mp h68)])
                       | (rw [cmpF, if_pos h63, kb_f (Int32.not_lt.mpr h68)])
                       | (rw [cmpF, if_neg h63, if_pos h82_1, kb_t h87])
                       | (rw [cmpF, if_neg h63, if_pos h82_1, kb_f h87])
                       | (rw [cmpF, if_neg h63, if_neg h82_1, kb_t (Int32.not_le.mp h100)])
                       | (rw [cmpF, if_neg h63, if_neg h82_1, kb_f (Int32.not_lt.mpr h100)]))
              · refine k_iconst (a := 1) (n := 116) dX9_compared_115 rfl rfl ?_
                refine k_goto (n := 120) dX9_compared_116 (by decide) ?_
                refine k_ireturn (ty := .int) dX9_compared_120 rfl rfl (Nat.le_refl _) (Nat.le_refl _) ?_
                first
                  | (exfalso; revert h112; decide)
                  | (have ez : pz G (n + 1) 2 0 a op = (cmpF (G.1 (pz G n 3 0 a op).2.1) (pz G n 3 0 a op).1 (pz G n 3 0 ((pz G n 3 0 a op).2.1 + 1) op).1, (pz G n 3 0 ((pz G n 3 0 a op).2.1 + 1) op).2.1, (pz G n 3 0 ((pz G n 3 0 a op).2.1 + 1) op).2.2) := by
                       rw [pz2, if_pos h9, if_pos hs]
                     rw [ez]
                     refine ⟨p2, ?_, rfl, h82, h142, fun j a1 a2 => (hp2 j a1 a2).trans ((pk_un a1).trans (hp1 j a1 a2))⟩
                     congr 2
                     first
                       | (rw [cmpF, if_pos h63, kb_t (Int32.not_le.mp h68)])
                       | (rw [cmpF, if_pos h63, kb_f (Int32.not_lt.mpr h68)])
                       | (rw [cmpF, if_neg h63, if_pos h82_1, kb_t h87])
                       | (rw [cmpF, if_neg h63, if_pos h82_1, kb_f h87])
                       | (rw [cmpF, if_neg h63, if_neg h82_1, kb_t (Int32.not_le.mp h100)])
                       | (rw [cmpF, if_neg h63, if_neg h82_1, kb_f (Int32.not_lt.mpr h100)]))
        · refine il1 (n := 44) dX9_compared_43 rfl ?_
          refine k_ireturn (ty := .int) dX9_compared_44 rfl rfl (Nat.le_refl _) (Nat.le_refl _) ?_
          have hn : ¬ ((pz G n 3 0 a op).2.2 = true ∧ (G.1 (pz G n 3 0 a op).2.1 = 60 ∨ G.1 (pz G n 3 0 a op).2.1 = 61 ∨ G.1 (pz G n 3 0 a op).2.1 = 62)) := fun q => q.2.elim h28 (fun q => q.elim h34 h40)
          have ez : pz G (n + 1) 2 0 a op = pz G n 3 0 a op := by
            rw [pz2]
            by_cases hg : (pz G n 3 0 a op).2.2 = true
            · rw [if_pos hg, if_neg (fun q => hn ⟨hg, q⟩)]
            · rw [if_neg hg]
          rw [ez]
          exact ⟨p1, rfl, rfl, h81, h141, hp1⟩
end M16

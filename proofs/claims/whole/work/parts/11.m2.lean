/-- an error is told -/
def ker (I : Nat → Nat → Int32) (q : Nat) : Nat → Nat → Int32 := kset I 86 (upd (I 86) q (I 86 q + 1))
def ke (I : Nat → Nat → Int32) (q : Nat) : Nat → Nat → Int32 := if q = 0 then I else ker I q
theorem ke0 (I : Nat → Nat → Int32) : ke I 0 = I := rfl
theorem ke1 (I : Nat → Nat → Int32) : ke I 1 = ker I 1 := rfl
theorem ke2 (I : Nat → Nat → Int32) : ke I 2 = ker I 2 := rfl
theorem ke3 (I : Nat → Nat → Int32) : ke I 3 = ker I 3 := rfl
theorem ke4 (I : Nat → Nat → Int32) : ke I 4 = ker I 4 := rfl
theorem ke5 (I : Nat → Nat → Int32) : ke I 5 = ker I 5 := rfl
/-- what an act answers, the row behind it, the error that it tells (0: none) -/
abbrev sT : Type := Int32 × (Nat → Int32) × Nat
def sB (r : Nat → Int32) : sT := (-1000000001, r, 1)
def sN (r : Nat → Int32) : sT := (-1000000002, r, 2)
def sS (r : Nat → Int32) : sT := (-1000000003, r, 3)
def sF (r : Nat → Int32) : sT := (-1000000004, r, 4)
def sK (r : Nat → Int32) : sT := (-1000000005, r, 5)
def kT (I : Nat → Nat → Int32) (t : sT) : Option Value → kM → Prop := kR t.1 (ke (kset I 82 t.2.1) t.2.2)
section M2
variable {E : kE} {d : Nat} {I : Nat → Nat → Int32} {r : Nat → Int32}
set_option maxHeartbeats 2000000 in
set_option maxRecDepth 20000 in
theorem m_errs (q : Nat) (e : Int32) (hq : q < 6) (he : -1000000000 - e = nI q) : Ct E d mX9_errs 0 0 [.ref 81, .int e] (kJ I) (kR e (ker I q)) := by
  refine Ct.of (L := [some (.ref 81), some (.int e)]) rfl rfl (Nat.le_of_ble_eq_true rfl) ?_
  refine al0 (n := 1) dX9_errs_0 rfl ?_
  refine gX9_22 (n := 4) dX9_errs_1 rfl rfl rfl rfl ?_
  refine cX9_40 (n := 6) dX9_errs_4 rfl rfl ?_
  refine il1 (n := 7) dX9_errs_6 rfl ?_
  refine k_isub (n := 8) dX9_errs_7 rfl ?_
  refine k_dup2 (n := 9) dX9_errs_8 rfl rfl rfl ?_
  refine j_iald (j := q) (n := 10) dX9_errs_9 rfl rfl he hq (by decide) ?_
  refine k_iconst (a := 1) (n := 11) dX9_errs_10 rfl rfl ?_
  refine k_iadd (n := 12) dX9_errs_11 rfl ?_
  refine j_iast (j := q) (n := 13) dX9_errs_12 rfl rfl he hq (by decide) ?_
  refine il1 (n := 14) dX9_errs_13 rfl ?_
  refine k_ireturn (ty := .int) dX9_errs_14 rfl rfl (Nat.le_refl _) (Nat.le_refl _) ?_
  exact ⟨rfl, rfl⟩
def bitsF : Nat → Int32 → Int32
  | 0, _ => 0
  | m + 1, s => if s = 0 then 0 else 1 + bitsF m (s &&& (s - 1))
set_option maxHeartbeats 2000000 in
set_option maxRecDepth 20000 in
theorem m_moveAll_l {a b : Nat} (ha : SS[a]? = some (100, 255)) (hb : SS[b]? = some (100, 255)) (hab : a ≠ b) (m : Nat) : ∀ (i : Nat), i + m = 255 → ∀ (f : Nat → Int32), (∀ j, f j = if j < i then I a j else I b j) → Wd E d mX9_moveAll 0 0 0 0 2 [some (.ref 81), some (.ref a), some (.ref b), some (.int (nI i))] [] (kJ (kset I b f)) (kRv (kset I b (fun j => if j < 255 then I a j else I b j))) := by
  induction m with
  | zero =>
    intro i hi f hf
    have e : i = 255 := by omega
    subst e
    refine il3 (n := 3) dX9_moveAll_2 rfl ?_
    refine k_sipush (a := 255) (n := 6) dX9_moveAll_3 rfl rfl ?_
    refine k_icmp_ge (t := 21) (n := 9) dX9_moveAll_6 (by decide) rfl (fun h6 => ?_) (fun h6 => ?_)
    · refine k_return dX9_moveAll_21 rfl (Nat.le_refl _) (Nat.le_refl _) ?_
      exact ⟨rfl, by rw [show f = _ from funext hf]⟩
    · exact absurd (Int32.le_refl _) h6
  | succ m ih =>
    intro i hi f hf
    refine il3 (n := 3) dX9_moveAll_2 rfl ?_
    refine k_sipush (a := 255) (n := 6) dX9_moveAll_3 rfl rfl ?_
    refine k_icmp_ge (t := 21) (n := 9) dX9_moveAll_6 (by decide) rfl (fun h6 => ?_) (fun h6 => ?_)
    · exact absurd h6 (nI_ge (show i < 255 by omega) (by decide))
    · refine al2 (n := 10) dX9_moveAll_9 rfl ?_
      refine il3 (n := 11) dX9_moveAll_10 rfl ?_
      refine al1 (n := 12) dX9_moveAll_11 rfl ?_
      refine il3 (n := 13) dX9_moveAll_12 rfl ?_
      refine j_iald (j := i) (n := 14) dX9_moveAll_13 rfl ha rfl (by omega) (by decide) ?_
      rw [kset_ne _ _ hab]
      refine js_iast (j := i) (n := 15) dX9_moveAll_14 rfl hb rfl (by omega) (by decide) ?_
      refine ii3 (n := 18) dX9_moveAll_15 rfl (ki1 _) trivial ?_
      rw [nI_1]
      refine k_goto (n := 2) dX9_moveAll_18 (by decide) ?_
      refine ih (i + 1) (by omega) _ (fun j => ?_)
      by_cases h1 : j = i
      · subst h1; simp [upd]
      · simp only [upd, if_neg h1, hf]
        by_cases h2 : j < i
        · rw [if_pos h2, if_pos (by omega)]
        · rw [if_neg h2, if_neg (by omega)]
set_option maxHeartbeats 2000000 in
set_option maxRecDepth 20000 in
theorem m_moveAll {a b : Nat} (ha : SS[a]? = some (100, 255)) (hb : SS[b]? = some (100, 255)) (hab : a ≠ b) : Ct E d mX9_moveAll 0 0 [.ref 81, .ref a, .ref b] (kJ I) (kRv (kset I b (fun j => if j < 255 then I a j else I b j))) := by
  refine Ct.of (L := [some (.ref 81), some (.ref a), some (.ref b), none]) rfl rfl (Nat.le_of_ble_eq_true rfl) ?_
  refine k_iconst (a := 0) (n := 1) dX9_moveAll_0 rfl rfl ?_
  refine is3 (n := 2) dX9_moveAll_1 rfl trivial ?_
  have h := m_moveAll_l (E := E) (d := d) (I := I) ha hb hab 255 0 rfl (I b) (fun j => by rw [if_neg (by omega)])
  rw [kset_self] at h
  exact h
def s_rhyme (r : Nat → Int32) (p q : Int32) : sT := if 1 ≤ p ∧ p ≤ 16 then if 0 ≤ q ∧ q ≤ ((1 : Int32) <<< (p &&& 31)) - 1 then (r 1, upd (upd r 10 q) 1 p, 0) else sB r else sB r
set_option maxHeartbeats 2000000 in
set_option maxRecDepth 20000 in
theorem m_rhyme (hd : 2 ≤ d) (p q : Int32) : Ct E d mX9_rhyme 0 0 [.ref 81, .int p, .int q] (kJ (kset I 82 r)) (kT I (s_rhyme r p q)) := by
  refine Ct.of (L := [some (.ref 81), some (.int p), some (.int q)]) rfl rfl (Nat.le_of_ble_eq_true rfl) ?_
  refine il1 (n := 1) dX9_rhyme_0 rfl ?_
  refine k_iconst (a := 1) (n := 2) dX9_rhyme_1 rfl rfl ?_
  refine k_bipush (a := 16) (n := 4) dX9_rhyme_2 rfl rfl ?_
  refine qiX9_41 (n := 7) dX9_rhyme_4 rfl rfl (Nat.le_of_ble_eq_true rfl) (by omega) (m_in _ _ _) (Nat.le_refl _) (Nat.le_refl _) ?_
  refine k_ifb_eq (t := 23) (n := 10) dX9_rhyme_7 (by decide) rfl (fun h7 => ?_) (fun h7 => ?_)
  · refine al0 (n := 24) dX9_rhyme_23 rfl ?_
    refine cX9_45 (n := 26) dX9_rhyme_24 rfl rfl ?_
    refine qiX9_46 (n := 29) dX9_rhyme_26 rfl rfl (Nat.le_of_ble_eq_true rfl) (by omega) rfl (m_errs 1 _ (by decide) rfl) (Nat.le_refl _) (Nat.le_refl _) ?_
    refine k_ireturn (ty := .int) dX9_rhyme_29 rfl rfl (Nat.le_refl _) (Nat.le_refl _) ?_
    (refine ⟨?_, ?_⟩ <;> simp only [kT, s_rhyme, sB, sN, sS, sF, sK, ke0, ke1, ke2, ke3, ke4, ke5, if_neg h7] <;> rfl)
  · refine il2 (n := 11) dX9_rhyme_10 rfl ?_
    refine k_iconst (a := 0) (n := 12) dX9_rhyme_11 rfl rfl ?_
    refine k_iconst (a := 1) (n := 13) dX9_rhyme_12 rfl rfl ?_
    refine il1 (n := 14) dX9_rhyme_13 rfl ?_
    refine k_ishl (n := 15) dX9_rhyme_14 rfl ?_
    refine k_iconst (a := 1) (n := 16) dX9_rhyme_15 rfl rfl ?_
    refine k_isub (n := 17) dX9_rhyme_16 rfl ?_
    refine qiX9_41 (n := 20) dX9_rhyme_17 rfl rfl (Nat.le_of_ble_eq_true rfl) (by omega) (m_in _ _ _) (Nat.le_refl _) (Nat.le_refl _) ?_
    refine k_ifb_ne (t := 30) (n := 23) dX9_rhyme_20 (by decide) rfl (fun h20 => ?_) (fun h20 => ?_)
    · refine al0 (n := 31) dX9_rhyme_30 rfl ?_
      refine gX9_7 (n := 34) dX9_rhyme_31 rfl rfl rfl rfl ?_
      refine k_bipush (a := 10) (n := 36) dX9_rhyme_34 rfl rfl ?_
      refine il2 (n := 37) dX9_rhyme_36 rfl ?_
      refine js_iast (j := 10) (n := 38) dX9_rhyme_37 rfl rfl rfl (by decide) (by decide) ?_
      refine al0 (n := 39) dX9_rhyme_38 rfl ?_
      refine k_iconst (a := 1) (n := 40) dX9_rhyme_39 rfl rfl ?_
      refine il1 (n := 41) dX9_rhyme_40 rfl ?_
      refine qiX9_51 (n := 44) dX9_rhyme_41 rfl rfl (Nat.le_of_ble_eq_true rfl) (by omega) rfl (m_becomes 1 _ (by decide)) (Nat.le_refl _) (Nat.le_refl _) ?_
      refine k_ireturn (ty := .int) dX9_rhyme_44 rfl rfl (Nat.le_refl _) (Nat.le_refl _) ?_
      (refine ⟨?_, ?_⟩ <;> simp only [kT, s_rhyme, sB, sN, sS, sF, sK, ke0, ke1, ke2, ke3, ke4, ke5, if_pos h7, if_pos h20] <;> rfl)
    · refine al0 (n := 24) dX9_rhyme_23 rfl ?_
      refine cX9_45 (n := 26) dX9_rhyme_24 rfl rfl ?_
      refine qiX9_46 (n := 29) dX9_rhyme_26 rfl rfl (Nat.le_of_ble_eq_true rfl) (by omega) rfl (m_errs 1 _ (by decide) rfl) (Nat.le_refl _) (Nat.le_refl _) ?_
      refine k_ireturn (ty := .int) dX9_rhyme_29 rfl rfl (Nat.le_refl _) (Nat.le_refl _) ?_
      (refine ⟨?_, ?_⟩ <;> simp only [kT, s_rhyme, sB, sN, sS, sF, sK, ke0, ke1, ke2, ke3, ke4, ke5, if_pos h7, if_neg h20] <;> rfl)
end M2

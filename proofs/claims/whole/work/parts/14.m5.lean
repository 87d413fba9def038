section M5
variable {E : kE} {d : Nat} {I : Nat → Nat → Int32} {r : Nat → Int32}
def newC (r : Nat → Int32) (c : Nat) (km sk pl : Int32) : Nat → Int32 := upd (upd (upd (upd (upd (upd (upd (upd r (29 + 7 * c + 0) (km / 10)) (29 + 7 * c + 1) (km - km / 10 * 10)) (29 + 7 * c + 2) sk) (29 + 7 * c + 3) 0) (29 + 7 * c + 4) pl) (29 + 7 * c + 5) 0) (29 + 7 * c + 6) 0) 9 (r 9 + 1)
def s_crosser (r : Nat → Int32) (km sk pl : Int32) : sT := if 0 ≤ km ∧ km ≤ 69 then if 0 ≤ sk ∧ sk ≤ 9 then if 0 ≤ pl ∧ pl ≤ r 3 - 1 then if r 9 = 8 then sF r else (r 9, newC r (r 9).toNatClampNeg km sk pl, 0) else sB r else sB r else sB r
set_option maxHeartbeats 2000000 in
set_option maxRecDepth 20000 in
theorem m_crosser (hd : 2 ≤ d) (hR : RI r) (km sk pl : Int32) : Ct E d mX9_crosser 0 0 [.ref 81, .int km, .int sk, .int pl] (kJ (kset I 82 r)) (kT I (s_crosser r km sk pl)) := by
  obtain ⟨⟨c, hc, h8⟩, -⟩ := id hR
  have hcl : (r 9).toNatClampNeg = c := by rw [hc]; exact kcl (by omega)
  refine Ct.of (L := [some (.ref 81), some (.int km), some (.int sk), some (.int pl), none]) rfl rfl (Nat.le_of_ble_eq_true rfl) ?_
  refine il1 (n := 1) dX9_crosser_0 rfl ?_
  refine k_iconst (a := 0) (n := 2) dX9_crosser_1 rfl rfl ?_
  refine k_bipush (a := 69) (n := 4) dX9_crosser_2 rfl rfl ?_
  refine qiX9_41 (n := 7) dX9_crosser_4 rfl rfl (Nat.le_of_ble_eq_true rfl) (by omega) (m_in _ _ _) (Nat.le_refl _) (Nat.le_refl _) ?_
  refine k_ifb_eq (t := 28) (n := 10) dX9_crosser_7 (by decide) rfl (fun h7 => ?_) (fun h7 => ?_)
  · refine al0 (n := 29) dX9_crosser_28 rfl ?_
    refine cX9_45 (n := 31) dX9_crosser_29 rfl rfl ?_
    refine qiX9_46 (n := 34) dX9_crosser_31 rfl rfl (Nat.le_of_ble_eq_true rfl) (by omega) rfl (m_errs 1 _ (by decide) rfl) (Nat.le_refl _) (Nat.le_refl _) ?_
    refine k_ireturn (ty := .int) dX9_crosser_34 rfl rfl (Nat.le_refl _) (Nat.le_refl _) ?_
    (refine ⟨?_, ?_⟩ <;> simp only [kT, s_crosser, sB, sN, sS, sF, sK, ke0, ke1, ke2, ke3, ke4, ke5, if_neg h7] <;> rfl)
  · refine il2 (n := 11) dX9_crosser_10 rfl ?_
    refine k_iconst (a := 0) (n := 12) dX9_crosser_11 rfl rfl ?_
    refine k_bipush (a := 9) (n := 14) dX9_crosser_12 rfl rfl ?_
    refine qiX9_41 (n := 17) dX9_crosser_14 rfl rfl (Nat.le_of_ble_eq_true rfl) (by omega) (m_in _ _ _) (Nat.le_refl _) (Nat.le_refl _) ?_
    refine k_ifb_eq (t := 28) (n := 20) dX9_crosser_17 (by decide) rfl (fun h17 => ?_) (fun h17 => ?_)
    · refine al0 (n := 29) dX9_crosser_28 rfl ?_
      refine cX9_45 (n := 31) dX9_crosser_29 rfl rfl ?_
      refine qiX9_46 (n := 34) dX9_crosser_31 rfl rfl (Nat.le_of_ble_eq_true rfl) (by omega) rfl (m_errs 1 _ (by decide) rfl) (Nat.le_refl _) (Nat.le_refl _) ?_
      refine k_ireturn (ty := .int) dX9_crosser_34 rfl rfl (Nat.le_refl _) (Nat.le_refl _) ?_
      (refine ⟨?_, ?_⟩ <;> simp only [kT, s_crosser, sB, sN, sS, sF, sK, ke0, ke1, ke2, ke3, ke4, ke5, if_pos h7, if_neg h17] <;> rfl)
    · refine al0 (n := 21) dX9_crosser_20 rfl ?_
      refine il3 (n := 22) dX9_crosser_21 rfl ?_
      refine qiX9_60 (n := 25) dX9_crosser_22 rfl rfl (Nat.le_of_ble_eq_true rfl) (by omega) rfl (m_isPlace (by omega) _) (Nat.le_refl _) (Nat.le_refl _) ?_
      refine k_ifb_ne (t := 35) (n := 28) dX9_crosser_25 (by decide) rfl (fun h25 => ?_) (fun h25 => ?_)
      · refine al0 (n := 36) dX9_crosser_35 rfl ?_
        refine gX9_7 (n := 39) dX9_crosser_36 rfl rfl rfl rfl ?_
        refine k_bipush (a := 9) (n := 41) dX9_crosser_39 rfl rfl ?_
        refine js_iald (j := 9) (n := 42) dX9_crosser_41 rfl rfl rfl (by decide) (by decide) ?_
        refine k_bipush (a := 8) (n := 44) dX9_crosser_42 rfl rfl ?_
        refine k_icmp_ne (t := 54) (n := 47) dX9_crosser_44 (by decide) rfl (fun h44 => ?_) (fun h44 => ?_)
        · have h3 : c < 8 := by
            rcases Nat.lt_or_ge c 8 with h | h
            · exact h
            · exact absurd (by rw [hc, show c = 8 by omega]; rfl) h44
          refine al0 (n := 55) dX9_crosser_54 rfl ?_
          refine gX9_7 (n := 58) dX9_crosser_55 rfl rfl rfl rfl ?_
          refine k_bipush (a := 9) (n := 60) dX9_crosser_58 rfl rfl ?_
          refine js_iald (j := 9) (n := 61) dX9_crosser_60 rfl rfl rfl (by decide) (by decide) ?_
          rw [hc]
          refine is4 (n := 63) dX9_crosser_61 rfl trivial ?_
          refine al0 (n := 64) dX9_crosser_63 rfl ?_
          refine il4 (n := 66) dX9_crosser_64 rfl ?_
          refine k_iconst (a := 0) (n := 67) dX9_crosser_66 rfl rfl ?_
          refine il1 (n := 68) dX9_crosser_67 rfl ?_
          refine k_bipush (a := 10) (n := 70) dX9_crosser_68 rfl rfl ?_
          refine k_idiv (n := 71) dX9_crosser_70 rfl (by decide) ?_
          refine qiX9_63 (n := 74) dX9_crosser_71 rfl rfl (Nat.le_of_ble_eq_true rfl) (by omega) rfl (m_gets c 0 _ h3 (by decide)) (Nat.le_refl _) (Nat.le_refl _) ?_
          refine al0 (n := 75) dX9_crosser_74 rfl ?_
          refine il4 (n := 77) dX9_crosser_75 rfl ?_
          refine k_iconst (a := 1) (n := 78) dX9_crosser_77 rfl rfl ?_
          refine il1 (n := 79) dX9_crosser_78 rfl ?_
          refine k_bipush (a := 10) (n := 81) dX9_crosser_79 rfl rfl ?_
          refine k_irem (n := 82) dX9_crosser_81 rfl (by decide) ?_
          refine qiX9_63 (n := 85) dX9_crosser_82 rfl rfl (Nat.le_of_ble_eq_true rfl) (by omega) rfl (m_gets c 1 _ h3 (by decide)) (Nat.le_refl _) (Nat.le_refl _) ?_
          refine al0 (n := 86) dX9_crosser_85 rfl ?_
          refine il4 (n := 88) dX9_crosser_86 rfl ?_
          refine k_iconst (a := 2) (n := 89) dX9_crosser_88 rfl rfl ?_
          refine il2 (n := 90) dX9_crosser_89 rfl ?_
          refine qiX9_63 (n := 93) dX9_crosser_90 rfl rfl (Nat.le_of_ble_eq_true rfl) (by omega) rfl (m_gets c 2 _ h3 (by decide)) (Nat.le_refl _) (Nat.le_refl _) ?_
          refine al0 (n := 94) dX9_crosser_93 rfl ?_
          refine il4 (n := 96) dX9_crosser_94 rfl ?_
          refine k_iconst (a := 3) (n := 97) dX9_crosser_96 rfl rfl ?_
          refine k_iconst (a := 0) (n := 98) dX9_crosser_97 rfl rfl ?_
          refine qiX9_63 (n := 101) dX9_crosser_98 rfl rfl (Nat.le_of_ble_eq_true rfl) (by omega) rfl (m_gets c 3 _ h3 (by decide)) (Nat.le_refl _) (Nat.le_refl _) ?_
          refine al0 (n := 102) dX9_crosser_101 rfl ?_
          refine il4 (n := 104) dX9_crosser_102 rfl ?_
          refine k_iconst (a := 4) (n := 105) dX9_crosser_104 rfl rfl ?_
          refine il3 (n := 106) dX9_crosser_105 rfl ?_
          refine qiX9_63 (n := 109) dX9_crosser_106 rfl rfl (Nat.le_of_ble_eq_true rfl) (by omega) rfl (m_gets c 4 _ h3 (by decide)) (Nat.le_refl _) (Nat.le_refl _) ?_
          refine al0 (n := 110) dX9_crosser_109 rfl ?_
          refine il4 (n := 112) dX9_crosser_110 rfl ?_
          refine k_iconst (a := 5) (n := 113) dX9_crosser_112 rfl rfl ?_
          refine k_iconst (a := 0) (n := 114) dX9_crosser_113 rfl rfl ?_
          refine qiX9_63 (n := 117) dX9_crosser_114 rfl rfl (Nat.le_of_ble_eq_true rfl) (by omega) rfl (m_gets c 5 _ h3 (by decide)) (Nat.le_refl _) (Nat.le_refl _) ?_
          refine al0 (n := 118) dX9_crosser_117 rfl ?_
          refine il4 (n := 120) dX9_crosser_118 rfl ?_
          refine k_bipush (a := 6) (n := 122) dX9_crosser_120 rfl rfl ?_
          refine k_iconst (a := 0) (n := 123) dX9_crosser_122 rfl rfl ?_
          refine qiX9_63 (n := 126) dX9_crosser_123 rfl rfl (Nat.le_of_ble_eq_true rfl) (by omega) rfl (m_gets c 6 _ h3 (by decide)) (Nat.le_refl _) (Nat.le_refl _) ?_
          refine al0 (n := 127) dX9_crosser_126 rfl ?_
          refine gX9_7 (n := 130) dX9_crosser_127 rfl rfl rfl rfl ?_
          refine k_bipush (a := 9) (n := 132) dX9_crosser_130 rfl rfl ?_
          refine k_dup2 (n := 133) dX9_crosser_132 rfl rfl rfl ?_
          refine js_iald (j := 9) (n := 134) dX9_crosser_133 rfl rfl rfl (by decide) (by decide) ?_
          refine k_iconst (a := 1) (n := 135) dX9_crosser_134 rfl rfl ?_
          refine k_iadd (n := 136) dX9_crosser_135 rfl ?_
          refine js_iast (j := 9) (n := 137) dX9_crosser_136 rfl rfl rfl (by decide) (by decide) ?_
          refine il4 (n := 139) dX9_crosser_137 rfl ?_
          refine k_ireturn (ty := .int) dX9_crosser_139 rfl rfl (Nat.le_refl _) (Nat.le_refl _) ?_
          have e1 : upd (upd (upd (upd (upd (upd (upd r (29 + 7 * c + 0) (km / 10)) (29 + 7 * c + 1) (km - km / 10 * 10)) (29 + 7 * c + 2) sk) (29 + 7 * c + 3) 0) (29 + 7 * c + 4) pl) (29 + 7 * c + 5) 0) (29 + 7 * c + 6) 0 9 = r 9 := by
            rw [pk_un (by omega), pk_un (by omega), pk_un (by omega), pk_un (by omega), pk_un (by omega), pk_un (by omega), pk_un (by omega)]
          refine ⟨?_, ?_⟩ <;> simp only [kT, s_crosser, newC, ke0, if_pos h7, if_pos h17, if_pos h25, if_neg h44, hcl, e1]
          rw [hc]
        · refine al0 (n := 48) dX9_crosser_47 rfl ?_
          refine cX9_55 (n := 50) dX9_crosser_48 rfl rfl ?_
          refine qiX9_46 (n := 53) dX9_crosser_50 rfl rfl (Nat.le_of_ble_eq_true rfl) (by omega) rfl (m_errs 4 _ (by decide) rfl) (Nat.le_refl _) (Nat.le_refl _) ?_
          refine k_ireturn (ty := .int) dX9_crosser_53 rfl rfl (Nat.le_refl _) (Nat.le_refl _) ?_
          (refine ⟨?_, ?_⟩ <;> simp only [kT, s_crosser, sB, sN, sS, sF, sK, ke0, ke1, ke2, ke3, ke4, ke5, if_pos h7, if_pos h17, if_pos h25, if_pos h44] <;> rfl)
      · refine al0 (n := 29) dX9_crosser_28 rfl ?_
        refine cX9_45 (n := 31) dX9_crosser_29 rfl rfl ?_
        refine qiX9_46 (n := 34) dX9_crosser_31 rfl rfl (Nat.le_of_ble_eq_true rfl) (by omega) rfl (m_errs 1 _ (by decide) rfl) (Nat.le_refl _) (Nat.le_refl _) ?_
        refine k_ireturn (ty := .int) dX9_crosser_34 rfl rfl (Nat.le_refl _) (Nat.le_refl _) ?_
        (refine ⟨?_, ?_⟩ <;> simp only [kT, s_crosser, sB, sN, sS, sF, sK, ke0, ke1, ke2, ke3, ke4, ke5, if_pos h7, if_pos h17, if_neg h25] <;> rfl)
def kAb (k : Int32) : Int32 := if k = 0 then -1 else if k ≤ 3 then 0 else k - 3
set_option maxHeartbeats 2000000 in
set_option maxRecDepth 20000 in
theorem m_above (k : Int32) : Ct E d mX9_above 0 0 [.int k] (kJ I) (kR (kAb k) I) := by
  refine Ct.of (L := [some (.int k)]) rfl rfl (Nat.le_of_ble_eq_true rfl) ?_
  refine il0 (n := 1) dX9_above_0 rfl ?_
  refine k_if_ne (t := 8) (n := 4) dX9_above_1 (by decide) rfl (fun h1 => ?_) (fun h1 => ?_)
  · refine il0 (n := 9) dX9_above_8 rfl ?_
    refine k_iconst (a := 3) (n := 10) dX9_above_9 rfl rfl ?_
    refine k_icmp_le (t := 19) (n := 13) dX9_above_10 (by decide) rfl (fun h10 => ?_) (fun h10 => ?_)
    · refine k_iconst (a := 0) (n := 20) dX9_above_19 rfl rfl ?_
      refine k_ireturn (ty := .int) dX9_above_20 rfl rfl (Nat.le_refl _) (Nat.le_refl _) ?_
      exact ⟨by simp only [kAb, if_neg h1, if_pos h10], rfl⟩
    · refine il0 (n := 14) dX9_above_13 rfl ?_
      refine k_iconst (a := 3) (n := 15) dX9_above_14 rfl rfl ?_
      refine k_isub (n := 16) dX9_above_15 rfl ?_
      refine k_goto (n := 20) dX9_above_16 (by decide) ?_
      refine k_ireturn (ty := .int) dX9_above_20 rfl rfl (Nat.le_refl _) (Nat.le_refl _) ?_
      exact ⟨by simp only [kAb, if_neg h1, if_neg h10], rfl⟩
  · refine k_iconst (a := (-1)) (n := 5) dX9_above_4 rfl rfl ?_
    refine k_goto (n := 20) dX9_above_5 (by decide) ?_
    refine k_ireturn (ty := .int) dX9_above_20 rfl rfl (Nat.le_refl _) (Nat.le_refl _) ?_
    exact ⟨by simp only [kAb, if_pos h1], rfl⟩
def kOf : Nat → Int32 → Int32 → Int32
  | 0, k, _ => k
  | m + 1, k, q => if k < 0 then k else if k = q then k else kOf m (kAb k) q
theorem kOf_fin (q : Int32) : ∀ c, c < 7 → kOf 3 (nI c) q < 0 ∨ kOf 3 (nI c) q = q := by
  intro c hc
  have e : ∀ m (k : Int32), ¬ k < 0 → kOf (m + 1) k q = if k = q then k else kOf m (kAb k) q := fun m k h => by simp only [kOf, if_neg h]
  have e3 : ∀ m, kOf m (-1) q = -1 := fun m => by cases m <;> simp [kOf]
  have e0 : ∀ m, kOf (m + 1) 0 q < 0 ∨ kOf (m + 1) 0 q = q := fun m => by
    rw [e m 0 (by decide)]
    by_cases h : (0 : Int32) = q
    · rw [if_pos h]; exact Or.inr h
    · rw [if_neg h, show kAb 0 = -1 from rfl, e3]; exact Or.inl (by decide)
  have e1 : ∀ m (k : Int32), ¬ k < 0 → kAb k = 0 → kOf (m + 2) k q < 0 ∨ kOf (m + 2) k q = q := fun m k h hk => by
    rw [e (m + 1) k h]
    by_cases h : k = q
    · rw [if_pos h]; exact Or.inr h
    · rw [if_neg h, hk]; exact e0 m
  have e2 : ∀ (k j : Int32), ¬ k < 0 → kAb k = j → ¬ j < 0 → kAb j = 0 → kOf 3 k q < 0 ∨ kOf 3 k q = q := fun k j h hk hj hj2 => by
    rw [e 2 k h]
    by_cases h : k = q
    · rw [if_pos h]; exact Or.inr h
    · rw [if_neg h, hk]; exact e1 0 j hj hj2
  rcases (show c = 0 ∨ c = 1 ∨ c = 2 ∨ c = 3 ∨ c = 4 ∨ c = 5 ∨ c = 6 by omega) with rfl | rfl | rfl | rfl | rfl | rfl | rfl
  · exact e0 2
  · exact e1 1 1 (by decide) rfl
  · exact e1 1 2 (by decide) rfl
  · exact e1 1 3 (by decide) rfl
  · exact e2 4 1 (by decide) rfl (by decide) rfl
  · exact e2 5 2 (by decide) rfl (by decide) rfl
  · exact e2 6 3 (by decide) rfl (by decide) rfl
set_option maxHeartbeats 2000000 in
set_option maxRecDepth 20000 in
theorem m_as_l (hd : 1 ≤ d) (v q : Int32) (Q : Option Value → kM → Prop) (m : Nat) : ∀ (k : Int32), (kOf m k q < 0 ∨ kOf m k q = q) → Wd E d mX9_as 0 0 0 0 49 [some (.ref 81), some (.int v), some (.int q), some (.int (kOf m k q))] [] (kJ (kset I 82 r)) Q → Wd E d mX9_as 0 0 0 0 32 [some (.ref 81), some (.int v), some (.int q), some (.int k)] [] (kJ (kset I 82 r)) Q := by
  induction m with
  | zero =>
    intro k h1 hk
    unfold kOf at h1 hk
    refine il3 (n := 33) dX9_as_32 rfl ?_
    refine k_if_lt (t := 49) (n := 36) dX9_as_33 (by decide) rfl (fun _ => hk) (fun h33 => ?_)
    refine il3 (n := 37) dX9_as_36 rfl ?_
    refine il2 (n := 38) dX9_as_37 rfl ?_
    exact k_icmp_eq (t := 49) (n := 41) dX9_as_38 (by decide) rfl (fun _ => hk) (fun h38 => (h1.elim (fun h => absurd h h33) (fun h => absurd h h38)))
  | succ m ih =>
    intro k h1 hk
    unfold kOf at h1 hk
    refine il3 (n := 33) dX9_as_32 rfl ?_
    refine k_if_lt (t := 49) (n := 36) dX9_as_33 (by decide) rfl (fun h33 => ?_) (fun h33 => ?_)
    · rw [if_pos h33] at hk; exact hk
    · refine il3 (n := 37) dX9_as_36 rfl ?_
      refine il2 (n := 38) dX9_as_37 rfl ?_
      refine k_icmp_eq (t := 49) (n := 41) dX9_as_38 (by decide) rfl (fun h38 => ?_) (fun h38 => ?_)
      · rw [if_neg h33, if_pos h38] at hk; exact hk
      · refine il3 (n := 42) dX9_as_41 rfl ?_
        refine qiX9_83 (n := 45) dX9_as_42 rfl rfl (Nat.le_of_ble_eq_true rfl) (by omega) (m_above _) (Nat.le_refl _) (Nat.le_refl _) ?_
        refine is3 (n := 46) dX9_as_45 rfl trivial ?_
        refine k_goto (n := 32) dX9_as_46 (by decide) ?_
        rw [if_neg h33, if_neg h38] at h1 hk
        exact ih _ h1 hk
def s_as (r : Nat → Int32) (v q : Int32) : sT := if 0 ≤ v ∧ v ≤ r 9 - 1 then if 0 ≤ q ∧ q ≤ 6 then if 0 ≤ kOf 3 (r (29 + 7 * v.toNatClampNeg)) q then (r (29 + 7 * v.toNatClampNeg + 1), r, 0) else sK r else sB r else sB r
set_option maxHeartbeats 2000000 in
set_option maxRecDepth 20000 in
theorem m_as (hd : 2 ≤ d) (hR : RI r) (v q : Int32) : Ct E d mX9_as 0 0 [.ref 81, .int v, .int q] (kJ (kset I 82 r)) (kT I (s_as r v q)) := by
  refine Ct.of (L := [some (.ref 81), some (.int v), some (.int q), none]) rfl rfl (Nat.le_of_ble_eq_true rfl) ?_
  refine al0 (n := 1) dX9_as_0 rfl ?_
  refine il1 (n := 2) dX9_as_1 rfl ?_
  refine qiX9_67 (n := 5) dX9_as_2 rfl rfl (Nat.le_of_ble_eq_true rfl) (by omega) rfl (m_isCrosser (by omega) _) (Nat.le_refl _) (Nat.le_refl _) ?_
  refine k_ifb_eq (t := 18) (n := 8) dX9_as_5 (by decide) rfl (fun h5 => ?_) (fun h5 => ?_)
  · refine al0 (n := 19) dX9_as_18 rfl ?_
    refine cX9_45 (n := 21) dX9_as_19 rfl rfl ?_
    refine qiX9_46 (n := 24) dX9_as_21 rfl rfl (Nat.le_of_ble_eq_true rfl) (by omega) rfl (m_errs 1 _ (by decide) rfl) (Nat.le_refl _) (Nat.le_refl _) ?_
    refine k_ireturn (ty := .int) dX9_as_24 rfl rfl (Nat.le_refl _) (Nat.le_refl _) ?_
    (refine ⟨?_, ?_⟩ <;> simp only [kT, s_as, sB, sN, sS, sF, sK, ke0, ke1, ke2, ke3, ke4, ke5, if_neg h5] <;> rfl)
  · obtain ⟨j, hj, rfl⟩ := kixC hR h5
    refine il2 (n := 9) dX9_as_8 rfl ?_
    refine k_iconst (a := 0) (n := 10) dX9_as_9 rfl rfl ?_
    refine k_bipush (a := 6) (n := 12) dX9_as_10 rfl rfl ?_
    refine qiX9_41 (n := 15) dX9_as_12 rfl rfl (Nat.le_of_ble_eq_true rfl) (by omega) (m_in _ _ _) (Nat.le_refl _) (Nat.le_refl _) ?_
    refine k_ifb_ne (t := 25) (n := 18) dX9_as_15 (by decide) rfl (fun h15 => ?_) (fun h15 => ?_)
    · refine al0 (n := 26) dX9_as_25 rfl ?_
      refine il1 (n := 27) dX9_as_26 rfl ?_
      refine k_iconst (a := 0) (n := 28) dX9_as_27 rfl rfl ?_
      refine qiX9_80 (n := 31) dX9_as_28 rfl rfl (Nat.le_of_ble_eq_true rfl) (by omega) rfl (m_its j 0 hj (by decide)) (Nat.le_refl _) (Nat.le_refl _) ?_
      rw [Nat.add_zero (29 + 7 * j)]
      refine is3 (n := 32) dX9_as_31 rfl trivial ?_
      obtain ⟨⟨c, hc, h7⟩, -⟩ := (hR.2.2.2.2.2.2.2.1 j hj)
      refine m_as_l (by omega) _ q _ 3 _ (by rw [hc]; exact kOf_fin q c h7) ?_
      refine il3 (n := 50) dX9_as_49 rfl ?_
      refine k_if_ge (t := 62) (n := 53) dX9_as_50 (by decide) rfl (fun h50 => ?_) (fun h50 => ?_)
      · refine al0 (n := 63) dX9_as_62 rfl ?_
        refine il1 (n := 64) dX9_as_63 rfl ?_
        refine k_iconst (a := 1) (n := 65) dX9_as_64 rfl rfl ?_
        refine qiX9_80 (n := 68) dX9_as_65 rfl rfl (Nat.le_of_ble_eq_true rfl) (by omega) rfl (m_its j 1 hj (by decide)) (Nat.le_refl _) (Nat.le_refl _) ?_
        refine k_ireturn (ty := .int) dX9_as_68 rfl rfl (Nat.le_refl _) (Nat.le_refl _) ?_
        (refine ⟨?_, ?_⟩ <;> simp only [kT, s_as, sB, sN, sS, sF, sK, ke0, ke1, ke2, ke3, ke4, ke5, if_pos h5, if_pos h15, kcl (show j < 1000 by omega), if_pos h50] <;> rfl)
      · refine al0 (n := 54) dX9_as_53 rfl ?_
        refine cX9_86 (n := 56) dX9_as_54 rfl rfl ?_
        refine qiX9_46 (n := 59) dX9_as_56 rfl rfl (Nat.le_of_ble_eq_true rfl) (by omega) rfl (m_errs 5 _ (by decide) rfl) (Nat.le_refl _) (Nat.le_refl _) ?_
        refine k_goto (n := 68) dX9_as_59 (by decide) ?_
        refine k_ireturn (ty := .int) dX9_as_68 rfl rfl (Nat.le_refl _) (Nat.le_refl _) ?_
        (refine ⟨?_, ?_⟩ <;> simp only [kT, s_as, sB, sN, sS, sF, sK, ke0, ke1, ke2, ke3, ke4, ke5, if_pos h5, if_pos h15, kcl (show j < 1000 by omega), if_neg h50] <;> rfl)
    · refine al0 (n := 19) dX9_as_18 rfl ?_
      refine cX9_45 (n := 21) dX9_as_19 rfl rfl ?_
      refine qiX9_46 (n := 24) dX9_as_21 rfl rfl (Nat.le_of_ble_eq_true rfl) (by omega) rfl (m_errs 1 _ (by decide) rfl) (Nat.le_refl _) (Nat.le_refl _) ?_
      refine k_ireturn (ty := .int) dX9_as_24 rfl rfl (Nat.le_refl _) (Nat.le_refl _) ?_
      (refine ⟨?_, ?_⟩ <;> simp only [kT, s_as, sB, sN, sS, sF, sK, ke0, ke1, ke2, ke3, ke4, ke5, if_pos h5, kcl (show j < 1000 by omega), if_neg h15] <;> rfl)
end M5

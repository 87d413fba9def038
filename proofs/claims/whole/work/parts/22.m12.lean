section M12
variable {E : kE} {d : Nat} {I : Nat → Nat → Int32} {r : Nat → Int32}
def s_judge (I : Nat → Nat → Int32) (r : Nat → Int32) (v : Int32) : sT :=
  if 0 ≤ v ∧ v ≤ 3 then (if I 87 v.toNatClampNeg = 0 then sN r else
    (let n := srF (fun i => ¬ I 89 (40 * v.toNatClampNeg + i) = r (29 + 7 * i + 5)) (min (sMany r) (I 88 v.toNatClampNeg).toNatClampNeg) 0
     if nI n = r 9 then (if nI n = I 88 v.toNatClampNeg then (-1, r, 0) else (nI n, r, 0)) else (nI n, r, 0))) else sB r
set_option maxHeartbeats 2000000 in
set_option maxRecDepth 20000 in
theorem m_judge_l (hd : 1 ≤ d) (a : Nat) (ha : a ≤ 3) (c s : Nat) (hc : r 9 = nI c) (hs : I 88 a = nI s) (h8 : c ≤ 8) (h40 : s ≤ 40) (Q : Option Value → kM → Prop) (hQ : ∀ i, i = srF (fun i => ¬ I 89 (40 * a + i) = r (29 + 7 * i + 5)) (min c s) 0 → Wd E d mX9_judge 0 0 0 0 79 [some (.ref 81), some (.int (nI a)), some (.int (nI i))] [] (kJ (kset I 82 r)) Q) (m : Nat) : ∀ (i : Nat), i + m = min c s → srF (fun i => ¬ I 89 (40 * a + i) = r (29 + 7 * i + 5)) m i = srF (fun i => ¬ I 89 (40 * a + i) = r (29 + 7 * i + 5)) (min c s) 0 → Wd E d mX9_judge 0 0 0 0 32 [some (.ref 81), some (.int (nI a)), some (.int (nI i))] [] (kJ (kset I 82 r)) Q := by
  induction m with
  | zero =>
    intro i hi hr
    refine il2 (n := 33) dX9_judge_32 rfl ?_
    refine al0 (n := 34) dX9_judge_33 rfl ?_
    refine gX9_7 (n := 37) dX9_judge_34 rfl rfl rfl rfl ?_
    refine k_bipush (a := 9) (n := 39) dX9_judge_37 rfl rfl ?_
    refine js_iald (j := 9) (n := 40) dX9_judge_39 rfl rfl rfl (by decide) (by decide) ?_
    refine k_icmp_ge (t := 79) (n := 43) dX9_judge_40 (by decide) rfl (fun h40_1 => ?_) (fun h40_1 => ?_)
    · exact hQ i hr
    · refine il2 (n := 44) dX9_judge_43 rfl ?_
      refine al0 (n := 45) dX9_judge_44 rfl ?_
      refine gX9_28 (n := 48) dX9_judge_45 rfl rfl rfl rfl ?_
      refine il1 (n := 49) dX9_judge_48 rfl ?_
      refine j_iald (j := a) (n := 50) dX9_judge_49 rfl rfl rfl (by omega) (by decide) ?_
      try rw [kset_ne _ _ (show (88 : Nat) ≠ 82 by decide)]
      refine k_icmp_ge (t := 79) (n := 53) dX9_judge_50 (by decide) rfl (fun h50 => ?_) (fun h50 => ?_)
      · exact hQ i hr
      · exfalso
        rcases (show i = c ∨ i = s by omega) with e | e
        · exact h40_1 (by rw [hc, e]; exact Int32.le_refl _)
        · exact h50 (by rw [hs, e]; exact Int32.le_refl _)
  | succ m ih =>
    intro i hi hr
    refine il2 (n := 33) dX9_judge_32 rfl ?_
    refine al0 (n := 34) dX9_judge_33 rfl ?_
    refine gX9_7 (n := 37) dX9_judge_34 rfl rfl rfl rfl ?_
    refine k_bipush (a := 9) (n := 39) dX9_judge_37 rfl rfl ?_
    refine js_iald (j := 9) (n := 40) dX9_judge_39 rfl rfl rfl (by decide) (by decide) ?_
    refine k_icmp_ge (t := 79) (n := 43) dX9_judge_40 (by decide) rfl (fun h40_1 => ?_) (fun h40_1 => ?_)
    · exact absurd h40_1 (by rw [hc]; exact nI_ge (by omega) (by omega))
    · refine il2 (n := 44) dX9_judge_43 rfl ?_
      refine al0 (n := 45) dX9_judge_44 rfl ?_
      refine gX9_28 (n := 48) dX9_judge_45 rfl rfl rfl rfl ?_
      refine il1 (n := 49) dX9_judge_48 rfl ?_
      refine j_iald (j := a) (n := 50) dX9_judge_49 rfl rfl rfl (by omega) (by decide) ?_
      try rw [kset_ne _ _ (show (88 : Nat) ≠ 82 by decide)]
      refine k_icmp_ge (t := 79) (n := 53) dX9_judge_50 (by decide) rfl (fun h50 => ?_) (fun h50 => ?_)
      · exact absurd h50 (by rw [hs]; exact nI_ge (by omega) (by omega))
      · refine al0 (n := 54) dX9_judge_53 rfl ?_
        refine gX9_31 (n := 57) dX9_judge_54 rfl rfl rfl rfl ?_
        refine k_bipush (a := 40) (n := 59) dX9_judge_57 rfl rfl ?_
        refine il1 (n := 60) dX9_judge_59 rfl ?_
        refine k_imul (n := 61) dX9_judge_60 rfl ?_
        refine il2 (n := 62) dX9_judge_61 rfl ?_
        refine k_iadd (n := 63) dX9_judge_62 rfl ?_
        refine j_iald (j := 40 * a + i) (n := 64) dX9_judge_63 rfl rfl (by show nI 40 * nI a + nI i = _; rw [pk_mul, nI_add]) (by omega) (by decide) ?_
        try rw [kset_ne _ _ (show (89 : Nat) ≠ 82 by decide)]
        refine al0 (n := 65) dX9_judge_64 rfl ?_
        refine il2 (n := 66) dX9_judge_65 rfl ?_
        refine k_iconst (a := 5) (n := 67) dX9_judge_66 rfl rfl ?_
        refine qiX9_80 (n := 70) dX9_judge_67 rfl rfl (Nat.le_of_ble_eq_true rfl) (by omega) rfl (m_its i 5 (by omega) (by decide)) (Nat.le_refl _) (Nat.le_refl _) ?_
        refine k_icmp_ne (t := 79) (n := 73) dX9_judge_70 (by decide) rfl (fun h70 => ?_) (fun h70 => ?_)
        · exact hQ i (by rw [← hr]; simp only [srF, if_pos (show ¬ I 89 (40 * a + i) = r (29 + 7 * i + 5) from h70)])
        · refine ii2 (n := 76) dX9_judge_73 rfl (ki1 _) trivial ?_
          rw [nI_1 i]
          refine k_goto (n := 32) dX9_judge_76 (by decide) ?_
          exact ih (i + 1) (by omega) (by have h := hr; simp only [srF, if_neg (show ¬ ¬ I 89 (40 * a + i) = r (29 + 7 * i + 5) from fun h => h h70)] at h; exact h)
set_option maxHeartbeats 2000000 in
set_option maxRecDepth 20000 in
theorem m_judge (hd : 2 ≤ d) (hR : RI r) (hS : SI I) (v : Int32) : Ct E d mX9_judge 0 0 [.ref 81, .int v] (kJ (kset I 82 r)) (kT I (s_judge I r v)) := by
  obtain ⟨⟨c, hc, h8⟩, -⟩ := id hR
  have eM : sMany r = c := by unfold sMany; rw [hc]; exact kcl (by omega)
  refine Ct.of (L := [some (.ref 81), some (.int v), none]) rfl rfl (Nat.le_of_ble_eq_true rfl) ?_
  refine il1 (n := 1) dX9_judge_0 rfl ?_
  refine qiX9_206 (n := 4) dX9_judge_1 rfl rfl (Nat.le_of_ble_eq_true rfl) (by omega) (m_isSheet (by omega) _) (Nat.le_refl _) (Nat.le_refl _) ?_
  refine k_ifb_ne (t := 14) (n := 7) dX9_judge_4 (by decide) rfl (fun h4 => ?_) (fun h4 => ?_)
  · obtain ⟨a, ha0, ha, rfl⟩ := kbt (a := 0) (b := 3) h4 (by decide) (by decide)
    obtain ⟨s, hs, hs40⟩ := hS a (by omega)
    have eS : (I 88 a).toNatClampNeg = s := by rw [hs]; exact kcl (by omega)
    refine al0 (n := 15) dX9_judge_14 rfl ?_
    refine gX9_25 (n := 18) dX9_judge_15 rfl rfl rfl rfl ?_
    refine il1 (n := 19) dX9_judge_18 rfl ?_
    refine j_iald (j := a) (n := 20) dX9_judge_19 rfl rfl rfl (by omega) (by decide) ?_
    try rw [kset_ne _ _ (show (87 : Nat) ≠ 82 by decide)]
    refine k_if_ne (t := 30) (n := 23) dX9_judge_20 (by decide) rfl (fun h20 => ?_) (fun h20 => ?_)
    · refine k_iconst (a := 0) (n := 31) dX9_judge_30 rfl rfl ?_
      refine is2 (n := 32) dX9_judge_31 rfl trivial ?_
      refine m_judge_l (by omega) a ha c s hc hs h8 hs40 _ (fun i hi => ?_) (min c s) 0 (by omega) rfl
      refine il2 (n := 80) dX9_judge_79 rfl ?_
      refine al0 (n := 81) dX9_judge_80 rfl ?_
      refine gX9_7 (n := 84) dX9_judge_81 rfl rfl rfl rfl ?_
      refine k_bipush (a := 9) (n := 86) dX9_judge_84 rfl rfl ?_
      refine js_iald (j := 9) (n := 87) dX9_judge_86 rfl rfl rfl (by decide) (by decide) ?_
      refine k_icmp_ne (t := 104) (n := 90) dX9_judge_87 (by decide) rfl (fun h87 => ?_) (fun h87 => ?_)
      · refine il2 (n := 105) dX9_judge_104 rfl ?_
        refine k_ireturn (ty := .int) dX9_judge_105 rfl rfl (Nat.le_refl _) (Nat.le_refl _) ?_
        (refine ⟨?_, ?_⟩ <;> simp only [kT, s_judge, ke0, if_pos h4, if_neg h20, eM, eS, kcl (show a < 1000 by omega), ← hi, if_neg h87])
      · refine il2 (n := 91) dX9_judge_90 rfl ?_
        refine al0 (n := 92) dX9_judge_91 rfl ?_
        refine gX9_28 (n := 95) dX9_judge_92 rfl rfl rfl rfl ?_
        refine il1 (n := 96) dX9_judge_95 rfl ?_
        refine j_iald (j := a) (n := 97) dX9_judge_96 rfl rfl rfl (by omega) (by decide) ?_
        try rw [kset_ne _ _ (show (88 : Nat) ≠ 82 by decide)]
        refine k_icmp_ne (t := 104) (n := 100) dX9_judge_97 (by decide) rfl (fun h97 => ?_) (fun h97 => ?_)
        · refine il2 (n := 105) dX9_judge_104 rfl ?_
          refine k_ireturn (ty := .int) dX9_judge_105 rfl rfl (Nat.le_refl _) (Nat.le_refl _) ?_
          (refine ⟨?_, ?_⟩ <;> simp only [kT, s_judge, ke0, if_pos h4, if_neg h20, eM, eS, kcl (show a < 1000 by omega), ← hi, if_pos h87, if_neg h97])
        · refine k_iconst (a := (-1)) (n := 101) dX9_judge_100 rfl rfl ?_
          refine k_goto (n := 105) dX9_judge_101 (by decide) ?_
          refine k_ireturn (ty := .int) dX9_judge_105 rfl rfl (Nat.le_refl _) (Nat.le_refl _) ?_
          (refine ⟨?_, ?_⟩ <;> simp only [kT, s_judge, ke0, if_pos h4, if_neg h20, eM, eS, kcl (show a < 1000 by omega), ← hi, if_pos h87, if_pos h97])
    · refine al0 (n := 24) dX9_judge_23 rfl ?_
      refine cX9_199 (n := 26) dX9_judge_24 rfl rfl ?_
      refine qiX9_46 (n := 29) dX9_judge_26 rfl rfl (Nat.le_of_ble_eq_true rfl) (by omega) rfl (m_errs 2 _ (by decide) rfl) (Nat.le_refl _) (Nat.le_refl _) ?_
      refine k_ireturn (ty := .int) dX9_judge_29 rfl rfl (Nat.le_refl _) (Nat.le_refl _) ?_
      (refine ⟨?_, ?_⟩ <;> simp only [kT, s_judge, sB, sN, ke1, ke2, kcl (show a < 1000 by omega), if_pos h4, if_pos h20])
  · refine al0 (n := 8) dX9_judge_7 rfl ?_
    refine cX9_45 (n := 10) dX9_judge_8 rfl rfl ?_
    refine qiX9_46 (n := 13) dX9_judge_10 rfl rfl (Nat.le_of_ble_eq_true rfl) (by omega) rfl (m_errs 1 _ (by decide) rfl) (Nat.le_refl _) (Nat.le_refl _) ?_
    refine k_ireturn (ty := .int) dX9_judge_13 rfl rfl (Nat.le_refl _) (Nat.le_refl _) ?_
    (refine ⟨?_, ?_⟩ <;> simp only [kT, s_judge, sB, sN, ke1, ke2, if_neg h4])
def ldR (I : Nat → Nat → Int32) (r : Nat → Int32) (a : Nat) : Nat → (Nat → Int32)
  | 0 => r
  | i + 1 => upd (ldR I r a i) (29 + 7 * i + 3) (I 89 (40 * a + i))
abbrev ldN (I : Nat → Nat → Int32) (a m i : Nat) : Nat := srF (fun i => ¬ (0 ≤ I 89 (40 * a + i) ∧ I 89 (40 * a + i) ≤ 99)) m i
def s_loads (I : Nat → Nat → Int32) (r : Nat → Int32) (v : Int32) : sT :=
  if 0 ≤ v ∧ v ≤ 3 then (if I 87 v.toNatClampNeg = 0 then sN r else
    (nI (ldN I v.toNatClampNeg (min (sMany r) (I 88 v.toNatClampNeg).toNatClampNeg) 0), ldR I r v.toNatClampNeg (ldN I v.toNatClampNeg (min (sMany r) (I 88 v.toNatClampNeg).toNatClampNeg) 0), 0)) else sB r
theorem ldR_fix (I : Nat → Nat → Int32) (r : Nat → Int32) (a : Nat) {i : Nat} (h : ∀ k, i ≠ 29 + 7 * k + 3) : ∀ n, ldR I r a n i = r i
  | 0 => rfl
  | n + 1 => by rw [ldR, pk_un (h n)]; exact ldR_fix I r a h n
theorem RI_ld {I : Nat → Nat → Int32} {r : Nat → Int32} {a : Nat} (hR : RI r) : ∀ n, n ≤ 8 → RI (ldR I r a n)
  | 0, _ => hR
  | n + 1, h => RI_upd (RI_ld hR n (by omega)) _ (by omega) (fun k hk => by omega)
set_option maxHeartbeats 2000000 in
set_option maxRecDepth 20000 in
theorem m_loads_l (hd : 1 ≤ d) (a : Nat) (ha : a ≤ 3) (c s : Nat) (hc : r 9 = nI c) (hs : I 88 a = nI s) (h8 : c ≤ 8) (h40 : s ≤ 40) (Q : Option Value → kM → Prop) (hQ : ∀ i, i = ldN I a (min c s) 0 → Q (some (.int (nI i))) (kJ (kset I 82 (ldR I r a i)))) (m : Nat) : ∀ (i : Nat), i + m = min c s → ldN I a m i = ldN I a (min c s) 0 → Wd E d mX9_loads 0 0 0 0 32 [some (.ref 81), some (.int (nI a)), some (.int (nI i))] [] (kJ (kset I 82 (ldR I r a i))) Q := by
  induction m with
  | zero =>
    intro i hi hr
    have h9 : ldR I r a i 9 = nI c := (ldR_fix I r a (by omega) i).trans hc
    refine il2 (n := 33) dX9_loads_32 rfl ?_
    refine al0 (n := 34) dX9_loads_33 rfl ?_
    refine gX9_28 (n := 37) dX9_loads_34 rfl rfl rfl rfl ?_
    refine il1 (n := 38) dX9_loads_37 rfl ?_
    refine j_iald (j := a) (n := 39) dX9_loads_38 rfl rfl rfl (by omega) (by decide) ?_
    try rw [kset_ne _ _ (show (88 : Nat) ≠ 82 by decide)]
    refine k_icmp_ge (t := 96) (n := 42) dX9_loads_39 (by decide) rfl (fun h39 => ?_) (fun h39 => ?_)
    · refine il2 (n := 97) dX9_loads_96 rfl ?_
      refine k_ireturn (ty := .int) dX9_loads_97 rfl rfl (Nat.le_refl _) (Nat.le_refl _) ?_
      exact hQ i hr
    · refine il2 (n := 43) dX9_loads_42 rfl ?_
      refine al0 (n := 44) dX9_loads_43 rfl ?_
      refine gX9_7 (n := 47) dX9_loads_44 rfl rfl rfl rfl ?_
      refine k_bipush (a := 9) (n := 49) dX9_loads_47 rfl rfl ?_
      refine js_iald (j := 9) (n := 50) dX9_loads_49 rfl rfl rfl (by decide) (by decide) ?_
      refine k_icmp_ge (t := 96) (n := 53) dX9_loads_50 (by decide) rfl (fun h50 => ?_) (fun h50 => ?_)
      · refine il2 (n := 97) dX9_loads_96 rfl ?_
        refine k_ireturn (ty := .int) dX9_loads_97 rfl rfl (Nat.le_refl _) (Nat.le_refl _) ?_
        exact hQ i hr
      · exfalso
        rcases (show i = c ∨ i = s by omega) with e | e
        · exact h50 (by rw [h9, e]; exact Int32.le_refl _)
        · exact h39 (by rw [hs, e]; exact Int32.le_refl _)
  | succ m ih =>
    intro i hi hr
    have h9 : ldR I r a i 9 = nI c := (ldR_fix I r a (by omega) i).trans hc
    refine il2 (n := 33) dX9_loads_32 rfl ?_
    refine al0 (n := 34) dX9_loads_33 rfl ?_
    refine gX9_28 (n := 37) dX9_loads_34 rfl rfl rfl rfl ?_
    refine il1 (n := 38) dX9_loads_37 rfl ?_
    refine j_iald (j := a) (n := 39) dX9_loads_38 rfl rfl rfl (by omega) (by decide) ?_
    try rw [kset_ne _ _ (show (88 : Nat) ≠ 82 by decide)]
    refine k_icmp_ge (t := 96) (n := 42) dX9_loads_39 (by decide) rfl (fun h39 => ?_) (fun h39 => ?_)
    · exact absurd h39 (by rw [hs]; exact nI_ge (by omega) (by omega))
    · refine il2 (n := 43) dX9_loads_42 rfl ?_
      refine al0 (n := 44) dX9_loads_43 rfl ?_
      refine gX9_7 (n := 47) dX9_loads_44 rfl rfl rfl rfl ?_
      refine k_bipush (a := 9) (n := 49) dX9_loads_47 rfl rfl ?_
      refine js_iald (j := 9) (n := 50) dX9_loads_49 rfl rfl rfl (by decide) (by decide) ?_
      refine k_icmp_ge (t := 96) (n := 53) dX9_loads_50 (by decide) rfl (fun h50 => ?_) (fun h50 => ?_)
      · exact absurd h50 (by rw [h9]; exact nI_ge (by omega) (by omega))
      · refine al0 (n := 54) dX9_loads_53 rfl ?_
        refine gX9_31 (n := 57) dX9_loads_54 rfl rfl rfl rfl ?_
        refine k_bipush (a := 40) (n := 59) dX9_loads_57 rfl rfl ?_
        refine il1 (n := 60) dX9_loads_59 rfl ?_
        refine k_imul (n := 61) dX9_loads_60 rfl ?_
        refine il2 (n := 62) dX9_loads_61 rfl ?_
        refine k_iadd (n := 63) dX9_loads_62 rfl ?_
        refine j_iald (j := 40 * a + i) (n := 64) dX9_loads_63 rfl rfl (by show nI 40 * nI a + nI i = _; rw [pk_mul, nI_add]) (by omega) (by decide) ?_
        try rw [kset_ne _ _ (show (89 : Nat) ≠ 82 by decide)]
        refine k_iconst (a := 0) (n := 65) dX9_loads_64 rfl rfl ?_
        refine k_bipush (a := 99) (n := 67) dX9_loads_65 rfl rfl ?_
        refine qiX9_41 (n := 70) dX9_loads_67 rfl rfl (Nat.le_of_ble_eq_true rfl) (by omega) (m_in _ _ _) (Nat.le_refl _) (Nat.le_refl _) ?_
        refine k_ifb_eq (t := 96) (n := 73) dX9_loads_70 (by decide) rfl (fun h70 => ?_) (fun h70 => ?_)
        · refine il2 (n := 97) dX9_loads_96 rfl ?_
          refine k_ireturn (ty := .int) dX9_loads_97 rfl rfl (Nat.le_refl _) (Nat.le_refl _) ?_
          exact hQ i (by rw [← hr]; simp only [ldN, srF, if_pos h70])
        · refine al0 (n := 74) dX9_loads_73 rfl ?_
          refine il2 (n := 75) dX9_loads_74 rfl ?_
          refine k_iconst (a := 3) (n := 76) dX9_loads_75 rfl rfl ?_
          refine al0 (n := 77) dX9_loads_76 rfl ?_
          refine gX9_31 (n := 80) dX9_loads_77 rfl rfl rfl rfl ?_
          refine k_bipush (a := 40) (n := 82) dX9_loads_80 rfl rfl ?_
          refine il1 (n := 83) dX9_loads_82 rfl ?_
          refine k_imul (n := 84) dX9_loads_83 rfl ?_
          refine il2 (n := 85) dX9_loads_84 rfl ?_
          refine k_iadd (n := 86) dX9_loads_85 rfl ?_
          refine j_iald (j := 40 * a + i) (n := 87) dX9_loads_86 rfl rfl (by show nI 40 * nI a + nI i = _; rw [pk_mul, nI_add]) (by omega) (by decide) ?_
          try rw [kset_ne _ _ (show (89 : Nat) ≠ 82 by decide)]
          refine qiX9_63 (n := 90) dX9_loads_87 rfl rfl (Nat.le_of_ble_eq_true rfl) (by omega) rfl (m_gets i 3 _ (by omega) (by decide)) (Nat.le_refl _) (Nat.le_refl _) ?_
          refine ii2 (n := 93) dX9_loads_90 rfl (ki1 _) trivial ?_
          rw [nI_1 i]
          refine k_goto (n := 32) dX9_loads_93 (by decide) ?_
          exact ih (i + 1) (by omega) (by have h := hr; simp only [ldN, srF, if_neg (show ¬ ¬ (0 ≤ I 89 (40 * a + i) ∧ I 89 (40 * a + i) ≤ 99) from fun h => h h70)] at h; exact h)
set_option maxHeartbeats 2000000 in
set_option maxRecDepth 20000 in
theorem m_loads (hd : 2 ≤ d) (hR : RI r) (hS : SI I) (v : Int32) : Ct E d mX9_loads 0 0 [.ref 81, .int v] (kJ (kset I 82 r)) (kT I (s_loads I r v)) := by
  obtain ⟨⟨c, hc, h8⟩, -⟩ := id hR
  have eM : sMany r = c := by unfold sMany; rw [hc]; exact kcl (by omega)
  refine Ct.of (L := [some (.ref 81), some (.int v), none]) rfl rfl (Nat.le_of_ble_eq_true rfl) ?_
  refine il1 (n := 1) dX9_loads_0 rfl ?_
  refine qiX9_206 (n := 4) dX9_loads_1 rfl rfl (Nat.le_of_ble_eq_true rfl) (by omega) (m_isSheet (by omega) _) (Nat.le_refl _) (Nat.le_refl _) ?_
  refine k_ifb_ne (t := 14) (n := 7) dX9_loads_4 (by decide) rfl (fun h4 => ?_) (fun h4 => ?_)
  · obtain ⟨a, ha0, ha, rfl⟩ := kbt (a := 0) (b := 3) h4 (by decide) (by decide)
    obtain ⟨s, hs, hs40⟩ := hS a (by omega)
    have eS : (I 88 a).toNatClampNeg = s := by rw [hs]; exact kcl (by omega)
    refine al0 (n := 15) dX9_loads_14 rfl ?_
    refine gX9_25 (n := 18) dX9_loads_15 rfl rfl rfl rfl ?_
    refine il1 (n := 19) dX9_loads_18 rfl ?_
    refine j_iald (j := a) (n := 20) dX9_loads_19 rfl rfl rfl (by omega) (by decide) ?_
    try rw [kset_ne _ _ (show (87 : Nat) ≠ 82 by decide)]
    refine k_if_ne (t := 30) (n := 23) dX9_loads_20 (by decide) rfl (fun h20 => ?_) (fun h20 => ?_)
    · refine k_iconst (a := 0) (n := 31) dX9_loads_30 rfl rfl ?_
      refine is2 (n := 32) dX9_loads_31 rfl trivial ?_
      refine m_loads_l (by omega) a ha c s hc hs h8 hs40 _ (fun i hi => ?_) (min c s) 0 (by omega) rfl
      exact ⟨by simp only [s_loads, if_pos h4, if_neg h20, eM, eS, kcl (show a < 1000 by omega), ← hi], by simp only [s_loads, if_pos h4, if_neg h20, ke0, eM, eS, kcl (show a < 1000 by omega), ← hi]⟩
    · refine al0 (n := 24) dX9_loads_23 rfl ?_
      refine cX9_199 (n := 26) dX9_loads_24 rfl rfl ?_
      refine qiX9_46 (n := 29) dX9_loads_26 rfl rfl (Nat.le_of_ble_eq_true rfl) (by omega) rfl (m_errs 2 _ (by decide) rfl) (Nat.le_refl _) (Nat.le_refl _) ?_
      refine k_ireturn (ty := .int) dX9_loads_29 rfl rfl (Nat.le_refl _) (Nat.le_refl _) ?_
      (refine ⟨?_, ?_⟩ <;> simp only [kT, s_loads, sB, sN, ke1, ke2, kcl (show a < 1000 by omega), if_pos h4, if_pos h20])
  · refine al0 (n := 8) dX9_loads_7 rfl ?_
    refine cX9_45 (n := 10) dX9_loads_8 rfl rfl ?_
    refine qiX9_46 (n := 13) dX9_loads_10 rfl rfl (Nat.le_of_ble_eq_true rfl) (by omega) rfl (m_errs 1 _ (by decide) rfl) (Nat.le_refl _) (Nat.le_refl _) ?_
    refine k_ireturn (ty := .int) dX9_loads_13 rfl rfl (Nat.le_refl _) (Nat.le_refl _) ?_
    (refine ⟨?_, ?_⟩ <;> simp only [kT, s_loads, sB, sN, ke1, ke2, if_neg h4])
def s_law (r : Nat → Int32) (v a b c : Int32) : sT := if 0 ≤ v ∧ v ≤ 1 then (lawF r v.toNatClampNeg a b c, r, 0) else sB r
set_option maxHeartbeats 2000000 in
set_option maxRecDepth 20000 in
theorem m_law (hd : 66 ≤ d) (hR : RI r) (v a b c : Int32) : Ct E d mX9_law 0 0 [.ref 81, .int v, .int a, .int b, .int c] (kJ (kset I 82 r)) (kU I (s_law r v a b c)) := by
  refine Ct.of (L := [some (.ref 81), some (.int v), some (.int a), some (.int b), some (.int c)]) rfl rfl (Nat.le_of_ble_eq_true rfl) ?_
  refine il1 (n := 1) dX9_law_0 rfl ?_
  refine k_iconst (a := 0) (n := 2) dX9_law_1 rfl rfl ?_
  refine k_iconst (a := 1) (n := 3) dX9_law_2 rfl rfl ?_
  refine qiX9_41 (n := 6) dX9_law_3 rfl rfl (Nat.le_of_ble_eq_true rfl) (by omega) (m_in _ _ _) (Nat.le_refl _) (Nat.le_refl _) ?_
  refine k_ifb_eq (t := 21) (n := 9) dX9_law_6 (by decide) rfl (fun h6 => ?_) (fun h6 => ?_)
  · refine al0 (n := 22) dX9_law_21 rfl ?_
    refine cX9_45 (n := 24) dX9_law_22 rfl rfl ?_
    refine qiX9_46 (n := 27) dX9_law_24 rfl rfl (Nat.le_of_ble_eq_true rfl) (by omega) rfl (m_errs 1 _ (by decide) rfl) (Nat.le_refl _) (Nat.le_refl _) ?_
    refine k_ireturn (ty := .int) dX9_law_27 rfl rfl (Nat.le_refl _) (Nat.le_refl _) ?_
    first | exact ⟨J1, by simp only [s_law, sB, sN, sS, sF, if_neg h6], by simp only [s_law, sB, sN, sS, sF, ke0, ke1, ke2, ke3, ke4, if_neg h6], hJ1.up⟩ | exact ⟨I, by simp only [s_law, sB, sN, sS, sF, if_neg h6], by simp only [s_law, sB, sN, sS, sF, ke0, ke1, ke2, ke3, ke4, if_neg h6], kJnk.rf I⟩
  · obtain ⟨u, hu0, hu, rfl⟩ := kbt (a := 0) (b := 1) h6 (by decide) (by decide)
    refine al0 (n := 10) dX9_law_9 rfl ?_
    refine il1 (n := 11) dX9_law_10 rfl ?_
    refine il2 (n := 12) dX9_law_11 rfl ?_
    refine il3 (n := 13) dX9_law_12 rfl ?_
    refine il4 (n := 15) dX9_law_13 rfl ?_
    refine qX9_158 (n := 18) dX9_law_15 rfl rfl (Nat.le_of_ble_eq_true rfl) (by omega) (Nat.le_refl _) (Nat.le_refl _) rfl (m_lawOf (by omega) hR u (by omega) _ _ _) ?_
    rintro _ _ ⟨J1, rfl, rfl, hJ1⟩
    dsimp only [Option.toList, List.cons_append, List.nil_append, Nat.add_zero]
    refine k_goto (n := 27) dX9_law_18 (by decide) ?_
    refine k_ireturn (ty := .int) dX9_law_27 rfl rfl (Nat.le_refl _) (Nat.le_refl _) ?_
    first | exact ⟨J1, by simp only [s_law, sB, sN, sS, sF, if_pos h6, kcl (show u < 1000 by omega)], by simp only [s_law, sB, sN, sS, sF, ke0, ke1, ke2, ke3, ke4, if_pos h6, kcl (show u < 1000 by omega)], hJ1.up⟩ | exact ⟨I, by simp only [s_law, sB, sN, sS, sF, if_pos h6, kcl (show u < 1000 by omega)], by simp only [s_law, sB, sN, sS, sF, ke0, ke1, ke2, ke3, ke4, if_pos h6, kcl (show u < 1000 by omega)], kJnk.rf I⟩
def s_ofCrosser (r : Nat → Int32) (v q : Int32) : sT := if 0 ≤ v ∧ v ≤ r 9 - 1 then if 0 ≤ q ∧ q ≤ 9 then (if q = 7 then (needF r v.toNatClampNeg, r, 0) else if q = 8 then (wearF r v.toNatClampNeg, r, 0) else if q = 9 then (if (r 12 >>> (v &&& 31)) &&& 1 = 1 then (1, r, 0) else (0, r, 0)) else (r (29 + 7 * v.toNatClampNeg + q.toNatClampNeg), r, 0)) else sB r else sB r
set_option maxHeartbeats 2000000 in
set_option maxRecDepth 20000 in
theorem m_ofCrosser (hd : 66 ≤ d) (hR : RI r) (v q : Int32) : Ct E d mX9_ofCrosser 0 0 [.ref 81, .int v, .int q] (kJ (kset I 82 r)) (kU I (s_ofCrosser r v q)) := by
  refine Ct.of (L := [some (.ref 81), some (.int v), some (.int q)]) rfl rfl (Nat.le_of_ble_eq_true rfl) ?_
  refine al0 (n := 1) dX9_ofCrosser_0 rfl ?_
  refine il1 (n := 2) dX9_ofCrosser_1 rfl ?_
  refine qiX9_67 (n := 5) dX9_ofCrosser_2 rfl rfl (Nat.le_of_ble_eq_true rfl) (by omega) rfl (m_isCrosser (by omega) _) (Nat.le_refl _) (Nat.le_refl _) ?_
  refine k_ifb_eq (t := 18) (n := 8) dX9_ofCrosser_5 (by decide) rfl (fun h5 => ?_) (fun h5 => ?_)
  · refine al0 (n := 19) dX9_ofCrosser_18 rfl ?_
    refine cX9_45 (n := 21) dX9_ofCrosser_19 rfl rfl ?_
    refine qiX9_46 (n := 24) dX9_ofCrosser_21 rfl rfl (Nat.le_of_ble_eq_true rfl) (by omega) rfl (m_errs 1 _ (by decide) rfl) (Nat.le_refl _) (Nat.le_refl _) ?_
    refine k_ireturn (ty := .int) dX9_ofCrosser_24 rfl rfl (Nat.le_refl _) (Nat.le_refl _) ?_
    first | exact ⟨J1, by simp only [s_ofCrosser, sB, sN, sS, sF, if_neg h5], by simp only [s_ofCrosser, sB, sN, sS, sF, ke0, ke1, ke2, ke3, ke4, if_neg h5], hJ1.up⟩ | exact ⟨I, by simp only [s_ofCrosser, sB, sN, sS, sF, if_neg h5], by simp only [s_ofCrosser, sB, sN, sS, sF, ke0, ke1, ke2, ke3, ke4, if_neg h5], kJnk.rf I⟩
  · obtain ⟨j, hj, rfl⟩ := kixC hR h5
    refine il2 (n := 9) dX9_ofCrosser_8 rfl ?_
    refine k_iconst (a := 0) (n := 10) dX9_ofCrosser_9 rfl rfl ?_
    refine k_bipush (a := 9) (n := 12) dX9_ofCrosser_10 rfl rfl ?_
    refine qiX9_41 (n := 15) dX9_ofCrosser_12 rfl rfl (Nat.le_of_ble_eq_true rfl) (by omega) (m_in _ _ _) (Nat.le_refl _) (Nat.le_refl _) ?_
    refine k_ifb_ne (t := 25) (n := 18) dX9_ofCrosser_15 (by decide) rfl (fun h15 => ?_) (fun h15 => ?_)
    · obtain ⟨c, hc0, hc, rfl⟩ := kbt (a := 0) (b := 9) h15 (by decide) (by decide)
      refine il2 (n := 26) dX9_ofCrosser_25 rfl ?_
      rcases (show c = 0 ∨ c = 1 ∨ c = 2 ∨ c = 3 ∨ c = 4 ∨ c = 5 ∨ c = 6 ∨ c = 7 ∨ c = 8 ∨ c = 9 by omega) with rfl | rfl | rfl | rfl | rfl | rfl | rfl | rfl | rfl | rfl
      · refine k_swOut (t := 84) dX9_ofCrosser_26 (Or.inl (by decide)) (by decide) ?_
        refine al0 (n := 85) dX9_ofCrosser_84 rfl ?_
        refine il1 (n := 86) dX9_ofCrosser_85 rfl ?_
        refine il2 (n := 87) dX9_ofCrosser_86 rfl ?_
        refine qiX9_80 (n := 90) dX9_ofCrosser_87 rfl rfl (Nat.le_of_ble_eq_true rfl) (by omega) rfl (m_its j _ hj (by decide)) (Nat.le_refl _) (Nat.le_refl _) ?_
        refine k_ireturn (ty := .int) dX9_ofCrosser_90 rfl rfl (Nat.le_refl _) (Nat.le_refl _) ?_
        first | exact ⟨J1, by simp only [s_ofCrosser, sB, sN, sS, sF, if_pos h5, kcl (show j < 1000 by omega), if_pos h15, kcl (show (0 : Nat) < 1000 by decide), if_neg (show ¬ nI 0 = 7 by decide), if_neg (show ¬ nI 0 = 8 by decide), if_neg (show ¬ nI 0 = 9 by decide)], by simp only [s_ofCrosser, sB, sN, sS, sF, ke0, ke1, ke2, ke3, ke4, if_pos h5, kcl (show j < 1000 by omega), if_pos h15, kcl (show (0 : Nat) < 1000 by decide), if_neg (show ¬ nI 0 = 7 by decide), if_neg (show ¬ nI 0 = 8 by decide), if_neg (show ¬ nI 0 = 9 by decide)], hJ1.up⟩ | exact ⟨I, by simp only [s_ofCrosser, sB, sN, sS, sF, if_pos h5, kcl (show j < 1000 by omega), if_pos h15, kcl (show (0 : Nat) < 1000 by decide), if_neg (show ¬ nI 0 = 7 by decide), if_neg (show ¬ nI 0 = 8 by decide), if_neg (show ¬ nI 0 = 9 by decide)], by simp only [s_ofCrosser, sB, sN, sS, sF, ke0, ke1, ke2, ke3, ke4, if_pos h5, kcl (show j < 1000 by omega), if_pos h15, kcl (show (0 : Nat) < 1000 by decide), if_neg (show ¬ nI 0 = 7 by decide), if_neg (show ¬ nI 0 = 8 by decide), if_neg (show ¬ nI 0 = 9 by decide)], kJnk.rf I⟩
      · refine k_swOut (t := 84) dX9_ofCrosser_26 (Or.inl (by decide)) (by decide) ?_
        refine al0 (n := 85) dX9_ofCrosser_84 rfl ?_
        refine il1 (n := 86) dX9_ofCrosser_85 rfl ?_
        refine il2 (n := 87) dX9_ofCrosser_86 rfl ?_
        refine qiX9_80 (n := 90) dX9_ofCrosser_87 rfl rfl (Nat.le_of_ble_eq_true rfl) (by omega) rfl (m_its j _ hj (by decide)) (Nat.le_refl _) (Nat.le_refl _) ?_
        refine k_ireturn (ty := .int) dX9_ofCrosser_90 rfl rfl (Nat.le_refl _) (Nat.le_refl _) ?_
        first | exact ⟨J1, by simp only [s_ofCrosser, sB, sN, sS, sF, if_pos h5, kcl (show j < 1000 by omega), if_pos h15, kcl (show (1 : Nat) < 1000 by decide), if_neg (show ¬ nI 1 = 7 by decide), if_neg (show ¬ nI 1 = 8 by decide), if_neg (show ¬ nI 1 = 9 by decide)], by simp only [s_ofCrosser, sB, sN, sS, sF, ke0, ke1, ke2, ke3, ke4, if_pos h5, kcl (show j < 1000 by omega), if_pos h15, kcl (show (1 : Nat) < 1000 by decide), if_neg (show ¬ nI 1 = 7 by decide), if_neg (show ¬ nI 1 = 8 by decide), if_neg (show ¬ nI 1 = 9 by decide)], hJ1.up⟩ | exact ⟨I, by simp only [s_ofCrosser, sB, sN, sS, sF, if_pos h5, kcl (show j < 1000 by omega), if_pos h15, kcl (show (1 : Nat) < 1000 by decide), if_neg (show ¬ nI 1 = 7 by decide), if_neg (show ¬ nI 1 = 8 by decide), if_neg (show ¬ nI 1 = 9 by decide)], by simp only [s_ofCrosser, sB, sN, sS, sF, ke0, ke1, ke2, ke3, ke4, if_pos h5, kcl (show j < 1000 by omega), if_pos h15, kcl (show (1 : Nat) < 1000 by decide), if_neg (show ¬ nI 1 = 7 by decide), if_neg (show ¬ nI 1 = 8 by decide), if_neg (show ¬ nI 1 = 9 by decide)], kJnk.rf I⟩
      · refine k_swOut (t := 84) dX9_ofCrosser_26 (Or.inl (by decide)) (by decide) ?_
        refine al0 (n := 85) dX9_ofCrosser_84 rfl ?_
        refine il1 (n := 86) dX9_ofCrosser_85 rfl ?_
        refine il2 (n := 87) dX9_ofCrosser_86 rfl ?_
        refine qiX9_80 (n := 90) dX9_ofCrosser_87 rfl rfl (Nat.le_of_ble_eq_true rfl) (by omega) rfl (m_its j _ hj (by decide)) (Nat.le_refl _) (Nat.le_refl _) ?_
        refine k_ireturn (ty := .int) dX9_ofCrosser_90 rfl rfl (Nat.le_refl _) (Nat.le_refl _) ?_
        first | exact ⟨J1, by simp only [s_ofCrosser, sB, sN, sS, sF, if_pos h5, kcl (show j < 1000 by omega), if_pos h15, kcl (show (2 : Nat) < 1000 by decide), if_neg (show ¬ nI 2 = 7 by decide), if_neg (show ¬ nI 2 = 8 by decide), if_neg (show ¬ nI 2 = 9 by decide)], by simp only [s_ofCrosser, sB, sN, sS, sF, ke0, ke1, ke2, ke3, ke4, if_pos h5, kcl (show j < 1000 by omega), if_pos h15, kcl (show (2 : Nat) < 1000 by decide), if_neg (show ¬ nI 2 = 7 by decide), if_neg (show ¬ nI 2 = 8 by decide), if_neg (show ¬ nI 2 = 9 by decide)], hJ1.up⟩ | exact ⟨I, by simp only [s_ofCrosser, sB, sN, sS, sF, if_pos h5, kcl (show j < 1000 by omega), if_pos h15, kcl (show (2 : Nat) < 1000 by decide), if_neg (show ¬ nI 2 = 7 by decide), if_neg (show ¬ nI 2 = 8 by decide), if_neg (show ¬ nI 2 = 9 by decide)], by simp only [s_ofCrosser, sB, sN, sS, sF, ke0, ke1, ke2, ke3, ke4, if_pos h5, kcl (show j < 1000 by omega), if_pos h15, kcl (show (2 : Nat) < 1000 by decide), if_neg (show ¬ nI 2 = 7 by decide), if_neg (show ¬ nI 2 = 8 by decide), if_neg (show ¬ nI 2 = 9 by decide)], kJnk.rf I⟩
      · refine k_swOut (t := 84) dX9_ofCrosser_26 (Or.inl (by decide)) (by decide) ?_
        refine al0 (n := 85) dX9_ofCrosser_84 rfl ?_
        refine il1 (n := 86) dX9_ofCrosser_85 rfl ?_
        refine il2 (n := 87) dX9_ofCrosser_86 rfl ?_
        refine qiX9_80 (n := 90) dX9_ofCrosser_87 rfl rfl (Nat.le_of_ble_eq_true rfl) (by omega) rfl (m_its j _ hj (by decide)) (Nat.le_refl _) (Nat.le_refl _) ?_
        refine k_ireturn (ty := .int) dX9_ofCrosser_90 rfl rfl (Nat.le_refl _) (Nat.le_refl _) ?_
        first | exact ⟨J1, by simp only [s_ofCrosser, sB, sN, sS, sF, if_pos h5, kcl (show j < 1000 by omega), if_pos h15, kcl (show (3 : Nat) < 1000 by decide), if_neg (show ¬ nI 3 = 7 by decide), if_neg (show ¬ nI 3 = 8 by decide), if_neg (show ¬ nI 3 = 9 by decide)], by simp only [s_ofCrosser, sB, sN, sS, sF, ke0, ke1, ke2, ke3, ke4, if_pos h5, kcl (show j < 1000 by omega), if_pos h15, kcl (show (3 : Nat) < 1000 by decide), if_neg (show ¬ nI 3 = 7 by decide), if_neg (show ¬ nI 3 = 8 by decide), if_neg (show ¬ nI 3 = 9 by decide)], hJ1.up⟩ | exact ⟨I, by simp only [s_ofCrosser, sB, sN, sS, sF, if_pos h5, kcl (show j < 1000 by omega), if_pos h15, kcl (show (3 : Nat) < 1000 by decide), if_neg (show ¬ nI 3 = 7 by decide), if_neg (show ¬ nI 3 = 8 by decide), if_neg (show ¬ nI 3 = 9 by decide)], by simp only [s_ofCrosser, sB, sN, sS, sF, ke0, ke1, ke2, ke3, ke4, if_pos h5, kcl (show j < 1000 by omega), if_pos h15, kcl (show (3 : Nat) < 1000 by decide), if_neg (show ¬ nI 3 = 7 by decide), if_neg (show ¬ nI 3 = 8 by decide), if_neg (show ¬ nI 3 = 9 by decide)], kJnk.rf I⟩
      · refine k_swOut (t := 84) dX9_ofCrosser_26 (Or.inl (by decide)) (by decide) ?_
        refine al0 (n := 85) dX9_ofCrosser_84 rfl ?_
        refine il1 (n := 86) dX9_ofCrosser_85 rfl ?_
        refine il2 (n := 87) dX9_ofCrosser_86 rfl ?_
        refine qiX9_80 (n := 90) dX9_ofCrosser_87 rfl rfl (Nat.le_of_ble_eq_true rfl) (by omega) rfl (m_its j _ hj (by decide)) (Nat.le_refl _) (Nat.le_refl _) ?_
        refine k_ireturn (ty := .int) dX9_ofCrosser_90 rfl rfl (Nat.le_refl _) (Nat.le_refl _) ?_
        first | exact ⟨J1, by simp only [s_ofCrosser, sB, sN, sS, sF, if_pos h5, kcl (show j < 1000 by omega), if_pos h15, kcl (show (4 : Nat) < 1000 by decide), if_neg (show ¬ nI 4 = 7 by decide), if_neg (show ¬ nI 4 = 8 by decide), if_neg (show ¬ nI 4 = 9 by decide)], by simp only [s_ofCrosser, sB, sN, sS, sF, ke0, ke1, ke2, ke3, ke4, if_pos h5, kcl (show j < 1000 by omega), if_pos h15, kcl (show (4 : Nat) < 1000 by decide), if_neg (show ¬ nI 4 = 7 by decide), if_neg (show ¬ nI 4 = 8 by decide), if_neg (show ¬ nI 4 = 9 by decide)], hJ1.up⟩ | exact ⟨I, by simp only [s_ofCrosser, sB, sN, sS, sF, if_pos h5, kcl (show j < 1000 by omega), if_pos h15, kcl (show (4 : Nat) < 1000 by decide), if_neg (show ¬ nI 4 = 7 by decide), if_neg (show ¬ nI 4 = 8 by decide), if_neg (show ¬ nI 4 = 9 by decide)], by simp only [s_ofCrosser, sB, sN, sS, sF, ke0, ke1, ke2, ke3, ke4, if_pos h5, kcl (show j < 1000 by omega), if_pos h15, kcl (show (4 : Nat) < 1000 by decide), if_neg (show ¬ nI 4 = 7 by decide), if_neg (show ¬ nI 4 = 8 by decide), if_neg (show ¬ nI 4 = 9 by decide)], kJnk.rf I⟩
      · refine k_swOut (t := 84) dX9_ofCrosser_26 (Or.inl (by decide)) (by decide) ?_
        refine al0 (n := 85) dX9_ofCrosser_84 rfl ?_
        refine il1 (n := 86) dX9_ofCrosser_85 rfl ?_
        refine il2 (n := 87) dX9_ofCrosser_86 rfl ?_
        refine qiX9_80 (n := 90) dX9_ofCrosser_87 rfl rfl (Nat.le_of_ble_eq_true rfl) (by omega) rfl (m_its j _ hj (by decide)) (Nat.le_refl _) (Nat.le_refl _) ?_
        refine k_ireturn (ty := .int) dX9_ofCrosser_90 rfl rfl (Nat.le_refl _) (Nat.le_refl _) ?_
        first | exact ⟨J1, by simp only [s_ofCrosser, sB, sN, sS, sF, if_pos h5, kcl (show j < 1000 by omega), if_pos h15, kcl (show (5 : Nat) < 1000 by decide), if_neg (show ¬ nI 5 = 7 by decide), if_neg (show ¬ nI 5 = 8 by decide), if_neg (show ¬ nI 5 = 9 by decide)], by simp only [s_ofCrosser, sB, sN, sS, sF, ke0, ke1, ke2, ke3, ke4, if_pos h5, kcl (show j < 1000 by omega), if_pos h15, kcl (show (5 : Nat) < 1000 by decide), if_neg (show ¬ nI 5 = 7 by decide), if_neg (show ¬ nI 5 = 8 by decide), if_neg (show ¬ nI 5 = 9 by decide)], hJ1.up⟩ | exact ⟨I, by simp only [s_ofCrosser, sB, sN, sS, sF, if_pos h5, kcl (show j < 1000 by omega), if_pos h15, kcl (show (5 : Nat) < 1000 by decide), if_neg (show ¬ nI 5 = 7 by decide), if_neg (show ¬ nI 5 = 8 by decide), if_neg (show ¬ nI 5 = 9 by decide)], by simp only [s_ofCrosser, sB, sN, sS, sF, ke0, ke1, ke2, ke3, ke4, if_pos h5, kcl (show j < 1000 by omega), if_pos h15, kcl (show (5 : Nat) < 1000 by decide), if_neg (show ¬ nI 5 = 7 by decide), if_neg (show ¬ nI 5 = 8 by decide), if_neg (show ¬ nI 5 = 9 by decide)], kJnk.rf I⟩
      · refine k_swOut (t := 84) dX9_ofCrosser_26 (Or.inl (by decide)) (by decide) ?_
        refine al0 (n := 85) dX9_ofCrosser_84 rfl ?_
        refine il1 (n := 86) dX9_ofCrosser_85 rfl ?_
        refine il2 (n := 87) dX9_ofCrosser_86 rfl ?_
        refine qiX9_80 (n := 90) dX9_ofCrosser_87 rfl rfl (Nat.le_of_ble_eq_true rfl) (by omega) rfl (m_its j _ hj (by decide)) (Nat.le_refl _) (Nat.le_refl _) ?_
        refine k_ireturn (ty := .int) dX9_ofCrosser_90 rfl rfl (Nat.le_refl _) (Nat.le_refl _) ?_
        first | exact ⟨J1, by simp only [s_ofCrosser, sB, sN, sS, sF, if_pos h5, kcl (show j < 1000 by omega), if_pos h15, kcl (show (6 : Nat) < 1000 by decide), if_neg (show ¬ nI 6 = 7 by decide), if_neg (show ¬ nI 6 = 8 by decide), if_neg (show ¬ nI 6 = 9 by decide)], by simp only [s_ofCrosser, sB, sN, sS, sF, ke0, ke1, ke2, ke3, ke4, if_pos h5, kcl (show j < 1000 by omega), if_pos h15, kcl (show (6 : Nat) < 1000 by decide), if_neg (show ¬ nI 6 = 7 by decide), if_neg (show ¬ nI 6 = 8 by decide), if_neg (show ¬ nI 6 = 9 by decide)], hJ1.up⟩ | exact ⟨I, by simp only [s_ofCrosser, sB, sN, sS, sF, if_pos h5, kcl (show j < 1000 by omega), if_pos h15, kcl (show (6 : Nat) < 1000 by decide), if_neg (show ¬ nI 6 = 7 by decide), if_neg (show ¬ nI 6 = 8 by decide), if_neg (show ¬ nI 6 = 9 by decide)], by simp only [s_ofCrosser, sB, sN, sS, sF, ke0, ke1, ke2, ke3, ke4, if_pos h5, kcl (show j < 1000 by omega), if_pos h15, kcl (show (6 : Nat) < 1000 by decide), if_neg (show ¬ nI 6 = 7 by decide), if_neg (show ¬ nI 6 = 8 by decide), if_neg (show ¬ nI 6 = 9 by decide)], kJnk.rf I⟩
      · refine k_swIn (t := 52) (off := 26) dX9_ofCrosser_26 (by decide) (by decide) (by decide) (by decide) ?_
        refine al0 (n := 53) dX9_ofCrosser_52 rfl ?_
        refine il1 (n := 54) dX9_ofCrosser_53 rfl ?_
        refine qX9_70 (n := 57) dX9_ofCrosser_54 rfl rfl (Nat.le_of_ble_eq_true rfl) (by omega) (Nat.le_refl _) (Nat.le_refl _) rfl (m_needs (by omega) hR j hj) ?_
        rintro _ _ ⟨J1, rfl, rfl, hJ1⟩
        dsimp only [Option.toList, List.cons_append, List.nil_append, Nat.add_zero]
        refine k_ireturn (ty := .int) dX9_ofCrosser_57 rfl rfl (Nat.le_refl _) (Nat.le_refl _) ?_
        first | exact ⟨J1, by simp only [s_ofCrosser, sB, sN, sS, sF, if_pos h5, kcl (show j < 1000 by omega), if_pos h15, kcl (show (7 : Nat) < 1000 by decide), if_pos (show nI 7 = 7 from rfl), if_neg (show ¬ nI 7 = 8 by decide), if_neg (show ¬ nI 7 = 9 by decide)], by simp only [s_ofCrosser, sB, sN, sS, sF, ke0, ke1, ke2, ke3, ke4, if_pos h5, kcl (show j < 1000 by omega), if_pos h15, kcl (show (7 : Nat) < 1000 by decide), if_pos (show nI 7 = 7 from rfl), if_neg (show ¬ nI 7 = 8 by decide), if_neg (show ¬ nI 7 = 9 by decide)], hJ1.up⟩ | exact ⟨I, by simp only [s_ofCrosser, sB, sN, sS, sF, if_pos h5, kcl (show j < 1000 by omega), if_pos h15, kcl (show (7 : Nat) < 1000 by decide), if_pos (show nI 7 = 7 from rfl), if_neg (show ¬ nI 7 = 8 by decide), if_neg (show ¬ nI 7 = 9 by decide)], by simp only [s_ofCrosser, sB, sN, sS, sF, ke0, ke1, ke2, ke3, ke4, if_pos h5, kcl (show j < 1000 by omega), if_pos h15, kcl (show (7 : Nat) < 1000 by decide), if_pos (show nI 7 = 7 from rfl), if_neg (show ¬ nI 7 = 8 by decide), if_neg (show ¬ nI 7 = 9 by decide)], kJnk.rf I⟩
      · refine k_swIn (t := 58) (off := 32) dX9_ofCrosser_26 (by decide) (by decide) (by decide) (by decide) ?_
        refine al0 (n := 59) dX9_ofCrosser_58 rfl ?_
        refine il1 (n := 60) dX9_ofCrosser_59 rfl ?_
        refine qiX9_73 (n := 63) dX9_ofCrosser_60 rfl rfl (Nat.le_of_ble_eq_true rfl) (by omega) rfl (m_wears (by omega) hR j hj) (Nat.le_refl _) (Nat.le_refl _) ?_
        refine k_ireturn (ty := .int) dX9_ofCrosser_63 rfl rfl (Nat.le_refl _) (Nat.le_refl _) ?_
        first | exact ⟨J1, by simp only [s_ofCrosser, sB, sN, sS, sF, if_pos h5, kcl (show j < 1000 by omega), if_pos h15, kcl (show (8 : Nat) < 1000 by decide), if_neg (show ¬ nI 8 = 7 by decide), if_pos (show nI 8 = 8 from rfl), if_neg (show ¬ nI 8 = 9 by decide)], by simp only [s_ofCrosser, sB, sN, sS, sF, ke0, ke1, ke2, ke3, ke4, if_pos h5, kcl (show j < 1000 by omega), if_pos h15, kcl (show (8 : Nat) < 1000 by decide), if_neg (show ¬ nI 8 = 7 by decide), if_pos (show nI 8 = 8 from rfl), if_neg (show ¬ nI 8 = 9 by decide)], hJ1.up⟩ | exact ⟨I, by simp only [s_ofCrosser, sB, sN, sS, sF, if_pos h5, kcl (show j < 1000 by omega), if_pos h15, kcl (show (8 : Nat) < 1000 by decide), if_neg (show ¬ nI 8 = 7 by decide), if_pos (show nI 8 = 8 from rfl), if_neg (show ¬ nI 8 = 9 by decide)], by simp only [s_ofCrosser, sB, sN, sS, sF, ke0, ke1, ke2, ke3, ke4, if_pos h5, kcl (show j < 1000 by omega), if_pos h15, kcl (show (8 : Nat) < 1000 by decide), if_neg (show ¬ nI 8 = 7 by decide), if_pos (show nI 8 = 8 from rfl), if_neg (show ¬ nI 8 = 9 by decide)], kJnk.rf I⟩
      · refine k_swIn (t := 64) (off := 38) dX9_ofCrosser_26 (by decide) (by decide) (by decide) (by decide) ?_
        refine al0 (n := 65) dX9_ofCrosser_64 rfl ?_
        refine gX9_7 (n := 68) dX9_ofCrosser_65 rfl rfl rfl rfl ?_
        refine k_bipush (a := 12) (n := 70) dX9_ofCrosser_68 rfl rfl ?_
        refine js_iald (j := 12) (n := 71) dX9_ofCrosser_70 rfl rfl rfl (by decide) (by decide) ?_
        refine il1 (n := 72) dX9_ofCrosser_71 rfl ?_
        refine qiX9_76 (n := 75) dX9_ofCrosser_72 rfl rfl (Nat.le_of_ble_eq_true rfl) (by omega) (m_has _ _) (Nat.le_refl _) (Nat.le_refl _) ?_
        refine k_ifb_eq (t := 82) (n := 78) dX9_ofCrosser_75 (by decide) rfl (fun h75 => ?_) (fun h75 => ?_)
        · refine k_iconst (a := 0) (n := 83) dX9_ofCrosser_82 rfl rfl ?_
          refine k_ireturn (ty := .int) dX9_ofCrosser_83 rfl rfl (Nat.le_refl _) (Nat.le_refl _) ?_
          first | exact ⟨J1, by simp only [s_ofCrosser, sB, sN, sS, sF, if_pos h5, kcl (show j < 1000 by omega), if_pos h15, kcl (show (9 : Nat) < 1000 by decide), if_neg (show ¬ nI 9 = 7 by decide), if_neg (show ¬ nI 9 = 8 by decide), if_pos (show nI 9 = 9 from rfl), if_neg h75], by simp only [s_ofCrosser, sB, sN, sS, sF, ke0, ke1, ke2, ke3, ke4, if_pos h5, kcl (show j < 1000 by omega), if_pos h15, kcl (show (9 : Nat) < 1000 by decide), if_neg (show ¬ nI 9 = 7 by decide), if_neg (show ¬ nI 9 = 8 by decide), if_pos (show nI 9 = 9 from rfl), if_neg h75], hJ1.up⟩ | exact ⟨I, by simp only [s_ofCrosser, sB, sN, sS, sF, if_pos h5, kcl (show j < 1000 by omega), if_pos h15, kcl (show (9 : Nat) < 1000 by decide), if_neg (show ¬ nI 9 = 7 by decide), if_neg (show ¬ nI 9 = 8 by decide), if_pos (show nI 9 = 9 from rfl), if_neg h75], by simp only [s_ofCrosser, sB, sN, sS, sF, ke0, ke1, ke2, ke3, ke4, if_pos h5, kcl (show j < 1000 by omega), if_pos h15, kcl (show (9 : Nat) < 1000 by decide), if_neg (show ¬ nI 9 = 7 by decide), if_neg (show ¬ nI 9 = 8 by decide), if_pos (show nI 9 = 9 from rfl), if_neg h75], kJnk.rf I⟩
        · refine k_iconst (a := 1) (n := 79) dX9_ofCrosser_78 rfl rfl ?_
          refine k_goto (n := 83) dX9_ofCrosser_79 (by decide) ?_
          refine k_ireturn (ty := .int) dX9_ofCrosser_83 rfl rfl (Nat.le_refl _) (Nat.le_refl _) ?_
          first | exact ⟨J1, by simp only [s_ofCrosser, sB, sN, sS, sF, if_pos h5, kcl (show j < 1000 by omega), if_pos h15, kcl (show (9 : Nat) < 1000 by decide), if_neg (show ¬ nI 9 = 7 by decide), if_neg (show ¬ nI 9 = 8 by decide), if_pos (show nI 9 = 9 from rfl), if_pos h75], by simp only [s_ofCrosser, sB, sN, sS, sF, ke0, ke1, ke2, ke3, ke4, if_pos h5, kcl (show j < 1000 by omega), if_pos h15, kcl (show (9 : Nat) < 1000 by decide), if_neg (show ¬ nI 9 = 7 by decide), if_neg (show ¬ nI 9 = 8 by decide), if_pos (show nI 9 = 9 from rfl), if_pos h75], hJ1.up⟩ | exact ⟨I, by simp only [s_ofCrosser, sB, sN, sS, sF, if_pos h5, kcl (show j < 1000 by omega), if_pos h15, kcl (show (9 : Nat) < 1000 by decide), if_neg (show ¬ nI 9 = 7 by decide), if_neg (show ¬ nI 9 = 8 by decide), if_pos (show nI 9 = 9 from rfl), if_pos h75], by simp only [s_ofCrosser, sB, sN, sS, sF, ke0, ke1, ke2, ke3, ke4, if_pos h5, kcl (show j < 1000 by omega), if_pos h15, kcl (show (9 : Nat) < 1000 by decide), if_neg (show ¬ nI 9 = 7 by decide), if_neg (show ¬ nI 9 = 8 by decide), if_pos (show nI 9 = 9 from rfl), if_pos h75], kJnk.rf I⟩
    · refine al0 (n := 19) dX9_ofCrosser_18 rfl ?_
      refine cX9_45 (n := 21) dX9_ofCrosser_19 rfl rfl ?_
      refine qiX9_46 (n := 24) dX9_ofCrosser_21 rfl rfl (Nat.le_of_ble_eq_true rfl) (by omega) rfl (m_errs 1 _ (by decide) rfl) (Nat.le_refl _) (Nat.le_refl _) ?_
      refine k_ireturn (ty := .int) dX9_ofCrosser_24 rfl rfl (Nat.le_refl _) (Nat.le_refl _) ?_
      first | exact ⟨J1, by simp only [s_ofCrosser, sB, sN, sS, sF, if_pos h5, kcl (show j < 1000 by omega), if_neg h15], by simp only [s_ofCrosser, sB, sN, sS, sF, ke0, ke1, ke2, ke3, ke4, if_pos h5, kcl (show j < 1000 by omega), if_neg h15], hJ1.up⟩ | exact ⟨I, by simp only [s_ofCrosser, sB, sN, sS, sF, if_pos h5, kcl (show j < 1000 by omega), if_neg h15], by simp only [s_ofCrosser, sB, sN, sS, sF, ke0, ke1, ke2, ke3, ke4, if_pos h5, kcl (show j < 1000 by omega), if_neg h15], kJnk.rf I⟩
abbrev chOk (r : Nat → Int32) (q v : Int32) : Prop := if q = 0 then 0 ≤ v ∧ v ≤ 9 else if q = 1 then 0 ≤ v ∧ v ≤ 99 else if q = 2 then 0 ≤ v ∧ v ≤ r 3 - 1 else if q = 3 then (0 ≤ v ∧ v ≤ 3) ∧ ¬ v = 1 else False
def s_change (r : Nat → Int32) (c q v : Int32) : sT := if 0 ≤ c ∧ c ≤ r 9 - 1 then if chOk r q v then (if q = 3 then (upd r (29 + 7 * c.toNatClampNeg + 6) 0 (29 + 7 * c.toNatClampNeg + 2 + q.toNatClampNeg), upd (upd r (29 + 7 * c.toNatClampNeg + 6) 0) (29 + 7 * c.toNatClampNeg + 2 + q.toNatClampNeg) v, 0) else (r (29 + 7 * c.toNatClampNeg + 2 + q.toNatClampNeg), upd r (29 + 7 * c.toNatClampNeg + 2 + q.toNatClampNeg) v, 0)) else sB r else sB r
theorem chOk_q {r : Nat → Int32} {q v : Int32} (h : chOk r q v) : ∃ i, i < 4 ∧ q = nI i := by
  unfold chOk at h
  by_cases h0 : q = 0
  · exact ⟨0, by decide, h0⟩
  · by_cases h1 : q = 1
    · exact ⟨1, by decide, h1⟩
    · by_cases h2 : q = 2
      · exact ⟨2, by decide, h2⟩
      · by_cases h3 : q = 3
        · exact ⟨3, by decide, h3⟩
        · rw [if_neg h0, if_neg h1, if_neg h2, if_neg h3] at h
          exact h.elim
set_option maxHeartbeats 2000000 in
set_option maxRecDepth 20000 in
theorem m_change (hd : 2 ≤ d) (hR : RI r) (c q v : Int32) : Ct E d mX9_change 0 0 [.ref 81, .int c, .int q, .int v] (kJ (kset I 82 r)) (kT I (s_change r c q v)) := by
  have key : ∀ (x : Int32), ((x = 0 ∧ ¬ chOk r q v) ∨ (¬ x = 0 ∧ chOk r q v)) → Wd E d mX9_change 0 0 0 0 66 [some (.ref 81), some (.int c), some (.int q), some (.int v), none] [.int x] (kJ (kset I 82 r)) (kT I (s_change r c q v)) := by
    intro x hx
    refine is4 (n := 68) dX9_change_66 rfl trivial ?_
    refine al0 (n := 69) dX9_change_68 rfl ?_
    refine il1 (n := 70) dX9_change_69 rfl ?_
    refine qiX9_67 (n := 73) dX9_change_70 rfl rfl (Nat.le_of_ble_eq_true rfl) (by omega) rfl (m_isCrosser (by omega) _) (Nat.le_refl _) (Nat.le_refl _) ?_
    refine k_ifb_eq (t := 81) (n := 76) dX9_change_73 (by decide) rfl (fun h73 => ?_) (fun h73 => ?_)
    · refine al0 (n := 82) dX9_change_81 rfl ?_
      refine cX9_45 (n := 84) dX9_change_82 rfl rfl ?_
      refine qiX9_46 (n := 87) dX9_change_84 rfl rfl (Nat.le_of_ble_eq_true rfl) (by omega) rfl (m_errs 1 _ (by decide) rfl) (Nat.le_refl _) (Nat.le_refl _) ?_
      refine k_ireturn (ty := .int) dX9_change_87 rfl rfl (Nat.le_refl _) (Nat.le_refl _) ?_
      (refine ⟨?_, ?_⟩ <;> first | (simp only [kT, s_change, sB, ke0, ke1, if_pos hk, if_neg h73]; done) | (simp only [kT, s_change, sB, ke0, ke1, if_neg hk, if_neg h73]; done) | (simp only [kT, s_change, sB, ke0, ke1, if_neg h73]; done))
    · obtain ⟨j, hj, rfl⟩ := kixC hR h73
      refine il4 (n := 78) dX9_change_76 rfl ?_
      refine k_if_ne (t := 88) (n := 81) dX9_change_78 (by decide) rfl (fun h78 => ?_) (fun h78 => ?_)
      · have hk : chOk r q v := hx.elim (fun h => absurd h.1 h78) (fun h => h.2)
        obtain ⟨i, hi, rfl⟩ := chOk_q hk
        refine il2 (n := 89) dX9_change_88 rfl ?_
        refine k_iconst (a := 3) (n := 90) dX9_change_89 rfl rfl ?_
        refine k_icmp_ne (t := 101) (n := 93) dX9_change_90 (by decide) rfl (fun h90 => ?_) (fun h90 => ?_)
        · refine al0 (n := 102) dX9_change_101 rfl ?_
          refine k_bipush (a := 29) (n := 104) dX9_change_102 rfl rfl ?_
          refine k_bipush (a := 7) (n := 106) dX9_change_104 rfl rfl ?_
          refine il1 (n := 107) dX9_change_106 rfl ?_
          refine k_imul (n := 108) dX9_change_107 rfl ?_
          refine k_iadd (n := 109) dX9_change_108 rfl ?_
          refine k_iconst (a := 2) (n := 110) dX9_change_109 rfl rfl ?_
          refine k_iadd (n := 111) dX9_change_110 rfl ?_
          refine il2 (n := 112) dX9_change_111 rfl ?_
          refine k_iadd (n := 113) dX9_change_112 rfl ?_
          refine il3 (n := 114) dX9_change_113 rfl ?_
          rw [show (29 : Int32) + 7 * nI j + 2 + nI i = nI (29 + 7 * j + 2 + i) by show nI 29 + nI 7 * nI j + nI 2 + nI i = _; rw [pk_mul, nI_add, nI_add, nI_add]]
          refine qiX9_51 (n := 117) dX9_change_114 rfl rfl (Nat.le_of_ble_eq_true rfl) (by omega) rfl (m_becomes (29 + 7 * j + 2 + i) _ (by omega)) (Nat.le_refl _) (Nat.le_refl _) ?_
          refine k_ireturn (ty := .int) dX9_change_117 rfl rfl (Nat.le_refl _) (Nat.le_refl _) ?_
          (refine ⟨?_, ?_⟩ <;> first | (simp only [kT, s_change, sB, ke0, ke1, if_pos hk, if_pos h73, kcl (show j < 1000 by omega), if_neg h78, kcl (show i < 1000 by omega), if_neg h90]; done) | (simp only [kT, s_change, sB, ke0, ke1, if_neg hk, if_pos h73, kcl (show j < 1000 by omega), if_neg h78, kcl (show i < 1000 by omega), if_neg h90]; done) | (simp only [kT, s_change, sB, ke0, ke1, if_pos h73, kcl (show j < 1000 by omega), if_neg h78, kcl (show i < 1000 by omega), if_neg h90]; done))
        · refine al0 (n := 94) dX9_change_93 rfl ?_
          refine il1 (n := 95) dX9_change_94 rfl ?_
          refine k_bipush (a := 6) (n := 97) dX9_change_95 rfl rfl ?_
          refine k_iconst (a := 0) (n := 98) dX9_change_97 rfl rfl ?_
          refine qiX9_63 (n := 101) dX9_change_98 rfl rfl (Nat.le_of_ble_eq_true rfl) (by omega) rfl (m_gets j 6 _ hj (by decide)) (Nat.le_refl _) (Nat.le_refl _) ?_
          refine al0 (n := 102) dX9_change_101 rfl ?_
          refine k_bipush (a := 29) (n := 104) dX9_change_102 rfl rfl ?_
          refine k_bipush (a := 7) (n := 106) dX9_change_104 rfl rfl ?_
          refine il1 (n := 107) dX9_change_106 rfl ?_
          refine k_imul (n := 108) dX9_change_107 rfl ?_
          refine k_iadd (n := 109) dX9_change_108 rfl ?_
          refine k_iconst (a := 2) (n := 110) dX9_change_109 rfl rfl ?_
          refine k_iadd (n := 111) dX9_change_110 rfl ?_
          refine il2 (n := 112) dX9_change_111 rfl ?_
          refine k_iadd (n := 113) dX9_change_112 rfl ?_
          refine il3 (n := 114) dX9_change_113 rfl ?_
          rw [show (29 : Int32) + 7 * nI j + 2 + nI i = nI (29 + 7 * j + 2 + i) by show nI 29 + nI 7 * nI j + nI 2 + nI i = _; rw [pk_mul, nI_add, nI_add, nI_add]]
          refine qiX9_51 (n := 117) dX9_change_114 rfl rfl (Nat.le_of_ble_eq_true rfl) (by omega) rfl (m_becomes (29 + 7 * j + 2 + i) _ (by omega)) (Nat.le_refl _) (Nat.le_refl _) ?_
          refine k_ireturn (ty := .int) dX9_change_117 rfl rfl (Nat.le_refl _) (Nat.le_refl _) ?_
          (refine ⟨?_, ?_⟩ <;> first | (simp only [kT, s_change, sB, ke0, ke1, if_pos hk, if_pos h73, kcl (show j < 1000 by omega), if_neg h78, kcl (show i < 1000 by omega), if_pos h90]; done) | (simp only [kT, s_change, sB, ke0, ke1, if_neg hk, if_pos h73, kcl (show j < 1000 by omega), if_neg h78, kcl (show i < 1000 by omega), if_pos h90]; done) | (simp only [kT, s_change, sB, ke0, ke1, if_pos h73, kcl (show j < 1000 by omega), if_neg h78, kcl (show i < 1000 by omega), if_pos h90]; done))
      · have hk : ¬ chOk r q v := hx.elim (fun h => h.2) (fun h => absurd h78 h.1)
        refine al0 (n := 82) dX9_change_81 rfl ?_
        refine cX9_45 (n := 84) dX9_change_82 rfl rfl ?_
        refine qiX9_46 (n := 87) dX9_change_84 rfl rfl (Nat.le_of_ble_eq_true rfl) (by omega) rfl (m_errs 1 _ (by decide) rfl) (Nat.le_refl _) (Nat.le_refl _) ?_
        refine k_ireturn (ty := .int) dX9_change_87 rfl rfl (Nat.le_refl _) (Nat.le_refl _) ?_
        (refine ⟨?_, ?_⟩ <;> first | (simp only [kT, s_change, sB, ke0, ke1, if_pos hk, if_pos h73, kcl (show j < 1000 by omega), if_pos h78]; done) | (simp only [kT, s_change, sB, ke0, ke1, if_neg hk, if_pos h73, kcl (show j < 1000 by omega), if_pos h78]; done) | (simp only [kT, s_change, sB, ke0, ke1, if_pos h73, kcl (show j < 1000 by omega), if_pos h78]; done))
  refine Ct.of (L := [some (.ref 81), some (.int c), some (.int q), some (.int v), none]) rfl rfl (Nat.le_of_ble_eq_true rfl) ?_
  refine il2 (n := 1) dX9_change_0 rfl ?_
  refine k_if_ne (t := 14) (n := 4) dX9_change_1 (by decide) rfl (fun h1 => ?_) (fun h1 => ?_)
  · refine il2 (n := 15) dX9_change_14 rfl ?_
    refine k_iconst (a := 1) (n := 16) dX9_change_15 rfl rfl ?_
    refine k_icmp_ne (t := 29) (n := 19) dX9_change_16 (by decide) rfl (fun h16 => ?_) (fun h16 => ?_)
    · refine il2 (n := 30) dX9_change_29 rfl ?_
      refine k_iconst (a := 2) (n := 31) dX9_change_30 rfl rfl ?_
      refine k_icmp_ne (t := 42) (n := 34) dX9_change_31 (by decide) rfl (fun h31 => ?_) (fun h31 => ?_)
      · refine il2 (n := 43) dX9_change_42 rfl ?_
        refine k_iconst (a := 3) (n := 44) dX9_change_43 rfl rfl ?_
        refine k_icmp_ne (t := 65) (n := 47) dX9_change_44 (by decide) rfl (fun h44 => ?_) (fun h44 => ?_)
        · refine k_iconst (a := 0) (n := 66) dX9_change_65 rfl rfl ?_
          refine key _ ?_
          simp only [chOk, kb_0, if_neg h1, if_neg h16, if_neg h31, if_neg h44]
          first
            | (by_cases hz : 0 ≤ v ∧ v ≤ 9
               · exact Or.inr ⟨fun h => h hz, hz⟩
               · exact Or.inl ⟨hz, hz⟩)
            | (by_cases hz : 0 ≤ v ∧ v ≤ 99
               · exact Or.inr ⟨fun h => h hz, hz⟩
               · exact Or.inl ⟨hz, hz⟩)
            | (by_cases hz : 0 ≤ v ∧ v ≤ r 3 - 1
               · exact Or.inr ⟨fun h => h hz, hz⟩
               · exact Or.inl ⟨hz, hz⟩)
            | exact Or.inr ⟨by decide, h53, h58⟩
            | exact Or.inl ⟨trivial, fun h => h.2 h58⟩
            | exact Or.inl ⟨trivial, fun h => h53 h.1⟩
            | exact Or.inl ⟨trivial, id⟩
        · refine il3 (n := 48) dX9_change_47 rfl ?_
          refine k_iconst (a := 0) (n := 49) dX9_change_48 rfl rfl ?_
          refine k_iconst (a := 3) (n := 50) dX9_change_49 rfl rfl ?_
          refine qiX9_41 (n := 53) dX9_change_50 rfl rfl (Nat.le_of_ble_eq_true rfl) (by omega) (m_in _ _ _) (Nat.le_refl _) (Nat.le_refl _) ?_
          refine k_ifb_eq (t := 65) (n := 56) dX9_change_53 (by decide) rfl (fun h53 => ?_) (fun h53 => ?_)
          · refine k_iconst (a := 0) (n := 66) dX9_change_65 rfl rfl ?_
            refine key _ ?_
            simp only [chOk, kb_0, if_neg h1, if_neg h16, if_neg h31, if_pos h44, if_neg h53]
            first
              | (by_cases hz : 0 ≤ v ∧ v ≤ 9
                 · exact Or.inr ⟨fun h => h hz, hz⟩
                 · exact Or.inl ⟨hz, hz⟩)
              | (by_cases hz : 0 ≤ v ∧ v ≤ 99
                 · exact Or.inr ⟨fun h => h hz, hz⟩
                 · exact Or.inl ⟨hz, hz⟩)
              | (by_cases hz : 0 ≤ v ∧ v ≤ r 3 - 1
                 · exact Or.inr ⟨fun h => h hz, hz⟩
                 · exact Or.inl ⟨hz, hz⟩)
              | exact Or.inr ⟨by decide, h53, h58⟩
              | exact Or.inl ⟨trivial, fun h => h.2 h58⟩
              | exact Or.inl ⟨trivial, fun h => h53 h.1⟩
              | exact Or.inl ⟨trivial, id⟩
          · refine il3 (n := 57) dX9_change_56 rfl ?_
            refine k_iconst (a := 1) (n := 58) dX9_change_57 rfl rfl ?_
            refine k_icmp_eq (t := 65) (n := 61) dX9_change_58 (by decide) rfl (fun h58 => ?_) (fun h58 => ?_)
            · refine k_iconst (a := 0) (n := 66) dX9_change_65 rfl rfl ?_
              refine key _ ?_
              simp only [chOk, kb_0, if_neg h1, if_neg h16, if_neg h31, if_pos h44, if_pos h53, if_pos h58]
              first
                | (by_cases hz : 0 ≤ v ∧ v ≤ 9
                   · exact Or.inr ⟨fun h => h hz, hz⟩
                   · exact Or.inl ⟨hz, hz⟩)
                | (by_cases hz : 0 ≤ v ∧ v ≤ 99
                   · exact Or.inr ⟨fun h => h hz, hz⟩
                   · exact Or.inl ⟨hz, hz⟩)
                | (by_cases hz : 0 ≤ v ∧ v ≤ r 3 - 1
                   · exact Or.inr ⟨fun h => h hz, hz⟩
                   · exact Or.inl ⟨hz, hz⟩)
                | exact Or.inr ⟨by decide, h53, h58⟩
                | exact Or.inl ⟨trivial, fun h => h.2 h58⟩
                | exact Or.inl ⟨trivial, fun h => h53 h.1⟩
                | exact Or.inl ⟨trivial, id⟩
            · refine k_iconst (a := 1) (n := 62) dX9_change_61 rfl rfl ?_
              refine k_goto (n := 66) dX9_change_62 (by decide) ?_
              refine key _ ?_
              simp only [chOk, kb_0, if_neg h1, if_neg h16, if_neg h31, if_pos h44, if_pos h53, if_neg h58]
              first
                | (by_cases hz : 0 ≤ v ∧ v ≤ 9
                   · exact Or.inr ⟨fun h => h hz, hz⟩
                   · exact Or.inl ⟨hz, hz⟩)
                | (by_cases hz : 0 ≤ v ∧ v ≤ 99
                   · exact Or.inr ⟨fun h => h hz, hz⟩
                   · exact Or.inl ⟨hz, hz⟩)
                | (by_cases hz : 0 ≤ v ∧ v ≤ r 3 - 1
                   · exact Or.inr ⟨fun h => h hz, hz⟩
                   · exact Or.inl ⟨hz, hz⟩)
                | exact Or.inr ⟨by decide, h53, h58⟩
                | exact Or.inl ⟨trivial, fun h => h.2 h58⟩
                | exact Or.inl ⟨trivial, fun h => h53 h.1⟩
                | exact Or.inl ⟨trivial, id⟩
      · refine al0 (n := 35) dX9_change_34 rfl ?_
        refine il3 (n := 36) dX9_change_35 rfl ?_
        refine qiX9_60 (n := 39) dX9_change_36 rfl rfl (Nat.le_of_ble_eq_true rfl) (by omega) rfl (m_isPlace (by omega) _) (Nat.le_refl _) (Nat.le_refl _) ?_
        refine k_goto (n := 66) dX9_change_39 (by decide) ?_
        refine key _ ?_
        simp only [chOk, kb_0, if_neg h1, if_neg h16, if_pos h31]
        first
          | (by_cases hz : 0 ≤ v ∧ v ≤ 9
             · exact Or.inr ⟨fun h => h hz, hz⟩
             · exact Or.inl ⟨hz, hz⟩)
          | (by_cases hz : 0 ≤ v ∧ v ≤ 99
             · exact Or.inr ⟨fun h => h hz, hz⟩
             · exact Or.inl ⟨hz, hz⟩)
          | (by_cases hz : 0 ≤ v ∧ v ≤ r 3 - 1
             · exact Or.inr ⟨fun h => h hz, hz⟩
             · exact Or.inl ⟨hz, hz⟩)
          | exact Or.inr ⟨by decide, h53, h58⟩
          | exact Or.inl ⟨trivial, fun h => h.2 h58⟩
          | exact Or.inl ⟨trivial, fun h => h53 h.1⟩
          | exact Or.inl ⟨trivial, id⟩
    · refine il3 (n := 20) dX9_change_19 rfl ?_
      refine k_iconst (a := 0) (n := 21) dX9_change_20 rfl rfl ?_
      refine k_bipush (a := 99) (n := 23) dX9_change_21 rfl rfl ?_
      refine qiX9_41 (n := 26) dX9_change_23 rfl rfl (Nat.le_of_ble_eq_true rfl) (by omega) (m_in _ _ _) (Nat.le_refl _) (Nat.le_refl _) ?_
      refine k_goto (n := 66) dX9_change_26 (by decide) ?_
      refine key _ ?_
      simp only [chOk, kb_0, if_neg h1, if_pos h16]
      first
        | (by_cases hz : 0 ≤ v ∧ v ≤ 9
           · exact Or.inr ⟨fun h => h hz, hz⟩
           · exact Or.inl ⟨hz, hz⟩)
        | (by_cases hz : 0 ≤ v ∧ v ≤ 99
           · exact Or.inr ⟨fun h => h hz, hz⟩
           · exact Or.inl ⟨hz, hz⟩)
        | (by_cases hz : 0 ≤ v ∧ v ≤ r 3 - 1
           · exact Or.inr ⟨fun h => h hz, hz⟩
           · exact Or.inl ⟨hz, hz⟩)
        | exact Or.inr ⟨by decide, h53, h58⟩
        | exact Or.inl ⟨trivial, fun h => h.2 h58⟩
        | exact Or.inl ⟨trivial, fun h => h53 h.1⟩
        | exact Or.inl ⟨trivial, id⟩
  · refine il3 (n := 5) dX9_change_4 rfl ?_
    refine k_iconst (a := 0) (n := 6) dX9_change_5 rfl rfl ?_
    refine k_bipush (a := 9) (n := 8) dX9_change_6 rfl rfl ?_
    refine qiX9_41 (n := 11) dX9_change_8 rfl rfl (Nat.le_of_ble_eq_true rfl) (by omega) (m_in _ _ _) (Nat.le_refl _) (Nat.le_refl _) ?_
    refine k_goto (n := 66) dX9_change_11 (by decide) ?_
    refine key _ ?_
    simp only [chOk, kb_0, if_pos h1]
    first
      | (by_cases hz : 0 ≤ v ∧ v ≤ 9
         · exact Or.inr ⟨fun h => h hz, hz⟩
         · exact Or.inl ⟨hz, hz⟩)
      | (by_cases hz : 0 ≤ v ∧ v ≤ 99
         · exact Or.inr ⟨fun h => h hz, hz⟩
         · exact Or.inl ⟨hz, hz⟩)
      | (by_cases hz : 0 ≤ v ∧ v ≤ r 3 - 1
         · exact Or.inr ⟨fun h => h hz, hz⟩
         · exact Or.inl ⟨hz, hz⟩)
      | exact Or.inr ⟨by decide, h53, h58⟩
      | exact Or.inl ⟨trivial, fun h => h.2 h58⟩
      | exact Or.inl ⟨trivial, fun h => h53 h.1⟩
      | exact Or.inl ⟨trivial, id⟩
theorem c2X9_161 {y : kY} {cl sl mc ms pc n : Nat} {L : List (Option Value)} {st : List Value} {M : kM} {Q : Option Value → kM → Prop} (hd : decode y.2.1 pc = .ok (.ldc2_w 161, 3)) (hn : pc + 3 = n) (hy : RX9 = y.1.cls) (kk : Wd E d y cl sl mc ms n L (.long 255 :: st) M Q) : Wd E d y cl sl mc ms pc L st M Q := k_ldc2 hd hn (hy ▸ gwi 1113 (by decide +kernel) rfl) kk
def fdB (x : Int64) (i : Nat) : Int32 := ((x >>> ((nI (8 * i)).toInt64 &&& 63)) &&& 255).toInt32
def fdR (r : Nat → Int32) (x : Int64) : Nat → (Nat → Int32)
  | 0 => r
  | i + 1 => upd (upd (fdR r x i) (85 + (fdR r x i 4).toNatClampNeg) (fdB x i)) 4 (fdR r x i 4 + 1)
theorem fdR_4 {r : Nat → Int32} {x : Int64} {c : Nat} (hc : r 4 = nI c) : ∀ i, fdR r x i 4 = nI (c + i)
  | 0 => hc
  | i + 1 => by rw [fdR, pk_us, fdR_4 hc i, nI_1]; rfl
def s_feed (r : Nat → Int32) (x : Int64) (v : Int32) : sT := if 1 ≤ v ∧ v ≤ 8 then if r 4 + v ≤ 50 then (r 4 + v, fdR r x v.toNatClampNeg, 0) else sF r else sB r
set_option maxHeartbeats 2000000 in
set_option maxRecDepth 20000 in
theorem m_feed_l (x : Int64) (k c : Nat) (hc : r 4 = nI c) (hk : c + k ≤ 50) (Q : Option Value → kM → Prop) (hQ : Q (some (.int (nI (c + k)))) (kJ (kset I 82 (fdR r x k)))) (m : Nat) : ∀ (i : Nat), i + m = k → Wd E d mX9_feed 0 0 0 0 40 [some (.ref 81), some (.long x), none, some (.int (nI k)), some (.int (nI i))] [] (kJ (kset I 82 (fdR r x i))) Q := by
  induction m with
  | zero =>
    intro i hi
    have e : i = k := by omega
    subst e
    have h4 := fdR_4 (x := x) hc i
    refine il4 (n := 42) dX9_feed_40 rfl ?_
    refine il3 (n := 43) dX9_feed_42 rfl ?_
    refine k_icmp_ge (t := 88) (n := 46) dX9_feed_43 (by decide) rfl (fun h43 => ?_) (fun h43 => ?_)
    · refine al0 (n := 89) dX9_feed_88 rfl ?_
      refine gX9_7 (n := 92) dX9_feed_89 rfl rfl rfl rfl ?_
      refine k_iconst (a := 4) (n := 93) dX9_feed_92 rfl rfl ?_
      refine js_iald (j := 4) (n := 94) dX9_feed_93 rfl rfl rfl (by decide) (by decide) ?_
      refine k_ireturn (ty := .int) dX9_feed_94 rfl rfl (Nat.le_refl _) (Nat.le_refl _) ?_
      rw [h4]
      exact hQ
    · exact absurd (Int32.le_refl _) h43
  | succ m ih =>
    intro i hi
    have h4 := fdR_4 (x := x) hc i
    have h4c : (fdR r x i 4).toNatClampNeg = c + i := by rw [h4]; exact kcl (by omega)
    refine il4 (n := 42) dX9_feed_40 rfl ?_
    refine il3 (n := 43) dX9_feed_42 rfl ?_
    refine k_icmp_ge (t := 88) (n := 46) dX9_feed_43 (by decide) rfl (fun h43 => ?_) (fun h43 => ?_)
    · exact absurd h43 (nI_ge (by omega) (by omega))
    · refine al0 (n := 47) dX9_feed_46 rfl ?_
      refine gX9_7 (n := 50) dX9_feed_47 rfl rfl rfl rfl ?_
      refine k_bipush (a := 85) (n := 52) dX9_feed_50 rfl rfl ?_
      refine al0 (n := 53) dX9_feed_52 rfl ?_
      refine gX9_7 (n := 56) dX9_feed_53 rfl rfl rfl rfl ?_
      refine k_iconst (a := 4) (n := 57) dX9_feed_56 rfl rfl ?_
      refine js_iald (j := 4) (n := 58) dX9_feed_57 rfl rfl rfl (by decide) (by decide) ?_
      refine k_iadd (n := 59) dX9_feed_58 rfl ?_
      refine ll1 (n := 60) dX9_feed_59 rfl ?_
      refine k_bipush (a := 8) (n := 62) dX9_feed_60 rfl rfl ?_
      refine il4 (n := 64) dX9_feed_62 rfl ?_
      refine k_imul (n := 65) dX9_feed_64 rfl ?_
      rw [show (8 : Int32) * nI i = nI (8 * i) from pk_mul 8 i]
      refine k_lshr (n := 66) dX9_feed_65 rfl ?_
      refine c2X9_161 (n := 69) dX9_feed_66 rfl rfl ?_
      refine k_land (n := 70) dX9_feed_69 rfl ?_
      refine k_l2i (n := 71) dX9_feed_70 rfl ?_
      refine js_iast (j := 85 + (c + i)) (n := 72) dX9_feed_71 rfl rfl (by rw [h4]; show nI 85 + nI (c + i) = _; rw [nI_add]) (by omega) (by decide) ?_
      refine al0 (n := 73) dX9_feed_72 rfl ?_
      refine gX9_7 (n := 76) dX9_feed_73 rfl rfl rfl rfl ?_
      refine k_iconst (a := 4) (n := 77) dX9_feed_76 rfl rfl ?_
      refine k_dup2 (n := 78) dX9_feed_77 rfl rfl rfl ?_
      refine js_iald (j := 4) (n := 79) dX9_feed_78 rfl rfl rfl (by decide) (by decide) ?_
      refine k_iconst (a := 1) (n := 80) dX9_feed_79 rfl rfl ?_
      refine k_iadd (n := 81) dX9_feed_80 rfl ?_
      refine js_iast (j := 4) (n := 82) dX9_feed_81 rfl rfl rfl (by decide) (by decide) ?_
      refine ii4 (n := 85) dX9_feed_82 rfl (ki1 _) trivial ?_
      rw [nI_1 i]
      refine k_goto (n := 40) dX9_feed_85 (by decide) ?_
      have h := ih (i + 1) (by omega)
      simp only [fdR, h4c] at h
      rw [show upd (fdR r x i) (85 + (c + i)) _ 4 = fdR r x i 4 from pk_un (by omega)]
      exact h
set_option maxHeartbeats 2000000 in
set_option maxRecDepth 20000 in
theorem m_feed (hd : 2 ≤ d) (hR : RI r) (x : Int64) (v : Int32) : Ct E d mX9_feed 0 0 [.ref 81, .long x, .int v] (kJ (kset I 82 r)) (kT I (s_feed r x v)) := by
  obtain ⟨-, -, -, -, ⟨c, hc, h50⟩, -⟩ := id hR
  refine Ct.of (L := [some (.ref 81), some (.long x), none, some (.int v), none]) rfl rfl (Nat.le_of_ble_eq_true rfl) ?_
  refine il3 (n := 1) dX9_feed_0 rfl ?_
  refine k_iconst (a := 1) (n := 2) dX9_feed_1 rfl rfl ?_
  refine k_bipush (a := 8) (n := 4) dX9_feed_2 rfl rfl ?_
  refine qiX9_41 (n := 7) dX9_feed_4 rfl rfl (Nat.le_of_ble_eq_true rfl) (by omega) (m_in _ _ _) (Nat.le_refl _) (Nat.le_refl _) ?_
  refine k_ifb_ne (t := 17) (n := 10) dX9_feed_7 (by decide) rfl (fun h7 => ?_) (fun h7 => ?_)
  · obtain ⟨k, hk0, hk, rfl⟩ := kbt (a := 1) (b := 8) h7 (by decide) (by decide)
    refine al0 (n := 18) dX9_feed_17 rfl ?_
    refine gX9_7 (n := 21) dX9_feed_18 rfl rfl rfl rfl ?_
    refine k_iconst (a := 4) (n := 22) dX9_feed_21 rfl rfl ?_
    refine js_iald (j := 4) (n := 23) dX9_feed_22 rfl rfl rfl (by decide) (by decide) ?_
    refine il3 (n := 24) dX9_feed_23 rfl ?_
    refine k_iadd (n := 25) dX9_feed_24 rfl ?_
    refine k_bipush (a := 50) (n := 27) dX9_feed_25 rfl rfl ?_
    refine k_icmp_le (t := 37) (n := 30) dX9_feed_27 (by decide) rfl (fun h27 => ?_) (fun h27 => ?_)
    · refine k_iconst (a := 0) (n := 38) dX9_feed_37 rfl rfl ?_
      refine is4 (n := 40) dX9_feed_38 rfl trivial ?_
      have hck : c + k ≤ 50 := by
        rcases Nat.lt_or_ge 50 (c + k) with h | h
        · exact absurd (by rw [hc, nI_add] at h27; exact h27) (nI_ge h (by omega))
        · exact h
      refine m_feed_l x k c hc hck _ ?_ k 0 (by omega)
      exact ⟨by simp only [s_feed, if_pos h7, if_pos h27]; rw [hc, nI_add], by simp only [s_feed, ke0, kcl (show k < 1000 by omega), if_pos h7, if_pos h27]⟩
    · refine al0 (n := 31) dX9_feed_30 rfl ?_
      refine cX9_55 (n := 33) dX9_feed_31 rfl rfl ?_
      refine qiX9_46 (n := 36) dX9_feed_33 rfl rfl (Nat.le_of_ble_eq_true rfl) (by omega) rfl (m_errs 4 _ (by decide) rfl) (Nat.le_refl _) (Nat.le_refl _) ?_
      refine k_ireturn (ty := .int) dX9_feed_36 rfl rfl (Nat.le_refl _) (Nat.le_refl _) ?_
      (refine ⟨?_, ?_⟩ <;> simp only [kT, s_feed, sB, sN, sS, sF, sK, ke0, ke1, ke2, ke3, ke4, ke5, if_pos h7, if_neg h27] <;> rfl)
  · refine al0 (n := 11) dX9_feed_10 rfl ?_
    refine cX9_45 (n := 13) dX9_feed_11 rfl rfl ?_
    refine qiX9_46 (n := 16) dX9_feed_13 rfl rfl (Nat.le_of_ble_eq_true rfl) (by omega) rfl (m_errs 1 _ (by decide) rfl) (Nat.le_refl _) (Nat.le_refl _) ?_
    refine k_ireturn (ty := .int) dX9_feed_16 rfl rfl (Nat.le_refl _) (Nat.le_refl _) ?_
    (refine ⟨?_, ?_⟩ <;> simp only [kT, s_feed, sB, sN, sS, sF, sK, ke0, ke1, ke2, ke3, ke4, ke5, if_neg h7] <;> rfl)
end M12

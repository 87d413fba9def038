section M19
variable {E : kE} {d : Nat} {I : Nat → Nat → Int32} {r : Nat → Int32}
/-- the tape is laid into the text of use u -/
def tcR (r : Nat → Int32) (u i : Nat) : Nat → Int32 := fun j => if 155 + 50 * u ≤ j ∧ j < 155 + 50 * u + i then r (85 + (j - (155 + 50 * u))) else r j
def txR (r : Nat → Int32) (u : Nat) : Nat → Int32 := upd (tcR r u 50) (6 + u) (r 4)
def txQ (r : Nat → Int32) (u : Nat) : pR := walkF (txR r u) u 1 1 1
abbrev txO (r : Nat → Int32) (u : Nat) : Prop := (txQ r u).2.2 = true ∧ (txQ r u).2.1 = (r 4).toNatClampNeg
def s_text (r : Nat → Int32) (v : Int32) : sT := if 0 ≤ v ∧ v ≤ 1 then (if txO r v.toNatClampNeg then (1, upd (txR r v.toNatClampNeg) 4 0, 0) else (-10 - nI (txQ r v.toNatClampNeg).2.1, upd r 4 0, 0)) else sB r
set_option maxHeartbeats 2000000 in
set_option maxRecDepth 20000 in
theorem m_text_l (u : Nat) (hu : u < 2) (Q : Option Value → kM → Prop) (hQ : ∀ x3 x4 : Option Value, Wd E d mX9_text 0 0 0 0 66 [some (.ref 81), some (.int (nI u)), some (.int (nI 50)), none, none] [] (kJ (kset I 82 (tcR r u 50))) Q) (m : Nat) : ∀ (i : Nat), i + m = 50 → Wd E d mX9_text 0 0 0 0 30 [some (.ref 81), some (.int (nI u)), some (.int (nI i)), none, none] [] (kJ (kset I 82 (tcR r u i))) Q := by
  induction m with
  | zero =>
    intro i hi
    have e : i = 50 := by omega
    subst e
    refine il2 (n := 31) dX9_text_30 rfl ?_
    refine k_bipush (a := 50) (n := 33) dX9_text_31 rfl rfl ?_
    refine k_icmp_ge (t := 66) (n := 36) dX9_text_33 (by decide) rfl (fun h33 => ?_) (fun h33 => ?_)
    · exact hQ none none
    · exact absurd (Int32.le_refl _) h33
  | succ m ih =>
    intro i hi
    refine il2 (n := 31) dX9_text_30 rfl ?_
    refine k_bipush (a := 50) (n := 33) dX9_text_31 rfl rfl ?_
    refine k_icmp_ge (t := 66) (n := 36) dX9_text_33 (by decide) rfl (fun h33 => ?_) (fun h33 => ?_)
    · exact absurd h33 (nI_ge (show i < 50 by omega) (by decide))
    · refine al0 (n := 37) dX9_text_36 rfl ?_
      refine gX9_7 (n := 40) dX9_text_37 rfl rfl rfl rfl ?_
      refine k_sipush (a := 155) (n := 43) dX9_text_40 rfl rfl ?_
      refine k_bipush (a := 50) (n := 45) dX9_text_43 rfl rfl ?_
      refine il1 (n := 46) dX9_text_45 rfl ?_
      refine k_imul (n := 47) dX9_text_46 rfl ?_
      refine k_iadd (n := 48) dX9_text_47 rfl ?_
      refine il2 (n := 49) dX9_text_48 rfl ?_
      refine k_iadd (n := 50) dX9_text_49 rfl ?_
      refine al0 (n := 51) dX9_text_50 rfl ?_
      refine gX9_7 (n := 54) dX9_text_51 rfl rfl rfl rfl ?_
      refine k_bipush (a := 85) (n := 56) dX9_text_54 rfl rfl ?_
      refine il2 (n := 57) dX9_text_56 rfl ?_
      refine k_iadd (n := 58) dX9_text_57 rfl ?_
      refine js_iald (j := 85 + i) (n := 59) dX9_text_58 rfl rfl (by show nI 85 + nI i = _; rw [nI_add]) (by omega) (by decide) ?_
      rw [show tcR r u i (85 + i) = r (85 + i) from if_neg (by omega)]
      refine js_iast (j := 155 + 50 * u + i) (n := 60) dX9_text_59 rfl rfl (by show nI 155 + nI 50 * nI u + nI i = _; rw [pk_mul, nI_add, nI_add]) (by omega) (by decide) ?_
      rw [show upd (tcR r u i) (155 + 50 * u + i) (r (85 + i)) = tcR r u (i + 1) from by
        funext j
        unfold upd tcR
        by_cases h1 : j = 155 + 50 * u + i
        · subst h1; rw [if_pos rfl, if_pos (by omega)]; congr 1; omega
        · rw [if_neg h1]
          by_cases h2 : 155 + 50 * u ≤ j ∧ j < 155 + 50 * u + i
          · rw [if_pos h2, if_pos (by omega)]
          · rw [if_neg h2, if_neg (by omega)]]
      refine ii2 (n := 63) dX9_text_60 rfl (ki1 _) trivial ?_
      rw [nI_1 i]
      refine k_goto (n := 30) dX9_text_63 (by decide) ?_
      exact ih (i + 1) (by omega)
set_option maxHeartbeats 2000000 in
set_option maxRecDepth 20000 in
theorem m_text (hd : 61 ≤ d) (hR : RI r) (v : Int32) : Ct E d mX9_text 0 0 [.ref 81, .int v] (kJ (kset I 82 r)) (kU I (s_text r v)) := by
  obtain ⟨-, -, -, -, ⟨c, hc, h50⟩, -⟩ := id hR
  have eC : (r 4).toNatClampNeg = c := by rw [hc]; exact kcl (by omega)
  refine Ct.of (L := [some (.ref 81), some (.int v), none, none, none]) rfl rfl (Nat.le_of_ble_eq_true rfl) ?_
  refine il1 (n := 1) dX9_text_0 rfl ?_
  refine k_iconst (a := 0) (n := 2) dX9_text_1 rfl rfl ?_
  refine k_iconst (a := 1) (n := 3) dX9_text_2 rfl rfl ?_
  refine qiX9_41 (n := 6) dX9_text_3 rfl rfl (Nat.le_of_ble_eq_true rfl) (by omega) (m_in _ _ _) (Nat.le_refl _) (Nat.le_refl _) ?_
  refine k_ifb_ne (t := 16) (n := 9) dX9_text_6 (by decide) rfl (fun h6 => ?_) (fun h6 => ?_)
  · obtain ⟨j, hj0, hj, rfl⟩ := kbt (a := 0) (b := 1) h6 (by decide) (by decide)
    refine al0 (n := 17) dX9_text_16 rfl ?_
    refine al0 (n := 18) dX9_text_17 rfl ?_
    refine gX9_7 (n := 21) dX9_text_18 rfl rfl rfl rfl ?_
    refine al0 (n := 22) dX9_text_21 rfl ?_
    refine gX9_19 (n := 25) dX9_text_22 rfl rfl rfl rfl ?_
    refine qiX9_163 (n := 28) dX9_text_25 rfl rfl (Nat.le_of_ble_eq_true rfl) (by omega) rfl (m_save (b := 85) rfl (by decide)) (Nat.le_refl _) (Nat.le_refl _) ?_
    refine k_iconst (a := 0) (n := 29) dX9_text_28 rfl rfl ?_
    refine is2 (n := 30) dX9_text_29 rfl trivial ?_
    have h := m_text_l (E := E) (d := d) (I := (kset I 85 (svF r (I 85)))) (r := r) j (by omega) (kU I (s_text r (nI j))) (fun _ _ => ?_) 50 0 (by omega)
    · rw [show tcR r j 0 = r from funext fun k => if_neg (by omega)] at h
      exact h
    refine al0 (n := 67) dX9_text_66 rfl ?_
    refine gX9_7 (n := 70) dX9_text_67 rfl rfl rfl rfl ?_
    refine k_bipush (a := 6) (n := 72) dX9_text_70 rfl rfl ?_
    refine il1 (n := 73) dX9_text_72 rfl ?_
    refine k_iadd (n := 74) dX9_text_73 rfl ?_
    refine al0 (n := 75) dX9_text_74 rfl ?_
    refine gX9_7 (n := 78) dX9_text_75 rfl rfl rfl rfl ?_
    refine k_iconst (a := 4) (n := 79) dX9_text_78 rfl rfl ?_
    refine js_iald (j := 4) (n := 80) dX9_text_79 rfl rfl rfl (by decide) (by decide) ?_
    rw [show tcR r j 50 4 = r 4 from if_neg (by omega)]
    refine js_iast (j := 6 + j) (n := 81) dX9_text_80 rfl rfl (by show nI 6 + nI j = _; rw [nI_add]) (by omega) (by decide) ?_
    show Wd E d mX9_text 0 0 0 0 81 _ _ (kJ (kset (kset I 85 (svF r (I 85))) 82 (txR r j))) _
    refine al0 (n := 82) dX9_text_81 rfl ?_
    refine il1 (n := 83) dX9_text_82 rfl ?_
    refine k_iconst (a := 1) (n := 84) dX9_text_83 rfl rfl ?_
    refine k_iconst (a := 1) (n := 85) dX9_text_84 rfl rfl ?_
    refine k_iconst (a := 1) (n := 86) dX9_text_85 rfl rfl ?_
    rw [show kJ (kset (kset I 85 (svF r (I 85))) 82 (txR r j)) = kJ (kset (kset (kset I 85 (svF r (I 85))) 82 (txR r j)) 81 ((kset I 85 (svF r (I 85))) 81)) from by rw [show kset (kset (kset I 85 (svF r (I 85))) 82 (txR r j)) 81 ((kset I 85 (svF r (I 85))) 81) = kset (kset I 85 (svF r (I 85))) 82 (txR r j) from kset_self (kset (kset I 85 (svF r (I 85))) 82 (txR r j)) 81]]
    refine qX9_150 (n := 89) dX9_text_86 rfl rfl (Nat.le_of_ble_eq_true rfl) (by omega) (Nat.le_refl _) (Nat.le_refl _) rfl (m_walks (by omega) (I := kset (kset I 85 (svF r (I 85))) 82 (txR r j)) j c (by omega) h50 (by rw [kset_same]; exact pk_us.trans hc) _ _ _) ?_
    rintro _ _ ⟨p1, rfl, rfl, h81, h141, hp1⟩
    dsimp only [Option.toList, List.cons_append, List.nil_append, Nat.add_zero]
    rw [txB_eq h50 (show txR r j (6 + j) = nI c from pk_us.trans hc)] at h81 h141
    rw [kset_comm _ _ _ (show (82 : Nat) ≠ 81 by decide)]
    have hJk : kJnk I (kset (kset I 85 (svF r (I 85))) 81 p1) := ⟨fun k a1 a2 a3 a4 a5 => by rw [kset_ne _ _ a1, kset_ne _ _ a4], fun j hj => by rw [kset_same]; exact (hp1 j hj).trans (by rw [kset_ne _ _ (by decide)])⟩
    refine is2 (n := 90) dX9_text_89 rfl trivial ?_
    refine al0 (n := 91) dX9_text_90 rfl ?_
    refine gX9_97 (n := 94) dX9_text_91 rfl rfl rfl ?_
    try rw [kset_ne _ _ (show (81 : Nat) ≠ 82 by decide)]
    rw [kset_same, h141]
    refine k_ifb_eq (t := 106) (n := 97) dX9_text_94 (by decide) rfl (fun h94 => ?_) (fun h94 => ?_)
    · have hok : (txO r j) = False := eq_false (fun q => h94 ⟨q.1, by rw [← eC]; exact q.2⟩)
      refine k_iconst (a := 0) (n := 107) dX9_text_106 rfl rfl ?_
      refine is3 (n := 108) dX9_text_107 rfl trivial ?_
      refine al0 (n := 109) dX9_text_108 rfl ?_
      refine gX9_101 (n := 112) dX9_text_109 rfl rfl rfl ?_
      try rw [kset_ne _ _ (show (81 : Nat) ≠ 82 by decide)]
      rw [kset_same, h81]
      refine is4 (n := 114) dX9_text_112 rfl trivial ?_
      refine il3 (n := 115) dX9_text_114 rfl ?_
      refine k_if_ne (t := 130) (n := 118) dX9_text_115 (by decide) rfl (fun h115 => ?_) (fun h115 => ?_)
      · refine al0 (n := 131) dX9_text_130 rfl ?_
        refine gX9_7 (n := 134) dX9_text_131 rfl rfl rfl rfl ?_
        refine k_iconst (a := 4) (n := 135) dX9_text_134 rfl rfl ?_
        refine k_iconst (a := 0) (n := 136) dX9_text_135 rfl rfl ?_
        refine js_iast (j := 4) (n := 137) dX9_text_136 rfl rfl rfl (by decide) (by decide) ?_
        refine il3 (n := 138) dX9_text_137 rfl ?_
        refine k_if_eq (t := 145) (n := 141) dX9_text_138 (by decide) rfl (fun h138 => ?_) (fun h138 => ?_)
        · refine k_bipush (a := (-10)) (n := 147) dX9_text_145 rfl rfl ?_
          refine il4 (n := 149) dX9_text_147 rfl ?_
          refine k_isub (n := 150) dX9_text_149 rfl ?_
          refine k_ireturn (ty := .int) dX9_text_150 rfl rfl (Nat.le_refl _) (Nat.le_refl _) ?_
          first
            | (exfalso; revert h138; decide)
            | (exfalso; revert h115; decide)
            | exact ⟨_, by simp only [s_text, if_pos h6, kcl (show j < 1000 by omega), hok, reduceIte, txQ, walkF], by simp only [s_text, ke0, if_pos h6, kcl (show j < 1000 by omega), hok, reduceIte], hJk⟩
        · refine k_iconst (a := 1) (n := 142) dX9_text_141 rfl rfl ?_
          refine k_goto (n := 150) dX9_text_142 (by decide) ?_
          refine k_ireturn (ty := .int) dX9_text_150 rfl rfl (Nat.le_refl _) (Nat.le_refl _) ?_
          first
            | (exfalso; revert h138; decide)
            | (exfalso; revert h115; decide)
            | exact ⟨_, by simp only [s_text, if_pos h6, kcl (show j < 1000 by omega), hok, reduceIte, txQ, walkF], by simp only [s_text, ke0, if_pos h6, kcl (show j < 1000 by omega), hok, reduceIte], hJk⟩
      · refine al0 (n := 119) dX9_text_118 rfl ?_
        refine al0 (n := 120) dX9_text_119 rfl ?_
        refine gX9_19 (n := 123) dX9_text_120 rfl rfl rfl rfl ?_
        refine al0 (n := 124) dX9_text_123 rfl ?_
        refine gX9_7 (n := 127) dX9_text_124 rfl rfl rfl rfl ?_
        refine qiX9_163 (n := 130) dX9_text_127 rfl rfl (Nat.le_of_ble_eq_true rfl) (by omega) rfl (m_back (b := 85) (r := r) rfl (by decide) (fun x hx => by rw [kset_ne _ _ (by decide), kset_same]; exact if_pos hx) (fun x hx => (pk_un (by omega)).trans (if_neg (by omega)))) (Nat.le_refl _) (Nat.le_refl _) ?_
        refine al0 (n := 131) dX9_text_130 rfl ?_
        refine gX9_7 (n := 134) dX9_text_131 rfl rfl rfl rfl ?_
        refine k_iconst (a := 4) (n := 135) dX9_text_134 rfl rfl ?_
        refine k_iconst (a := 0) (n := 136) dX9_text_135 rfl rfl ?_
        refine js_iast (j := 4) (n := 137) dX9_text_136 rfl rfl rfl (by decide) (by decide) ?_
        refine il3 (n := 138) dX9_text_137 rfl ?_
        refine k_if_eq (t := 145) (n := 141) dX9_text_138 (by decide) rfl (fun h138 => ?_) (fun h138 => ?_)
        · refine k_bipush (a := (-10)) (n := 147) dX9_text_145 rfl rfl ?_
          refine il4 (n := 149) dX9_text_147 rfl ?_
          refine k_isub (n := 150) dX9_text_149 rfl ?_
          refine k_ireturn (ty := .int) dX9_text_150 rfl rfl (Nat.le_refl _) (Nat.le_refl _) ?_
          first
            | (exfalso; revert h138; decide)
            | (exfalso; revert h115; decide)
            | exact ⟨_, by simp only [s_text, if_pos h6, kcl (show j < 1000 by omega), hok, reduceIte, txQ, walkF], by simp only [s_text, ke0, if_pos h6, kcl (show j < 1000 by omega), hok, reduceIte], hJk⟩
        · refine k_iconst (a := 1) (n := 142) dX9_text_141 rfl rfl ?_
          refine k_goto (n := 150) dX9_text_142 (by decide) ?_
          refine k_ireturn (ty := .int) dX9_text_150 rfl rfl (Nat.le_refl _) (Nat.le_refl _) ?_
          first
            | (exfalso; revert h138; decide)
            | (exfalso; revert h115; decide)
            | exact ⟨_, by simp only [s_text, if_pos h6, kcl (show j < 1000 by omega), hok, reduceIte, txQ, walkF], by simp only [s_text, ke0, if_pos h6, kcl (show j < 1000 by omega), hok, reduceIte], hJk⟩
    · have hok : (txO r j) = True := eq_true ⟨h94.1, by rw [eC]; exact h94.2⟩
      refine il2 (n := 98) dX9_text_97 rfl ?_
      refine il2 (n := 99) dX9_text_98 rfl ?_
      refine k_icmp_ne (t := 106) (n := 102) dX9_text_99 (by decide) rfl (fun h99 => ?_) (fun h99 => ?_)
      · exact absurd rfl h99
      · refine k_iconst (a := 1) (n := 103) dX9_text_102 rfl rfl ?_
        refine k_goto (n := 107) dX9_text_103 (by decide) ?_
        refine is3 (n := 108) dX9_text_107 rfl trivial ?_
        refine al0 (n := 109) dX9_text_108 rfl ?_
        refine gX9_101 (n := 112) dX9_text_109 rfl rfl rfl ?_
        try rw [kset_ne _ _ (show (81 : Nat) ≠ 82 by decide)]
        rw [kset_same, h81]
        refine is4 (n := 114) dX9_text_112 rfl trivial ?_
        refine il3 (n := 115) dX9_text_114 rfl ?_
        refine k_if_ne (t := 130) (n := 118) dX9_text_115 (by decide) rfl (fun h115 => ?_) (fun h115 => ?_)
        · refine al0 (n := 131) dX9_text_130 rfl ?_
          refine gX9_7 (n := 134) dX9_text_131 rfl rfl rfl rfl ?_
          refine k_iconst (a := 4) (n := 135) dX9_text_134 rfl rfl ?_
          refine k_iconst (a := 0) (n := 136) dX9_text_135 rfl rfl ?_
          refine js_iast (j := 4) (n := 137) dX9_text_136 rfl rfl rfl (by decide) (by decide) ?_
          refine il3 (n := 138) dX9_text_137 rfl ?_
          refine k_if_eq (t := 145) (n := 141) dX9_text_138 (by decide) rfl (fun h138 => ?_) (fun h138 => ?_)
          · refine k_bipush (a := (-10)) (n := 147) dX9_text_145 rfl rfl ?_
            refine il4 (n := 149) dX9_text_147 rfl ?_
            refine k_isub (n := 150) dX9_text_149 rfl ?_
            refine k_ireturn (ty := .int) dX9_text_150 rfl rfl (Nat.le_refl _) (Nat.le_refl _) ?_
            first
              | (exfalso; revert h138; decide)
              | (exfalso; revert h115; decide)
              | exact ⟨_, by simp only [s_text, if_pos h6, kcl (show j < 1000 by omega), hok, reduceIte, txQ, walkF], by simp only [s_text, ke0, if_pos h6, kcl (show j < 1000 by omega), hok, reduceIte], hJk⟩
          · refine k_iconst (a := 1) (n := 142) dX9_text_141 rfl rfl ?_
            refine k_goto (n := 150) dX9_text_142 (by decide) ?_
            refine k_ireturn (ty := .int) dX9_text_150 rfl rfl (Nat.le_refl _) (Nat.le_refl _) ?_
            first
              | (exfalso; revert h138; decide)
              | (exfalso; revert h115; decide)
              | exact ⟨_, by simp only [s_text, if_pos h6, kcl (show j < 1000 by omega), hok, reduceIte, txQ, walkF], by simp only [s_text, ke0, if_pos h6, kcl (show j < 1000 by omega), hok, reduceIte], hJk⟩
        · refine al0 (n := 119) dX9_text_118 rfl ?_
          refine al0 (n := 120) dX9_text_119 rfl ?_
          refine gX9_19 (n := 123) dX9_text_120 rfl rfl rfl rfl ?_
          refine al0 (n := 124) dX9_text_123 rfl ?_
          refine gX9_7 (n := 127) dX9_text_124 rfl rfl rfl rfl ?_
          refine qiX9_163 (n := 130) dX9_text_127 rfl rfl (Nat.le_of_ble_eq_true rfl) (by omega) rfl (m_back (b := 85) (r := r) rfl (by decide) (fun x hx => by rw [kset_ne _ _ (by decide), kset_same]; exact if_pos hx) (fun x hx => (pk_un (by omega)).trans (if_neg (by omega)))) (Nat.le_refl _) (Nat.le_refl _) ?_
          refine al0 (n := 131) dX9_text_130 rfl ?_
          refine gX9_7 (n := 134) dX9_text_131 rfl rfl rfl rfl ?_
          refine k_iconst (a := 4) (n := 135) dX9_text_134 rfl rfl ?_
          refine k_iconst (a := 0) (n := 136) dX9_text_135 rfl rfl ?_
          refine js_iast (j := 4) (n := 137) dX9_text_136 rfl rfl rfl (by decide) (by decide) ?_
          refine il3 (n := 138) dX9_text_137 rfl ?_
          refine k_if_eq (t := 145) (n := 141) dX9_text_138 (by decide) rfl (fun h138 => ?_) (fun h138 => ?_)
          · refine k_bipush (a := (-10)) (n := 147) dX9_text_145 rfl rfl ?_
            refine il4 (n := 149) dX9_text_147 rfl ?_
            refine k_isub (n := 150) dX9_text_149 rfl ?_
            refine k_ireturn (ty := .int) dX9_text_150 rfl rfl (Nat.le_refl _) (Nat.le_refl _) ?_
            first
              | (exfalso; revert h138; decide)
              | (exfalso; revert h115; decide)
              | exact ⟨_, by simp only [s_text, if_pos h6, kcl (show j < 1000 by omega), hok, reduceIte, txQ, walkF], by simp only [s_text, ke0, if_pos h6, kcl (show j < 1000 by omega), hok, reduceIte], hJk⟩
          · refine k_iconst (a := 1) (n := 142) dX9_text_141 rfl rfl ?_
            refine k_goto (n := 150) dX9_text_142 (by decide) ?_
            refine k_ireturn (ty := .int) dX9_text_150 rfl rfl (Nat.le_refl _) (Nat.le_refl _) ?_
            first
              | (exfalso; revert h138; decide)
              | (exfalso; revert h115; decide)
              | exact ⟨_, by simp only [s_text, if_pos h6, kcl (show j < 1000 by omega), hok, reduceIte, txQ, walkF], by simp only [s_text, ke0, if_pos h6, kcl (show j < 1000 by omega), hok, reduceIte], hJk⟩
  · refine al0 (n := 10) dX9_text_9 rfl ?_
    refine cX9_45 (n := 12) dX9_text_10 rfl rfl ?_
    refine qiX9_46 (n := 15) dX9_text_12 rfl rfl (Nat.le_of_ble_eq_true rfl) (by omega) rfl (m_errs 1 _ (by decide) rfl) (Nat.le_refl _) (Nat.le_refl _) ?_
    refine k_ireturn (ty := .int) dX9_text_15 rfl rfl (Nat.le_refl _) (Nat.le_refl _) ?_
    exact ⟨I, by simp only [s_text, sB, if_neg h6], by simp only [s_text, sB, ke1, if_neg h6], kJnk.rf I⟩
end M19

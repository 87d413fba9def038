section M13
variable {E : kE} {d : Nat} {I : Nat → Nat → Int32} {r : Nat → Int32}
def mv1 (I : Nat → Nat → Int32) (s i : Nat) : Nat → Int32 := fun t => if t < i then I 89 (s + t) else I 90 t
def mv2 (I : Nat → Nat → Int32) (s q i : Nat) : Nat → Int32 := fun t => if q ≤ t ∧ t < q + i then I 89 (s + (t - q)) else I 89 t
def s_move (I : Nat → Nat → Int32) (v i u j n : Int32) : Int32 × (Nat → Nat → Int32) :=
  if 0 ≤ v ∧ v ≤ 3 then (if 0 ≤ u ∧ u ≤ 3 then (if I 87 v.toNatClampNeg = 0 then (-1000000002, ker I 2) else if I 87 u.toNatClampNeg = 0 then (-1000000002, ker I 2) else if I 87 v.toNatClampNeg = I 87 u.toNatClampNeg then
    (if n < 0 then (-1000000001, ker I 1) else if i < 0 then (-1000000001, ker I 1) else if j < 0 then (-1000000001, ker I 1) else if I 88 v.toNatClampNeg - n < i then (-1000000001, ker I 1) else if j ≤ I 88 u.toNatClampNeg - n then
      (n, kset (kset I 90 (mv1 I (40 * v.toNatClampNeg + i.toNatClampNeg) n.toNatClampNeg)) 89 (mv2 I (40 * v.toNatClampNeg + i.toNatClampNeg) (40 * u.toNatClampNeg + j.toNatClampNeg) n.toNatClampNeg)) else (-1000000001, ker I 1)) else (-1000000005, ker I 5)) else (-1000000001, ker I 1)) else (-1000000001, ker I 1)
theorem kmv {x y z : Int32} {s : Nat} (hs : s ≤ 40) (h0 : ¬ x < 0) (h1 : ¬ y < 0) (h : ¬ nI s - x < y) : ∃ p m, x = nI m ∧ y = nI p ∧ p + m ≤ s := by
  obtain ⟨m, hm, rfl⟩ := nI_of h0
  obtain ⟨p, hp, rfl⟩ := nI_of h1
  refine ⟨p, m, rfl, rfl, ?_⟩
  have h2 : ¬ (nI s - nI m).toInt < (nI p).toInt := fun q => h (Int32.lt_iff_toInt_lt.mpr q)
  rw [Int32.toInt_sub, nI_toInt hm, nI_toInt hp, nI_toInt (by omega)] at h2
  have e : ((s : Int) - (m : Int)).bmod (2 ^ 32) = (s : Int) - m := by
    rw [Int.bmod_eq_of_le (by omega) (by omega)]
  rw [e] at h2
  omega
set_option maxHeartbeats 2000000 in
set_option maxRecDepth 20000 in
theorem m_move_2 (a p b q k : Nat) (ha : a ≤ 3) (hb : b ≤ 3) (hp : p + k ≤ 40) (hq : q + k ≤ 40) (Q : Option Value → kM → Prop) (hQ : Q (some (.int (nI k))) (kJ (kset (kset I 90 (mv1 I (40 * a + p) k)) 89 (mv2 I (40 * a + p) (40 * b + q) k)))) (m : Nat) : ∀ (i : Nat), i + m = k → Wd E d mX9_move 0 0 0 0 156 [some (.ref 81), some (.int (nI a)), some (.int (nI p)), some (.int (nI b)), some (.int (nI q)), some (.int (nI k)), some (.int (nI i))] [] (kJ (kset (kset I 90 (mv1 I (40 * a + p) k)) 89 (mv2 I (40 * a + p) (40 * b + q) i))) Q := by
  induction m with
  | zero =>
    intro i hi
    have e : i = k := by omega
    subst e
    refine il6 (n := 158) dX9_move_156 rfl ?_
    refine il5 (n := 160) dX9_move_158 rfl ?_
    refine k_icmp_ge (t := 191) (n := 163) dX9_move_160 (by decide) rfl (fun h160 => ?_) (fun h160 => ?_)
    · refine il5 (n := 193) dX9_move_191 rfl ?_
      refine k_ireturn (ty := .int) dX9_move_193 rfl rfl (Nat.le_refl _) (Nat.le_refl _) ?_
      exact hQ
    · exact absurd (Int32.le_refl _) h160
  | succ m ih =>
    intro i hi
    refine il6 (n := 158) dX9_move_156 rfl ?_
    refine il5 (n := 160) dX9_move_158 rfl ?_
    refine k_icmp_ge (t := 191) (n := 163) dX9_move_160 (by decide) rfl (fun h160 => ?_) (fun h160 => ?_)
    · exact absurd h160 (nI_ge (by omega) (by omega))
    · refine al0 (n := 164) dX9_move_163 rfl ?_
      refine gX9_31 (n := 167) dX9_move_164 rfl rfl rfl rfl ?_
      refine k_bipush (a := 40) (n := 169) dX9_move_167 rfl rfl ?_
      refine il3 (n := 170) dX9_move_169 rfl ?_
      refine k_imul (n := 171) dX9_move_170 rfl ?_
      refine il4 (n := 173) dX9_move_171 rfl ?_
      refine k_iadd (n := 174) dX9_move_173 rfl ?_
      refine il6 (n := 176) dX9_move_174 rfl ?_
      refine k_iadd (n := 177) dX9_move_176 rfl ?_
      refine al0 (n := 178) dX9_move_177 rfl ?_
      refine gX9_34 (n := 181) dX9_move_178 rfl rfl rfl rfl ?_
      refine il6 (n := 183) dX9_move_181 rfl ?_
      refine j_iald (j := i) (n := 184) dX9_move_183 rfl rfl rfl (by omega) (by decide) ?_
      try rw [kset_ne _ _ (show (90 : Nat) ≠ 89 by decide)]
      rw [kset_same, show mv1 I (40 * a + p) k i = I 89 (40 * a + p + i) from if_pos (by omega)]
      refine js_iast (j := 40 * b + q + i) (n := 185) dX9_move_184 rfl rfl (by show nI 40 * nI b + nI q + nI i = _; rw [pk_mul, nI_add, nI_add]) (by omega) (by decide) ?_
      rw [show upd (mv2 I (40 * a + p) (40 * b + q) i) (40 * b + q + i) (I 89 (40 * a + p + i)) = mv2 I (40 * a + p) (40 * b + q) (i + 1) from by
        funext t
        unfold upd mv2
        by_cases h1 : t = 40 * b + q + i
        · subst h1; rw [if_pos rfl, if_pos (by omega)]; congr 1; omega
        · rw [if_neg h1]
          by_cases h2 : 40 * b + q ≤ t ∧ t < 40 * b + q + i
          · rw [if_pos h2, if_pos (by omega)]
          · rw [if_neg h2, if_neg (by omega)]]
      refine ii6 (n := 188) dX9_move_185 rfl (ki1 _) trivial ?_
      rw [nI_1 i]
      refine k_goto (n := 156) dX9_move_188 (by decide) ?_
      exact ih (i + 1) (by omega)
set_option maxHeartbeats 2000000 in
set_option maxRecDepth 20000 in
theorem m_move_1 (a p b q k : Nat) (ha : a ≤ 3) (hb : b ≤ 3) (hp : p + k ≤ 40) (hq : q + k ≤ 40) (Q : Option Value → kM → Prop) (hQ : Q (some (.int (nI k))) (kJ (kset (kset I 90 (mv1 I (40 * a + p) k)) 89 (mv2 I (40 * a + p) (40 * b + q) k)))) (m : Nat) : ∀ (i : Nat), i + m = k → Wd E d mX9_move 0 0 0 0 119 [some (.ref 81), some (.int (nI a)), some (.int (nI p)), some (.int (nI b)), some (.int (nI q)), some (.int (nI k)), some (.int (nI i))] [] (kJ (kset I 90 (mv1 I (40 * a + p) i))) Q := by
  induction m with
  | zero =>
    intro i hi
    have e : i = k := by omega
    subst e
    refine il6 (n := 121) dX9_move_119 rfl ?_
    refine il5 (n := 123) dX9_move_121 rfl ?_
    refine k_icmp_ge (t := 153) (n := 126) dX9_move_123 (by decide) rfl (fun h123 => ?_) (fun h123 => ?_)
    · refine k_iconst (a := 0) (n := 154) dX9_move_153 rfl rfl ?_
      refine is6 (n := 156) dX9_move_154 rfl trivial ?_
      have h := m_move_2 (E := E) (d := d) (I := I) a p b q i ha hb hp hq Q hQ i 0 (by omega)
      have e0 : kset (kset I 90 (mv1 I (40 * a + p) i)) 89 (mv2 I (40 * a + p) (40 * b + q) 0) = kset I 90 (mv1 I (40 * a + p) i) := by
        rw [show mv2 I (40 * a + p) (40 * b + q) 0 = kset I 90 (mv1 I (40 * a + p) i) 89 from funext fun t => by unfold mv2; rw [if_neg (by omega)]; rfl, kset_self]
      rw [e0] at h
      exact h
    · exact absurd (Int32.le_refl _) h123
  | succ m ih =>
    intro i hi
    refine il6 (n := 121) dX9_move_119 rfl ?_
    refine il5 (n := 123) dX9_move_121 rfl ?_
    refine k_icmp_ge (t := 153) (n := 126) dX9_move_123 (by decide) rfl (fun h123 => ?_) (fun h123 => ?_)
    · exact absurd h123 (nI_ge (by omega) (by omega))
    · refine al0 (n := 127) dX9_move_126 rfl ?_
      refine gX9_34 (n := 130) dX9_move_127 rfl rfl rfl rfl ?_
      refine il6 (n := 132) dX9_move_130 rfl ?_
      refine al0 (n := 133) dX9_move_132 rfl ?_
      refine gX9_31 (n := 136) dX9_move_133 rfl rfl rfl rfl ?_
      refine k_bipush (a := 40) (n := 138) dX9_move_136 rfl rfl ?_
      refine il1 (n := 139) dX9_move_138 rfl ?_
      refine k_imul (n := 140) dX9_move_139 rfl ?_
      refine il2 (n := 141) dX9_move_140 rfl ?_
      refine k_iadd (n := 142) dX9_move_141 rfl ?_
      refine il6 (n := 144) dX9_move_142 rfl ?_
      refine k_iadd (n := 145) dX9_move_144 rfl ?_
      refine j_iald (j := 40 * a + p + i) (n := 146) dX9_move_145 rfl rfl (by show nI 40 * nI a + nI p + nI i = _; rw [pk_mul, nI_add, nI_add]) (by omega) (by decide) ?_
      try rw [kset_ne _ _ (show (89 : Nat) ≠ 90 by decide)]
      refine js_iast (j := i) (n := 147) dX9_move_146 rfl rfl rfl (by omega) (by decide) ?_
      rw [show upd (mv1 I (40 * a + p) i) i (I 89 (40 * a + p + i)) = mv1 I (40 * a + p) (i + 1) from by
        funext t
        unfold upd mv1
        by_cases h1 : t = i
        · subst h1; rw [if_pos rfl, if_pos (by omega)]
        · rw [if_neg h1]
          by_cases h2 : t < i
          · rw [if_pos h2, if_pos (by omega)]
          · rw [if_neg h2, if_neg (by omega)]]
      refine ii6 (n := 150) dX9_move_147 rfl (ki1 _) trivial ?_
      rw [nI_1 i]
      refine k_goto (n := 119) dX9_move_150 (by decide) ?_
      exact ih (i + 1) (by omega)
set_option maxHeartbeats 2000000 in
set_option maxRecDepth 20000 in
theorem m_move (hd : 2 ≤ d) (hS : SI I) (v i u j n : Int32) : Ct E d mX9_move 0 0 [.ref 81, .int v, .int i, .int u, .int j, .int n] (kJ I) (kR (s_move I v i u j n).1 (s_move I v i u j n).2) := by
  refine Ct.of (L := [some (.ref 81), some (.int v), some (.int i), some (.int u), some (.int j), some (.int n), none]) rfl rfl (Nat.le_of_ble_eq_true rfl) ?_
  refine il1 (n := 1) dX9_move_0 rfl ?_
  refine qiX9_206 (n := 4) dX9_move_1 rfl rfl (Nat.le_of_ble_eq_true rfl) (by omega) (m_isSheet (by omega) _) (Nat.le_refl _) (Nat.le_refl _) ?_
  refine k_ifb_eq (t := 14) (n := 7) dX9_move_4 (by decide) rfl (fun h4 => ?_) (fun h4 => ?_)
  · refine al0 (n := 15) dX9_move_14 rfl ?_
    refine cX9_45 (n := 17) dX9_move_15 rfl rfl ?_
    refine qiX9_46 (n := 20) dX9_move_17 rfl rfl (Nat.le_of_ble_eq_true rfl) (by omega) rfl (m_errs 1 _ (by decide) rfl) (Nat.le_refl _) (Nat.le_refl _) ?_
    refine k_ireturn (ty := .int) dX9_move_20 rfl rfl (Nat.le_refl _) (Nat.le_refl _) ?_
    (refine ⟨?_, ?_⟩ <;> simp only [s_move, if_neg h4])
  · obtain ⟨a, ha0, ha, rfl⟩ := kbt (a := 0) (b := 3) h4 (by decide) (by decide)
    refine il3 (n := 8) dX9_move_7 rfl ?_
    refine qiX9_206 (n := 11) dX9_move_8 rfl rfl (Nat.le_of_ble_eq_true rfl) (by omega) (m_isSheet (by omega) _) (Nat.le_refl _) (Nat.le_refl _) ?_
    refine k_ifb_ne (t := 21) (n := 14) dX9_move_11 (by decide) rfl (fun h11 => ?_) (fun h11 => ?_)
    · obtain ⟨b, hb0, hb, rfl⟩ := kbt (a := 0) (b := 3) h11 (by decide) (by decide)
      obtain ⟨s, hs, hs40⟩ := hS a (by omega)
      obtain ⟨s2, hs2, hs240⟩ := hS b (by omega)
      refine al0 (n := 22) dX9_move_21 rfl ?_
      refine gX9_25 (n := 25) dX9_move_22 rfl rfl rfl rfl ?_
      refine il1 (n := 26) dX9_move_25 rfl ?_
      refine j_iald (j := a) (n := 27) dX9_move_26 rfl rfl rfl (by omega) (by decide) ?_
      refine k_if_eq (t := 39) (n := 30) dX9_move_27 (by decide) rfl (fun h27 => ?_) (fun h27 => ?_)
      · refine al0 (n := 40) dX9_move_39 rfl ?_
        refine cX9_199 (n := 42) dX9_move_40 rfl rfl ?_
        refine qiX9_46 (n := 45) dX9_move_42 rfl rfl (Nat.le_of_ble_eq_true rfl) (by omega) rfl (m_errs 2 _ (by decide) rfl) (Nat.le_refl _) (Nat.le_refl _) ?_
        refine k_ireturn (ty := .int) dX9_move_45 rfl rfl (Nat.le_refl _) (Nat.le_refl _) ?_
        (refine ⟨?_, ?_⟩ <;> simp only [s_move, if_pos h4, kcl (show a < 1000 by omega), if_pos h11, kcl (show b < 1000 by omega), if_pos h27])
      · refine al0 (n := 31) dX9_move_30 rfl ?_
        refine gX9_25 (n := 34) dX9_move_31 rfl rfl rfl rfl ?_
        refine il3 (n := 35) dX9_move_34 rfl ?_
        refine j_iald (j := b) (n := 36) dX9_move_35 rfl rfl rfl (by omega) (by decide) ?_
        refine k_if_ne (t := 46) (n := 39) dX9_move_36 (by decide) rfl (fun h36 => ?_) (fun h36 => ?_)
        · refine al0 (n := 47) dX9_move_46 rfl ?_
          refine gX9_25 (n := 50) dX9_move_47 rfl rfl rfl rfl ?_
          refine il1 (n := 51) dX9_move_50 rfl ?_
          refine j_iald (j := a) (n := 52) dX9_move_51 rfl rfl rfl (by omega) (by decide) ?_
          refine al0 (n := 53) dX9_move_52 rfl ?_
          refine gX9_25 (n := 56) dX9_move_53 rfl rfl rfl rfl ?_
          refine il3 (n := 57) dX9_move_56 rfl ?_
          refine j_iald (j := b) (n := 58) dX9_move_57 rfl rfl rfl (by omega) (by decide) ?_
          refine k_icmp_eq (t := 68) (n := 61) dX9_move_58 (by decide) rfl (fun h58 => ?_) (fun h58 => ?_)
          · refine il5 (n := 70) dX9_move_68 rfl ?_
            refine k_if_lt (t := 109) (n := 73) dX9_move_70 (by decide) rfl (fun h70 => ?_) (fun h70 => ?_)
            · refine al0 (n := 110) dX9_move_109 rfl ?_
              refine cX9_45 (n := 112) dX9_move_110 rfl rfl ?_
              refine qiX9_46 (n := 115) dX9_move_112 rfl rfl (Nat.le_of_ble_eq_true rfl) (by omega) rfl (m_errs 1 _ (by decide) rfl) (Nat.le_refl _) (Nat.le_refl _) ?_
              refine k_ireturn (ty := .int) dX9_move_115 rfl rfl (Nat.le_refl _) (Nat.le_refl _) ?_
              (refine ⟨?_, ?_⟩ <;> simp only [s_move, if_pos h4, kcl (show a < 1000 by omega), if_pos h11, kcl (show b < 1000 by omega), if_neg h27, if_neg h36, if_pos h58, if_pos h70])
            · refine il2 (n := 74) dX9_move_73 rfl ?_
              refine k_if_lt (t := 109) (n := 77) dX9_move_74 (by decide) rfl (fun h74 => ?_) (fun h74 => ?_)
              · refine al0 (n := 110) dX9_move_109 rfl ?_
                refine cX9_45 (n := 112) dX9_move_110 rfl rfl ?_
                refine qiX9_46 (n := 115) dX9_move_112 rfl rfl (Nat.le_of_ble_eq_true rfl) (by omega) rfl (m_errs 1 _ (by decide) rfl) (Nat.le_refl _) (Nat.le_refl _) ?_
                refine k_ireturn (ty := .int) dX9_move_115 rfl rfl (Nat.le_refl _) (Nat.le_refl _) ?_
                (refine ⟨?_, ?_⟩ <;> simp only [s_move, if_pos h4, kcl (show a < 1000 by omega), if_pos h11, kcl (show b < 1000 by omega), if_neg h27, if_neg h36, if_pos h58, if_neg h70, if_pos h74])
              · refine il4 (n := 79) dX9_move_77 rfl ?_
                refine k_if_lt (t := 109) (n := 82) dX9_move_79 (by decide) rfl (fun h79 => ?_) (fun h79 => ?_)
                · refine al0 (n := 110) dX9_move_109 rfl ?_
                  refine cX9_45 (n := 112) dX9_move_110 rfl rfl ?_
                  refine qiX9_46 (n := 115) dX9_move_112 rfl rfl (Nat.le_of_ble_eq_true rfl) (by omega) rfl (m_errs 1 _ (by decide) rfl) (Nat.le_refl _) (Nat.le_refl _) ?_
                  refine k_ireturn (ty := .int) dX9_move_115 rfl rfl (Nat.le_refl _) (Nat.le_refl _) ?_
                  (refine ⟨?_, ?_⟩ <;> simp only [s_move, if_pos h4, kcl (show a < 1000 by omega), if_pos h11, kcl (show b < 1000 by omega), if_neg h27, if_neg h36, if_pos h58, if_neg h70, if_neg h74, if_pos h79])
                · refine il2 (n := 83) dX9_move_82 rfl ?_
                  refine al0 (n := 84) dX9_move_83 rfl ?_
                  refine gX9_28 (n := 87) dX9_move_84 rfl rfl rfl rfl ?_
                  refine il1 (n := 88) dX9_move_87 rfl ?_
                  refine j_iald (j := a) (n := 89) dX9_move_88 rfl rfl rfl (by omega) (by decide) ?_
                  refine il5 (n := 91) dX9_move_89 rfl ?_
                  refine k_isub (n := 92) dX9_move_91 rfl ?_
                  refine k_icmp_gt (t := 109) (n := 95) dX9_move_92 (by decide) rfl (fun h92 => ?_) (fun h92 => ?_)
                  · refine al0 (n := 110) dX9_move_109 rfl ?_
                    refine cX9_45 (n := 112) dX9_move_110 rfl rfl ?_
                    refine qiX9_46 (n := 115) dX9_move_112 rfl rfl (Nat.le_of_ble_eq_true rfl) (by omega) rfl (m_errs 1 _ (by decide) rfl) (Nat.le_refl _) (Nat.le_refl _) ?_
                    refine k_ireturn (ty := .int) dX9_move_115 rfl rfl (Nat.le_refl _) (Nat.le_refl _) ?_
                    (refine ⟨?_, ?_⟩ <;> simp only [s_move, if_pos h4, kcl (show a < 1000 by omega), if_pos h11, kcl (show b < 1000 by omega), if_neg h27, if_neg h36, if_pos h58, if_neg h70, if_neg h74, if_neg h79, if_pos h92])
                  · refine il4 (n := 97) dX9_move_95 rfl ?_
                    refine al0 (n := 98) dX9_move_97 rfl ?_
                    refine gX9_28 (n := 101) dX9_move_98 rfl rfl rfl rfl ?_
                    refine il3 (n := 102) dX9_move_101 rfl ?_
                    refine j_iald (j := b) (n := 103) dX9_move_102 rfl rfl rfl (by omega) (by decide) ?_
                    refine il5 (n := 105) dX9_move_103 rfl ?_
                    refine k_isub (n := 106) dX9_move_105 rfl ?_
                    refine k_icmp_le (t := 116) (n := 109) dX9_move_106 (by decide) rfl (fun h106 => ?_) (fun h106 => ?_)
                    · refine k_iconst (a := 0) (n := 117) dX9_move_116 rfl rfl ?_
                      refine is6 (n := 119) dX9_move_117 rfl trivial ?_
                      obtain ⟨p, k, rfl, rfl, hpk⟩ := kmv (z := 0) hs40 h70 h74 (hs ▸ h92)
                      obtain ⟨q, k2, e2, rfl, hqk⟩ := kmv (z := 0) hs240 h70 h79 (by rw [← hs2]; exact Int32.not_lt.mpr h106)
                      have hkk : k2 = k := by
                        have := congrArg Int32.toNatClampNeg e2
                        rw [kcl (by omega), kcl (by omega)] at this
                        exact this.symm
                      subst hkk
                      have h := m_move_1 (E := E) (d := d) (I := I) a p b q k2 ha hb (by omega) (by omega) (kR (s_move I (nI a) (nI p) (nI b) (nI q) (nI k2)).1 (s_move I (nI a) (nI p) (nI b) (nI q) (nI k2)).2) ?_ k2 0 (by omega)
                      · have e0 : kset I 90 (mv1 I (40 * a + p) 0) = I := by
                          rw [show mv1 I (40 * a + p) 0 = I 90 from funext fun t => if_neg (by omega), kset_self]
                        rw [e0] at h
                        exact h
                      · (refine ⟨?_, ?_⟩ <;> simp only [s_move, kcl (show p < 1000 by omega), kcl (show q < 1000 by omega), kcl (show k2 < 1000 by omega), if_pos h4, kcl (show a < 1000 by omega), if_pos h11, kcl (show b < 1000 by omega), if_neg h27, if_neg h36, if_pos h58, if_neg h70, if_neg h74, if_neg h79, if_neg h92, if_pos h106])
                    · refine al0 (n := 110) dX9_move_109 rfl ?_
                      refine cX9_45 (n := 112) dX9_move_110 rfl rfl ?_
                      refine qiX9_46 (n := 115) dX9_move_112 rfl rfl (Nat.le_of_ble_eq_true rfl) (by omega) rfl (m_errs 1 _ (by decide) rfl) (Nat.le_refl _) (Nat.le_refl _) ?_
                      refine k_ireturn (ty := .int) dX9_move_115 rfl rfl (Nat.le_refl _) (Nat.le_refl _) ?_
                      (refine ⟨?_, ?_⟩ <;> simp only [s_move, if_pos h4, kcl (show a < 1000 by omega), if_pos h11, kcl (show b < 1000 by omega), if_neg h27, if_neg h36, if_pos h58, if_neg h70, if_neg h74, if_neg h79, if_neg h92, if_neg h106])
          · refine al0 (n := 62) dX9_move_61 rfl ?_
            refine cX9_86 (n := 64) dX9_move_62 rfl rfl ?_
            refine qiX9_46 (n := 67) dX9_move_64 rfl rfl (Nat.le_of_ble_eq_true rfl) (by omega) rfl (m_errs 5 _ (by decide) rfl) (Nat.le_refl _) (Nat.le_refl _) ?_
            refine k_ireturn (ty := .int) dX9_move_67 rfl rfl (Nat.le_refl _) (Nat.le_refl _) ?_
            (refine ⟨?_, ?_⟩ <;> simp only [s_move, if_pos h4, kcl (show a < 1000 by omega), if_pos h11, kcl (show b < 1000 by omega), if_neg h27, if_neg h36, if_neg h58])
        · refine al0 (n := 40) dX9_move_39 rfl ?_
          refine cX9_199 (n := 42) dX9_move_40 rfl rfl ?_
          refine qiX9_46 (n := 45) dX9_move_42 rfl rfl (Nat.le_of_ble_eq_true rfl) (by omega) rfl (m_errs 2 _ (by decide) rfl) (Nat.le_refl _) (Nat.le_refl _) ?_
          refine k_ireturn (ty := .int) dX9_move_45 rfl rfl (Nat.le_refl _) (Nat.le_refl _) ?_
          (refine ⟨?_, ?_⟩ <;> simp only [s_move, if_pos h4, kcl (show a < 1000 by omega), if_pos h11, kcl (show b < 1000 by omega), if_neg h27, if_pos h36])
    · refine al0 (n := 15) dX9_move_14 rfl ?_
      refine cX9_45 (n := 17) dX9_move_15 rfl rfl ?_
      refine qiX9_46 (n := 20) dX9_move_17 rfl rfl (Nat.le_of_ble_eq_true rfl) (by omega) rfl (m_errs 1 _ (by decide) rfl) (Nat.le_refl _) (Nat.le_refl _) ?_
      refine k_ireturn (ty := .int) dX9_move_20 rfl rfl (Nat.le_refl _) (Nat.le_refl _) ?_
      (refine ⟨?_, ?_⟩ <;> simp only [s_move, if_pos h4, kcl (show a < 1000 by omega), if_neg h11])
end M13

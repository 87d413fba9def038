section M20
variable {E : kE} {d : Nat} {I : Nat → Nat → Int32} {r : Nat → Int32}
/-- the first z places are worn as g says -/
def whB (q g : Nat → Int32) : Nat → Bool
  | 0 => true
  | z + 1 => whB q g z && decide (q (13 + z) = g z)
abbrev whE (q g : Nat → Int32) (z : Nat) : Prop := whB q g z = true
theorem whE_s {q g : Nat → Int32} {z : Nat} : whE q g (z + 1) ↔ whE q g z ∧ q (13 + z) = g z := by unfold whE; rw [whB]; simp
def bit1 (j : Nat) : Int32 := (1 : Int32) <<< (nI j &&& 31)
abbrev hasF (s : Int32) (j : Nat) : Prop := (s >>> (nI j &&& 31)) &&& 1 = 1
def whQ (r : Nat → Int32) (n : Nat) (s : Int32) (j : Nat) : Nat → Int32 := passF (if hasF s j then n else 0) (upd r 12 (bit1 j))
abbrev whP (r : Nat → Int32) (n : Nat) (s : Int32) (g : Nat → Int32) (j : Nat) : Prop := hasF s j ∧ whE (whQ r n s j) g (sPl (whQ r n s j))
def whF (r : Nat → Int32) (n : Nat) (s : Int32) (g : Nat → Int32) : Nat → Int32
  | 0 => 0
  | j + 1 => whF r n s g j ||| (if whP r n s g j then bit1 j else 0)
def s_who (I : Nat → Nat → Int32) (r : Nat → Int32) (v n : Int32) : sT := if (0 ≤ v ∧ v ≤ 3) ∧ 0 ≤ n ∧ n ≤ 200 then if ¬ I 87 v.toNatClampNeg = 0 ∧ I 88 v.toNatClampNeg = r 3 then (whF r n.toNatClampNeg (setF r 0 (sMany r)) (fun z => I 89 (40 * v.toNatClampNeg + z)) (sMany r), r, 0) else sN r else sB r
set_option maxHeartbeats 2000000 in
set_option maxRecDepth 20000 in
theorem m_who_i (a n j : Nat) (ha : a < 4) (x3 s : Int32) (c : Nat) (h8 : c ≤ 8) {q : Nat → Int32} {J : Nat → Nat → Int32} (hc : q 3 = nI c) (f : Prop) [Decidable f] (Q : Option Value → kM → Prop) (hQ : ∀ x7, Wd E d mX9_who 0 0 0 0 183 [some (.ref 81), some (.int (nI a)), some (.int (nI n)), some (.int x3), some (.int s), some (.int (nI j)), some (.int (kb (f ∧ whE q (fun z => J 89 (40 * a + z)) c))), x7] [] (kJ (kset J 82 q)) Q) (m : Nat) : ∀ (i : Nat), i + m = c → Wd E d mX9_who 0 0 0 0 129 [some (.ref 81), some (.int (nI a)), some (.int (nI n)), some (.int x3), some (.int s), some (.int (nI j)), some (.int (kb (f ∧ whE q (fun z => J 89 (40 * a + z)) i))), some (.int (nI i))] [] (kJ (kset J 82 q)) Q := by
  induction m with
  | zero =>
    intro i hi
    have e : i = c := by omega
    subst e
    refine il7 (n := 131) dX9_who_129 rfl ?_
    refine al0 (n := 132) dX9_who_131 rfl ?_
    refine gX9_7 (n := 135) dX9_who_132 rfl rfl rfl rfl ?_
    refine k_iconst (a := 3) (n := 136) dX9_who_135 rfl rfl ?_
    refine js_iald (j := 3) (n := 137) dX9_who_136 rfl rfl rfl (by decide) (by decide) ?_
    refine k_icmp_ge (t := 183) (n := 140) dX9_who_137 (by decide) rfl (fun h137 => ?_) (fun h137 => ?_)
    · exact hQ _
    · exact absurd (by rw [hc]; exact Int32.le_refl _) h137
  | succ m ih =>
    intro i hi
    refine il7 (n := 131) dX9_who_129 rfl ?_
    refine al0 (n := 132) dX9_who_131 rfl ?_
    refine gX9_7 (n := 135) dX9_who_132 rfl rfl rfl rfl ?_
    refine k_iconst (a := 3) (n := 136) dX9_who_135 rfl rfl ?_
    refine js_iald (j := 3) (n := 137) dX9_who_136 rfl rfl rfl (by decide) (by decide) ?_
    refine k_icmp_ge (t := 183) (n := 140) dX9_who_137 (by decide) rfl (fun h137 => ?_) (fun h137 => ?_)
    · exact absurd h137 (by rw [hc]; exact nI_ge (by omega) (by omega))
    · refine il6 (n := 142) dX9_who_140 rfl ?_
      refine k_ifb_eq (t := 174) (n := 145) dX9_who_142 (by decide) rfl (fun h142 => ?_) (fun h142 => ?_)
      · refine k_iconst (a := 0) (n := 175) dX9_who_174 rfl rfl ?_
        refine is6 (n := 177) dX9_who_175 rfl trivial ?_
        refine ii7 (n := 180) dX9_who_177 rfl (ki1 _) trivial ?_
        rw [nI_1]
        refine k_goto (n := 129) dX9_who_180 (by decide) ?_
        have h := ih (i + 1) (by omega)
        first
          | (rw [kb_t ⟨h142.1, whE_s.mpr ⟨h142.2, h167⟩⟩] at h; exact h)
          | (rw [kb_f (fun k => h167 (whE_s.mp k.2).2)] at h; exact h)
          | (rw [kb_f (fun k => h142 ⟨k.1, (whE_s.mp k.2).1⟩)] at h; exact h)
      · refine al0 (n := 146) dX9_who_145 rfl ?_
        refine gX9_7 (n := 149) dX9_who_146 rfl rfl rfl rfl ?_
        refine k_bipush (a := 13) (n := 151) dX9_who_149 rfl rfl ?_
        refine il7 (n := 153) dX9_who_151 rfl ?_
        refine k_iadd (n := 154) dX9_who_153 rfl ?_
        refine js_iald (j := 13 + i) (n := 155) dX9_who_154 rfl rfl (by show nI 13 + nI i = _; rw [nI_add]) (by omega) (by decide) ?_
        refine al0 (n := 156) dX9_who_155 rfl ?_
        refine gX9_31 (n := 159) dX9_who_156 rfl rfl rfl rfl ?_
        refine k_bipush (a := 40) (n := 161) dX9_who_159 rfl rfl ?_
        refine il1 (n := 162) dX9_who_161 rfl ?_
        refine k_imul (n := 163) dX9_who_162 rfl ?_
        refine il7 (n := 165) dX9_who_163 rfl ?_
        refine k_iadd (n := 166) dX9_who_165 rfl ?_
        refine j_iald (j := 40 * a + i) (n := 167) dX9_who_166 rfl rfl (by show nI 40 * nI a + nI i = _; rw [pk_mul, nI_add]) (by omega) (by decide) ?_
        try rw [kset_ne _ _ (show (89 : Nat) ≠ 82 by decide)]
        refine k_icmp_ne (t := 174) (n := 170) dX9_who_167 (by decide) rfl (fun h167 => ?_) (fun h167 => ?_)
        · refine k_iconst (a := 0) (n := 175) dX9_who_174 rfl rfl ?_
          refine is6 (n := 177) dX9_who_175 rfl trivial ?_
          refine ii7 (n := 180) dX9_who_177 rfl (ki1 _) trivial ?_
          rw [nI_1]
          refine k_goto (n := 129) dX9_who_180 (by decide) ?_
          have h := ih (i + 1) (by omega)
          first
            | (rw [kb_t ⟨h142.1, whE_s.mpr ⟨h142.2, h167⟩⟩] at h; exact h)
            | (rw [kb_f (fun k => h167 (whE_s.mp k.2).2)] at h; exact h)
            | (rw [kb_f (fun k => h142 ⟨k.1, (whE_s.mp k.2).1⟩)] at h; exact h)
        · refine k_iconst (a := 1) (n := 171) dX9_who_170 rfl rfl ?_
          refine k_goto (n := 175) dX9_who_171 (by decide) ?_
          refine is6 (n := 177) dX9_who_175 rfl trivial ?_
          refine ii7 (n := 180) dX9_who_177 rfl (ki1 _) trivial ?_
          rw [nI_1]
          refine k_goto (n := 129) dX9_who_180 (by decide) ?_
          have h := ih (i + 1) (by omega)
          first
            | (rw [kb_t ⟨h142.1, whE_s.mpr ⟨h142.2, h167⟩⟩] at h; exact h)
            | (rw [kb_f (fun k => h167 (whE_s.mp k.2).2)] at h; exact h)
            | (rw [kb_f (fun k => h142 ⟨k.1, (whE_s.mp k.2).1⟩)] at h; exact h)
set_option maxHeartbeats 2000000 in
set_option maxRecDepth 20000 in
theorem m_who_l (hd : 66 ≤ d) (hR : RI r) (a n : Nat) (ha : a < 4) (hn : n ≤ 200) (s : Int32) (c : Nat) (hc : r 9 = nI c) (h8 : c ≤ 8) (hQ : ∀ K, kJnk I K → ∀ x6 x7, Wd E d mX9_who 0 0 0 0 217 [some (.ref 81), some (.int (nI a)), some (.int (nI n)), some (.int (whF r n s (fun z => I 89 (40 * a + z)) c)), some (.int s), some (.int (nI c)), x6, x7] [] (kJ (kset K 82 r)) (kU I (s_who I r (nI a) (nI n)))) (m : Nat) : ∀ (j : Nat) (J : Nat → Nat → Int32) (x6 x7 : Option Value), kJnk I J → (∀ x, x < 255 → J 84 x = r x) → j + m = c → Wd E d mX9_who 0 0 0 0 80 [some (.ref 81), some (.int (nI a)), some (.int (nI n)), some (.int (whF r n s (fun z => I 89 (40 * a + z)) j)), some (.int s), some (.int (nI j)), x6, x7] [] (kJ (kset J 82 r)) (kU I (s_who I r (nI a) (nI n))) := by
  induction m with
  | zero =>
    intro j J x6 x7 hJ hT hi
    have e : j = c := by omega
    subst e
    refine il5 (n := 82) dX9_who_80 rfl ?_
    refine al0 (n := 83) dX9_who_82 rfl ?_
    refine gX9_7 (n := 86) dX9_who_83 rfl rfl rfl rfl ?_
    refine k_bipush (a := 9) (n := 88) dX9_who_86 rfl rfl ?_
    refine js_iald (j := 9) (n := 89) dX9_who_88 rfl rfl rfl (by decide) (by decide) ?_
    refine k_icmp_ge (t := 217) (n := 92) dX9_who_89 (by decide) rfl (fun h89 => ?_) (fun h89 => ?_)
    · exact hQ J hJ _ _
    · exact absurd (by rw [hc]; exact Int32.le_refl _) h89
  | succ m ih =>
    intro j J x6 x7 hJ hT hi
    refine il5 (n := 82) dX9_who_80 rfl ?_
    refine al0 (n := 83) dX9_who_82 rfl ?_
    refine gX9_7 (n := 86) dX9_who_83 rfl rfl rfl rfl ?_
    refine k_bipush (a := 9) (n := 88) dX9_who_86 rfl rfl ?_
    refine js_iald (j := 9) (n := 89) dX9_who_88 rfl rfl rfl (by decide) (by decide) ?_
    refine k_icmp_ge (t := 217) (n := 92) dX9_who_89 (by decide) rfl (fun h89 => ?_) (fun h89 => ?_)
    · exact absurd h89 (by rw [hc]; exact nI_ge (by omega) (by omega))
    · refine il4 (n := 94) dX9_who_92 rfl ?_
      refine il5 (n := 96) dX9_who_94 rfl ?_
      refine qiX9_76 (n := 99) dX9_who_96 rfl rfl (Nat.le_of_ble_eq_true rfl) (by omega) (m_has _ _) (Nat.le_refl _) (Nat.le_refl _) ?_
      refine is6 (n := 101) dX9_who_99 rfl trivial ?_
      refine al0 (n := 102) dX9_who_101 rfl ?_
      refine gX9_7 (n := 105) dX9_who_102 rfl rfl rfl rfl ?_
      refine k_bipush (a := 12) (n := 107) dX9_who_105 rfl rfl ?_
      refine k_iconst (a := 1) (n := 108) dX9_who_107 rfl rfl ?_
      refine il5 (n := 110) dX9_who_108 rfl ?_
      refine k_ishl (n := 111) dX9_who_110 rfl ?_
      refine js_iast (j := 12) (n := 112) dX9_who_111 rfl rfl rfl (by decide) (by decide) ?_
      refine al0 (n := 113) dX9_who_112 rfl ?_
      refine il6 (n := 115) dX9_who_113 rfl ?_
      refine k_ifb_eq (t := 122) (n := 118) dX9_who_115 (by decide) rfl (fun h115 => ?_) (fun h115 => ?_)
      · refine k_iconst (a := 0) (n := 123) dX9_who_122 rfl rfl ?_
        refine qX9_186 (n := 126) dX9_who_123 rfl rfl (Nat.le_of_ble_eq_true rfl) (by omega) (Nat.le_refl _) (Nat.le_refl _) rfl (m_passes (by omega) (RI_c hR (by omega) _) 0 (by omega)) ?_
        rintro _ _ ⟨J1, rfl, rfl, hJ1⟩
        dsimp only [Option.toList, List.nil_append, Nat.add_zero]
        refine k_iconst (a := 0) (n := 127) dX9_who_126 rfl rfl ?_
        refine is7 (n := 129) dX9_who_127 rfl trivial ?_
        have hRq : RI (whQ r n s j) := RI_pass (RI_c hR (by omega) _) _
        obtain ⟨p, hp, h2p, h8p⟩ : ∃ c, whQ r n s j 3 = nI c ∧ 2 ≤ c ∧ c ≤ 8 := hRq.2.2.2.1
        have eP : sPl (whQ r n s j) = p := by unfold sPl; rw [hp]; exact kcl (by omega)
        have eG : J1 89 = I 89 := (hJ1.1 89 (by decide) (by decide)).trans (hJ.1 89 (by decide) (by decide) (by decide) (by decide) (by decide))
        have hT1 : ∀ x, x < 255 → J1 84 x = r x := fun x hx => by rw [hJ1.1 84 (by decide) (by decide)]; exact hT x hx
        have hJ2 := hJ.tr hJ1.up
        have key := m_who_i (E := E) (d := d) a n j ha (whF r n s (fun z => I 89 (40 * a + z)) j) s p h8p (q := whQ r n s j) (J := J1) hp (hasF s j) (kU I (s_who I r (nI a) (nI n))) (fun x7 => ?_) p 0 (by omega)
        · rw [show kb (hasF s j ∧ whE (whQ r n s j) (fun z => J1 89 (40 * a + z)) 0) = kb (hasF s j) from kb_iff ⟨fun h => h.1, fun h => ⟨h, rfl⟩⟩] at key
          first
            | (rw [show whQ r n s j = passF n (upd r 12 (bit1 j)) from by unfold whQ; rw [if_pos h115]] at key; exact key)
            | (rw [show whQ r n s j = passF 0 (upd r 12 (bit1 j)) from by unfold whQ; rw [if_neg h115]] at key; exact key)
        · rw [← eP, eG]
          refine il3 (n := 184) dX9_who_183 rfl ?_
          refine il6 (n := 186) dX9_who_184 rfl ?_
          refine k_ifb_eq (t := 196) (n := 189) dX9_who_186 (by decide) rfl (fun h186 => ?_) (fun h186 => ?_)
          · refine k_iconst (a := 0) (n := 197) dX9_who_196 rfl rfl ?_
            refine k_ior (n := 198) dX9_who_197 rfl ?_
            refine is3 (n := 199) dX9_who_198 rfl trivial ?_
            refine al0 (n := 200) dX9_who_199 rfl ?_
            refine al0 (n := 201) dX9_who_200 rfl ?_
            refine gX9_16 (n := 204) dX9_who_201 rfl rfl rfl rfl ?_
            refine al0 (n := 205) dX9_who_204 rfl ?_
            refine gX9_7 (n := 208) dX9_who_205 rfl rfl rfl rfl ?_
            refine qiX9_163 (n := 211) dX9_who_208 rfl rfl (Nat.le_of_ble_eq_true rfl) (by omega) rfl (m_back (b := 84) (r := r) rfl (by decide) hT1 (fun x hx => (hi_pass (RI_c hR (by omega) _) hx _).trans (pk_un (by omega)))) (Nat.le_refl _) (Nat.le_refl _) ?_
            refine ii5 (n := 214) dX9_who_211 rfl (ki1 _) trivial ?_
            rw [nI_1]
            refine k_goto (n := 80) dX9_who_214 (by decide) ?_
            have h : ∀ x6 x7, _ := fun x6 x7 => ih (j + 1) J1 x6 x7 hJ2 hT1 (by omega)
            simp only [whF] at h
            first
              | (rw [if_pos (show whP r n s (fun z => I 89 (40 * a + z)) j from h186)] at h; exact h _ _)
              | (rw [if_neg (show ¬ whP r n s (fun z => I 89 (40 * a + z)) j from h186)] at h; exact h _ _)
          · refine k_iconst (a := 1) (n := 190) dX9_who_189 rfl rfl ?_
            refine il5 (n := 192) dX9_who_190 rfl ?_
            refine k_ishl (n := 193) dX9_who_192 rfl ?_
            refine k_goto (n := 197) dX9_who_193 (by decide) ?_
            refine k_ior (n := 198) dX9_who_197 rfl ?_
            refine is3 (n := 199) dX9_who_198 rfl trivial ?_
            refine al0 (n := 200) dX9_who_199 rfl ?_
            refine al0 (n := 201) dX9_who_200 rfl ?_
            refine gX9_16 (n := 204) dX9_who_201 rfl rfl rfl rfl ?_
            refine al0 (n := 205) dX9_who_204 rfl ?_
            refine gX9_7 (n := 208) dX9_who_205 rfl rfl rfl rfl ?_
            refine qiX9_163 (n := 211) dX9_who_208 rfl rfl (Nat.le_of_ble_eq_true rfl) (by omega) rfl (m_back (b := 84) (r := r) rfl (by decide) hT1 (fun x hx => (hi_pass (RI_c hR (by omega) _) hx _).trans (pk_un (by omega)))) (Nat.le_refl _) (Nat.le_refl _) ?_
            refine ii5 (n := 214) dX9_who_211 rfl (ki1 _) trivial ?_
            rw [nI_1]
            refine k_goto (n := 80) dX9_who_214 (by decide) ?_
            have h : ∀ x6 x7, _ := fun x6 x7 => ih (j + 1) J1 x6 x7 hJ2 hT1 (by omega)
            simp only [whF] at h
            first
              | (rw [if_pos (show whP r n s (fun z => I 89 (40 * a + z)) j from h186)] at h; exact h _ _)
              | (rw [if_neg (show ¬ whP r n s (fun z => I 89 (40 * a + z)) j from h186)] at h; exact h _ _)
      · refine il2 (n := 119) dX9_who_118 rfl ?_
        refine k_goto (n := 123) dX9_who_119 (by decide) ?_
        refine qX9_186 (n := 126) dX9_who_123 rfl rfl (Nat.le_of_ble_eq_true rfl) (by omega) (Nat.le_refl _) (Nat.le_refl _) rfl (m_passes (by omega) (RI_c hR (by omega) _) n (by omega)) ?_
        rintro _ _ ⟨J1, rfl, rfl, hJ1⟩
        dsimp only [Option.toList, List.nil_append, Nat.add_zero]
        refine k_iconst (a := 0) (n := 127) dX9_who_126 rfl rfl ?_
        refine is7 (n := 129) dX9_who_127 rfl trivial ?_
        have hRq : RI (whQ r n s j) := RI_pass (RI_c hR (by omega) _) _
        obtain ⟨p, hp, h2p, h8p⟩ : ∃ c, whQ r n s j 3 = nI c ∧ 2 ≤ c ∧ c ≤ 8 := hRq.2.2.2.1
        have eP : sPl (whQ r n s j) = p := by unfold sPl; rw [hp]; exact kcl (by omega)
        have eG : J1 89 = I 89 := (hJ1.1 89 (by decide) (by decide)).trans (hJ.1 89 (by decide) (by decide) (by decide) (by decide) (by decide))
        have hT1 : ∀ x, x < 255 → J1 84 x = r x := fun x hx => by rw [hJ1.1 84 (by decide) (by decide)]; exact hT x hx
        have hJ2 := hJ.tr hJ1.up
        have key := m_who_i (E := E) (d := d) a n j ha (whF r n s (fun z => I 89 (40 * a + z)) j) s p h8p (q := whQ r n s j) (J := J1) hp (hasF s j) (kU I (s_who I r (nI a) (nI n))) (fun x7 => ?_) p 0 (by omega)
        · rw [show kb (hasF s j ∧ whE (whQ r n s j) (fun z => J1 89 (40 * a + z)) 0) = kb (hasF s j) from kb_iff ⟨fun h => h.1, fun h => ⟨h, rfl⟩⟩] at key
          first
            | (rw [show whQ r n s j = passF n (upd r 12 (bit1 j)) from by unfold whQ; rw [if_pos h115]] at key; exact key)
            | (rw [show whQ r n s j = passF 0 (upd r 12 (bit1 j)) from by unfold whQ; rw [if_neg h115]] at key; exact key)
        · rw [← eP, eG]
          refine il3 (n := 184) dX9_who_183 rfl ?_
          refine il6 (n := 186) dX9_who_184 rfl ?_
          refine k_ifb_eq (t := 196) (n := 189) dX9_who_186 (by decide) rfl (fun h186 => ?_) (fun h186 => ?_)
          · refine k_iconst (a := 0) (n := 197) dX9_who_196 rfl rfl ?_
            refine k_ior (n := 198) dX9_who_197 rfl ?_
            refine is3 (n := 199) dX9_who_198 rfl trivial ?_
            refine al0 (n := 200) dX9_who_199 rfl ?_
            refine al0 (n := 201) dX9_who_200 rfl ?_
            refine gX9_16 (n := 204) dX9_who_201 rfl rfl rfl rfl ?_
            refine al0 (n := 205) dX9_who_204 rfl ?_
            refine gX9_7 (n := 208) dX9_who_205 rfl rfl rfl rfl ?_
            refine qiX9_163 (n := 211) dX9_who_208 rfl rfl (Nat.le_of_ble_eq_true rfl) (by omega) rfl (m_back (b := 84) (r := r) rfl (by decide) hT1 (fun x hx => (hi_pass (RI_c hR (by omega) _) hx _).trans (pk_un (by omega)))) (Nat.le_refl _) (Nat.le_refl _) ?_
            refine ii5 (n := 214) dX9_who_211 rfl (ki1 _) trivial ?_
            rw [nI_1]
            refine k_goto (n := 80) dX9_who_214 (by decide) ?_
            have h : ∀ x6 x7, _ := fun x6 x7 => ih (j + 1) J1 x6 x7 hJ2 hT1 (by omega)
            simp only [whF] at h
            first
              | (rw [if_pos (show whP r n s (fun z => I 89 (40 * a + z)) j from h186)] at h; exact h _ _)
              | (rw [if_neg (show ¬ whP r n s (fun z => I 89 (40 * a + z)) j from h186)] at h; exact h _ _)
          · refine k_iconst (a := 1) (n := 190) dX9_who_189 rfl rfl ?_
            refine il5 (n := 192) dX9_who_190 rfl ?_
            refine k_ishl (n := 193) dX9_who_192 rfl ?_
            refine k_goto (n := 197) dX9_who_193 (by decide) ?_
            refine k_ior (n := 198) dX9_who_197 rfl ?_
            refine is3 (n := 199) dX9_who_198 rfl trivial ?_
            refine al0 (n := 200) dX9_who_199 rfl ?_
            refine al0 (n := 201) dX9_who_200 rfl ?_
            refine gX9_16 (n := 204) dX9_who_201 rfl rfl rfl rfl ?_
            refine al0 (n := 205) dX9_who_204 rfl ?_
            refine gX9_7 (n := 208) dX9_who_205 rfl rfl rfl rfl ?_
            refine qiX9_163 (n := 211) dX9_who_208 rfl rfl (Nat.le_of_ble_eq_true rfl) (by omega) rfl (m_back (b := 84) (r := r) rfl (by decide) hT1 (fun x hx => (hi_pass (RI_c hR (by omega) _) hx _).trans (pk_un (by omega)))) (Nat.le_refl _) (Nat.le_refl _) ?_
            refine ii5 (n := 214) dX9_who_211 rfl (ki1 _) trivial ?_
            rw [nI_1]
            refine k_goto (n := 80) dX9_who_214 (by decide) ?_
            have h : ∀ x6 x7, _ := fun x6 x7 => ih (j + 1) J1 x6 x7 hJ2 hT1 (by omega)
            simp only [whF] at h
            first
              | (rw [if_pos (show whP r n s (fun z => I 89 (40 * a + z)) j from h186)] at h; exact h _ _)
              | (rw [if_neg (show ¬ whP r n s (fun z => I 89 (40 * a + z)) j from h186)] at h; exact h _ _)
set_option maxHeartbeats 2000000 in
set_option maxRecDepth 20000 in
theorem m_who (hd : 68 ≤ d) (hR : RI r) (v n : Int32) : Ct E d mX9_who 0 0 [.ref 81, .int v, .int n] (kJ (kset I 82 r)) (kU I (s_who I r v n)) := by
  obtain ⟨⟨c, hc, h8⟩, -⟩ := id hR
  have eM : sMany r = c := by unfold sMany; rw [hc]; exact kcl (by omega)
  refine Ct.of (L := [some (.ref 81), some (.int v), some (.int n), none, none, none, none, none]) rfl rfl (Nat.le_of_ble_eq_true rfl) ?_
  refine il1 (n := 1) dX9_who_0 rfl ?_
  refine qiX9_206 (n := 4) dX9_who_1 rfl rfl (Nat.le_of_ble_eq_true rfl) (by omega) (m_isSheet (by omega) _) (Nat.le_refl _) (Nat.le_refl _) ?_
  refine k_ifb_eq (t := 18) (n := 7) dX9_who_4 (by decide) rfl (fun h4 => ?_) (fun h4 => ?_)
  · refine al0 (n := 19) dX9_who_18 rfl ?_
    refine cX9_45 (n := 21) dX9_who_19 rfl rfl ?_
    refine qiX9_46 (n := 24) dX9_who_21 rfl rfl (Nat.le_of_ble_eq_true rfl) (by omega) rfl (m_errs 1 _ (by decide) rfl) (Nat.le_refl _) (Nat.le_refl _) ?_
    refine k_ireturn (ty := .int) dX9_who_24 rfl rfl (Nat.le_refl _) (Nat.le_refl _) ?_
    first
      | (refine ⟨I, ?_, ?_, kJnk.rf I⟩ <;> simp only [s_who, sB, ke1, if_neg (fun h : (0 ≤ v ∧ v ≤ 3) ∧ 0 ≤ n ∧ n ≤ 200 => h4 h.1)])
      | (refine ⟨I, ?_, ?_, kJnk.rf I⟩ <;> simp only [s_who, sB, ke1, if_neg (fun h : (0 ≤ nI a ∧ nI a ≤ 3) ∧ 0 ≤ n ∧ n ≤ 200 => h15 h.2)])
      | (refine ⟨I, ?_, ?_, kJnk.rf I⟩ <;> simp only [s_who, sN, ke2, kcl (show a < 1000 by omega), if_pos (And.intro h4 h15), if_neg (fun h : ¬ I 87 a = 0 ∧ I 88 a = r 3 => h46 h.2)])
      | (refine ⟨I, ?_, ?_, kJnk.rf I⟩ <;> simp only [s_who, sN, ke2, kcl (show a < 1000 by omega), if_pos (And.intro h4 h15), if_neg (fun h : ¬ I 87 a = 0 ∧ I 88 a = r 3 => h.1 h31)])
  · obtain ⟨a, -, ha, rfl⟩ := kbt (a := 0) (b := 3) h4 (by decide) (by decide)
    refine il2 (n := 8) dX9_who_7 rfl ?_
    refine k_iconst (a := 0) (n := 9) dX9_who_8 rfl rfl ?_
    refine k_sipush (a := 200) (n := 12) dX9_who_9 rfl rfl ?_
    refine qiX9_41 (n := 15) dX9_who_12 rfl rfl (Nat.le_of_ble_eq_true rfl) (by omega) (m_in _ _ _) (Nat.le_refl _) (Nat.le_refl _) ?_
    refine k_ifb_ne (t := 25) (n := 18) dX9_who_15 (by decide) rfl (fun h15 => ?_) (fun h15 => ?_)
    · obtain ⟨n, -, hn, rfl⟩ := kbt (a := 0) (b := 200) h15 (by decide) (by decide)
      refine al0 (n := 26) dX9_who_25 rfl ?_
      refine gX9_25 (n := 29) dX9_who_26 rfl rfl rfl rfl ?_
      refine il1 (n := 30) dX9_who_29 rfl ?_
      refine j_iald (j := a) (n := 31) dX9_who_30 rfl rfl rfl (by omega) (by decide) ?_
      try rw [kset_ne _ _ (show (87 : Nat) ≠ 82 by decide)]
      refine k_if_eq (t := 49) (n := 34) dX9_who_31 (by decide) rfl (fun h31 => ?_) (fun h31 => ?_)
      · refine al0 (n := 50) dX9_who_49 rfl ?_
        refine cX9_199 (n := 52) dX9_who_50 rfl rfl ?_
        refine qiX9_46 (n := 55) dX9_who_52 rfl rfl (Nat.le_of_ble_eq_true rfl) (by omega) rfl (m_errs 2 _ (by decide) rfl) (Nat.le_refl _) (Nat.le_refl _) ?_
        refine k_ireturn (ty := .int) dX9_who_55 rfl rfl (Nat.le_refl _) (Nat.le_refl _) ?_
        first
          | (refine ⟨I, ?_, ?_, kJnk.rf I⟩ <;> simp only [s_who, sB, ke1, if_neg (fun h : (0 ≤ v ∧ v ≤ 3) ∧ 0 ≤ n ∧ n ≤ 200 => h4 h.1)])
          | (refine ⟨I, ?_, ?_, kJnk.rf I⟩ <;> simp only [s_who, sB, ke1, if_neg (fun h : (0 ≤ nI a ∧ nI a ≤ 3) ∧ 0 ≤ n ∧ n ≤ 200 => h15 h.2)])
          | (refine ⟨I, ?_, ?_, kJnk.rf I⟩ <;> simp only [s_who, sN, ke2, kcl (show a < 1000 by omega), if_pos (And.intro h4 h15), if_neg (fun h : ¬ I 87 a = 0 ∧ I 88 a = r 3 => h46 h.2)])
          | (refine ⟨I, ?_, ?_, kJnk.rf I⟩ <;> simp only [s_who, sN, ke2, kcl (show a < 1000 by omega), if_pos (And.intro h4 h15), if_neg (fun h : ¬ I 87 a = 0 ∧ I 88 a = r 3 => h.1 h31)])
      · refine al0 (n := 35) dX9_who_34 rfl ?_
        refine gX9_28 (n := 38) dX9_who_35 rfl rfl rfl rfl ?_
        refine il1 (n := 39) dX9_who_38 rfl ?_
        refine j_iald (j := a) (n := 40) dX9_who_39 rfl rfl rfl (by omega) (by decide) ?_
        try rw [kset_ne _ _ (show (88 : Nat) ≠ 82 by decide)]
        refine al0 (n := 41) dX9_who_40 rfl ?_
        refine gX9_7 (n := 44) dX9_who_41 rfl rfl rfl rfl ?_
        refine k_iconst (a := 3) (n := 45) dX9_who_44 rfl rfl ?_
        refine js_iald (j := 3) (n := 46) dX9_who_45 rfl rfl rfl (by decide) (by decide) ?_
        refine k_icmp_eq (t := 56) (n := 49) dX9_who_46 (by decide) rfl (fun h46 => ?_) (fun h46 => ?_)
        · refine k_iconst (a := 0) (n := 57) dX9_who_56 rfl rfl ?_
          refine is3 (n := 58) dX9_who_57 rfl trivial ?_
          refine al0 (n := 59) dX9_who_58 rfl ?_
          refine k_iconst (a := 0) (n := 60) dX9_who_59 rfl rfl ?_
          refine qiX9_189 (n := 63) dX9_who_60 rfl rfl (Nat.le_of_ble_eq_true rfl) (by omega) rfl (m_setOf (by omega) hR 0) (Nat.le_refl _) (Nat.le_refl _) ?_
          refine is4 (n := 65) dX9_who_63 rfl trivial ?_
          refine al0 (n := 66) dX9_who_65 rfl ?_
          refine al0 (n := 67) dX9_who_66 rfl ?_
          refine gX9_7 (n := 70) dX9_who_67 rfl rfl rfl rfl ?_
          refine al0 (n := 71) dX9_who_70 rfl ?_
          refine gX9_16 (n := 74) dX9_who_71 rfl rfl rfl rfl ?_
          refine qiX9_163 (n := 77) dX9_who_74 rfl rfl (Nat.le_of_ble_eq_true rfl) (by omega) rfl (m_save (b := 84) rfl (by decide)) (Nat.le_refl _) (Nat.le_refl _) ?_
          refine k_iconst (a := 0) (n := 78) dX9_who_77 rfl rfl ?_
          refine is5 (n := 80) dX9_who_78 rfl trivial ?_
          refine m_who_l (by omega) hR a n (by omega) hn _ c hc h8 (fun K hK x6 x7 => ?_) c 0 (kset I 84 (svF r (I 84))) none none (kJnk.set _ (Or.inl rfl)) (fun x hx => by rw [kset_same]; exact if_pos hx) (by omega)
          have e1 : s_who I r (nI a) (nI n) = (whF r n (setF r 0 (sMany r)) (fun z => I 89 (40 * a + z)) (sMany r), r, 0) := by simp only [s_who, kcl (show a < 1000 by omega), kcl (show n < 1000 by omega), if_pos (And.intro h4 h15), if_pos (And.intro h31 h46)]
          rw [e1, ← eM]
          refine il3 (n := 218) dX9_who_217 rfl ?_
          exact k_ireturn (ty := .int) dX9_who_218 rfl rfl (Nat.le_refl _) (Nat.le_refl _) ⟨K, rfl, by rw [ke0], hK⟩
        · refine al0 (n := 50) dX9_who_49 rfl ?_
          refine cX9_199 (n := 52) dX9_who_50 rfl rfl ?_
          refine qiX9_46 (n := 55) dX9_who_52 rfl rfl (Nat.le_of_ble_eq_true rfl) (by omega) rfl (m_errs 2 _ (by decide) rfl) (Nat.le_refl _) (Nat.le_refl _) ?_
          refine k_ireturn (ty := .int) dX9_who_55 rfl rfl (Nat.le_refl _) (Nat.le_refl _) ?_
          first
            | (refine ⟨I, ?_, ?_, kJnk.rf I⟩ <;> simp only [s_who, sB, ke1, if_neg (fun h : (0 ≤ v ∧ v ≤ 3) ∧ 0 ≤ n ∧ n ≤ 200 => h4 h.1)])
            | (refine ⟨I, ?_, ?_, kJnk.rf I⟩ <;> simp only [s_who, sB, ke1, if_neg (fun h : (0 ≤ nI a ∧ nI a ≤ 3) ∧ 0 ≤ n ∧ n ≤ 200 => h15 h.2)])
            | (refine ⟨I, ?_, ?_, kJnk.rf I⟩ <;> simp only [s_who, sN, ke2, kcl (show a < 1000 by omega), if_pos (And.intro h4 h15), if_neg (fun h : ¬ I 87 a = 0 ∧ I 88 a = r 3 => h46 h.2)])
            | (refine ⟨I, ?_, ?_, kJnk.rf I⟩ <;> simp only [s_who, sN, ke2, kcl (show a < 1000 by omega), if_pos (And.intro h4 h15), if_neg (fun h : ¬ I 87 a = 0 ∧ I 88 a = r 3 => h.1 h31)])
    · refine al0 (n := 19) dX9_who_18 rfl ?_
      refine cX9_45 (n := 21) dX9_who_19 rfl rfl ?_
      refine qiX9_46 (n := 24) dX9_who_21 rfl rfl (Nat.le_of_ble_eq_true rfl) (by omega) rfl (m_errs 1 _ (by decide) rfl) (Nat.le_refl _) (Nat.le_refl _) ?_
      refine k_ireturn (ty := .int) dX9_who_24 rfl rfl (Nat.le_refl _) (Nat.le_refl _) ?_
      first
        | (refine ⟨I, ?_, ?_, kJnk.rf I⟩ <;> simp only [s_who, sB, ke1, if_neg (fun h : (0 ≤ v ∧ v ≤ 3) ∧ 0 ≤ n ∧ n ≤ 200 => h4 h.1)])
        | (refine ⟨I, ?_, ?_, kJnk.rf I⟩ <;> simp only [s_who, sB, ke1, if_neg (fun h : (0 ≤ nI a ∧ nI a ≤ 3) ∧ 0 ≤ n ∧ n ≤ 200 => h15 h.2)])
        | (refine ⟨I, ?_, ?_, kJnk.rf I⟩ <;> simp only [s_who, sN, ke2, kcl (show a < 1000 by omega), if_pos (And.intro h4 h15), if_neg (fun h : ¬ I 87 a = 0 ∧ I 88 a = r 3 => h46 h.2)])
        | (refine ⟨I, ?_, ?_, kJnk.rf I⟩ <;> simp only [s_who, sN, ke2, kcl (show a < 1000 by omega), if_pos (And.intro h4 h15), if_neg (fun h : ¬ I 87 a = 0 ∧ I 88 a = r 3 => h.1 h31)])
end M20

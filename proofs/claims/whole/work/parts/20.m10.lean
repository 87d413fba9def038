theorem upd_upd (f : Nat → Int32) (k : Nat) (a b : Int32) : upd (upd f k a) k b = upd f k b := by
  funext j
  by_cases h : j = k
  · subst h; rw [pk_us, pk_us]
  · rw [pk_un h, pk_un h, pk_un h]
theorem upd_self (f : Nat → Int32) (k : Nat) : upd f k (f k) = f := by
  funext j
  by_cases h : j = k
  · subst h; rw [pk_us]
  · rw [pk_un h]
/-- how many, and which is the first, of m from i on -/
def rhC (P : Nat → Prop) [DecidablePred P] : Nat → Nat → Nat
  | 0, _ => 0
  | m + 1, i => rhC P m (i + 1) + (if P i then 1 else 0)
def rhL (P : Nat → Prop) [DecidablePred P] : Nat → Nat → Nat
  | 0, _ => 0
  | m + 1, i => if P i then i else rhL P m (i + 1)
abbrev rhP (r : Nat → Int32) (k : Nat) (al no : Int32) : Nat → Prop := fun x => nI (norF (upd r 10 (nI x)) (al ||| no) k) &&& al = al ∧ nI (norF (upd r 10 (nI x)) (al ||| no) k) &&& no = 0
theorem rhC_le (P : Nat → Prop) [DecidablePred P] : ∀ m i, rhC P m i ≤ m
  | 0, i => Nat.le_refl _
  | m + 1, i => by
    unfold rhC
    have := rhC_le P m (i + 1)
    split <;> omega
theorem xm1 (x : Int32) : x - 1 = x + (-1) := by rw [Int32.sub_eq_add_neg]
section M10
variable {E : kE} {d : Nat} {I : Nat → Nat → Int32} {r : Nat → Int32}
set_option maxHeartbeats 2000000 in
set_option maxRecDepth 20000 in
theorem m_rhymes_l (hd : 67 ≤ d) (hR : RI r) (k : Nat) (hk : k ≤ 60) (al no q : Int32) (D : Nat) (hD : D ≤ 256) (Q : Option Value → kM → Prop) (hQ : ∀ K, kJnk I K → ∀ (y : Int32) (x9 : Option Value), Wd E d mX9_rhymes 0 0 0 0 146 [some (.ref 81), some (.int (nI k)), some (.int al), some (.int no), some (.int q), some (.int (r 10)), some (.int (nI (rhC (rhP r k al no) D 0))), some (.int (nI (rhL (rhP r k al no) D 0))), some (.int (-1)), x9] [] (kJ (kset K 82 (upd r 10 y))) Q) (m : Nat) : ∀ (J : Nat → Nat → Int32) (y : Int32) (x9 : Option Value), kJnk I J → m ≤ D → Wd E d mX9_rhymes 0 0 0 0 94 [some (.ref 81), some (.int (nI k)), some (.int al), some (.int no), some (.int q), some (.int (r 10)), some (.int (nI (rhC (rhP r k al no) (D - m) m))), some (.int (nI (rhL (rhP r k al no) (D - m) m))), some (.int (nI m + (-1))), x9] [] (kJ (kset J 82 (upd r 10 y))) Q := by
  induction m with
  | zero =>
    intro J y x9 hJ hm
    refine il8 (n := 96) dX9_rhymes_94 rfl ?_
    refine k_if_lt (t := 146) (n := 99) dX9_rhymes_96 (by decide) rfl (fun h96 => ?_) (fun h96 => ?_)
    · exact hQ J hJ y x9
    · exact absurd (by decide) h96
  | succ m ih =>
    intro J y x9 hJ hm
    rw [pk_m1]
    refine il8 (n := 96) dX9_rhymes_94 rfl ?_
    refine k_if_lt (t := 146) (n := 99) dX9_rhymes_96 (by decide) rfl (fun h96 => ?_) (fun h96 => ?_)
    · exact absurd h96 (nI_pos (by omega))
    · refine al0 (n := 100) dX9_rhymes_99 rfl ?_
      refine gX9_7 (n := 103) dX9_rhymes_100 rfl rfl rfl rfl ?_
      refine k_bipush (a := 10) (n := 105) dX9_rhymes_103 rfl rfl ?_
      refine il8 (n := 107) dX9_rhymes_105 rfl ?_
      refine js_iast (j := 10) (n := 108) dX9_rhymes_107 rfl rfl rfl (by decide) (by decide) ?_
      rw [upd_upd]
      refine al0 (n := 109) dX9_rhymes_108 rfl ?_
      refine il2 (n := 110) dX9_rhymes_109 rfl ?_
      refine il3 (n := 111) dX9_rhymes_110 rfl ?_
      refine k_ior (n := 112) dX9_rhymes_111 rfl ?_
      refine il1 (n := 113) dX9_rhymes_112 rfl ?_
      refine qX9_200 (n := 116) dX9_rhymes_113 rfl rfl (Nat.le_of_ble_eq_true rfl) (by omega) (Nat.le_refl _) (Nat.le_refl _) rfl (m_northOf (by omega) (RI_c hR (by omega) _) _ k (by omega)) ?_
      rintro _ _ ⟨J1, rfl, rfl, hJ1⟩
      dsimp only [Option.toList, List.cons_append, List.nil_append, Nat.add_zero]
      refine is9 (n := 118) dX9_rhymes_116 rfl trivial ?_
      refine il9 (n := 120) dX9_rhymes_118 rfl ?_
      refine il2 (n := 121) dX9_rhymes_120 rfl ?_
      refine k_iand (n := 122) dX9_rhymes_121 rfl ?_
      refine il2 (n := 123) dX9_rhymes_122 rfl ?_
      refine k_icmp_ne (t := 140) (n := 126) dX9_rhymes_123 (by decide) rfl (fun h123 => ?_) (fun h123 => ?_)
      · refine ii8 (n := 143) dX9_rhymes_140 rfl (kim1 _) trivial ?_
        refine k_goto (n := 94) dX9_rhymes_143 (by decide) ?_
        have e : D - m = (D - (m + 1)) + 1 := by omega
        have h := ih J1 (nI m) (some (.int (nI (norF (upd r 10 (nI m)) (al ||| no) k)))) (hJ.tr hJ1) (by omega)
        first
          | (have hp : rhP r k al no m := ⟨h123, h130⟩
             rw [e] at h
             simp only [rhC, rhL, if_pos hp, ← nI_1] at h
             exact h)
          | (have hp : ¬ rhP r k al no m := fun h => by first | exact h130 h.2 | exact h123 h.1
             rw [e] at h
             simp only [rhC, rhL, if_neg hp, Nat.add_zero] at h
             exact h)
      · refine il9 (n := 128) dX9_rhymes_126 rfl ?_
        refine il3 (n := 129) dX9_rhymes_128 rfl ?_
        refine k_iand (n := 130) dX9_rhymes_129 rfl ?_
        refine k_if_ne (t := 140) (n := 133) dX9_rhymes_130 (by decide) rfl (fun h130 => ?_) (fun h130 => ?_)
        · refine ii8 (n := 143) dX9_rhymes_140 rfl (kim1 _) trivial ?_
          refine k_goto (n := 94) dX9_rhymes_143 (by decide) ?_
          have e : D - m = (D - (m + 1)) + 1 := by omega
          have h := ih J1 (nI m) (some (.int (nI (norF (upd r 10 (nI m)) (al ||| no) k)))) (hJ.tr hJ1) (by omega)
          first
            | (have hp : rhP r k al no m := ⟨h123, h130⟩
               rw [e] at h
               simp only [rhC, rhL, if_pos hp, ← nI_1] at h
               exact h)
            | (have hp : ¬ rhP r k al no m := fun h => by first | exact h130 h.2 | exact h123 h.1
               rw [e] at h
               simp only [rhC, rhL, if_neg hp, Nat.add_zero] at h
               exact h)
        · refine ii6 (n := 136) dX9_rhymes_133 rfl (ki1 _) trivial ?_
          refine il8 (n := 138) dX9_rhymes_136 rfl ?_
          refine is7 (n := 140) dX9_rhymes_138 rfl trivial ?_
          refine ii8 (n := 143) dX9_rhymes_140 rfl (kim1 _) trivial ?_
          refine k_goto (n := 94) dX9_rhymes_143 (by decide) ?_
          have e : D - m = (D - (m + 1)) + 1 := by omega
          have h := ih J1 (nI m) (some (.int (nI (norF (upd r 10 (nI m)) (al ||| no) k)))) (hJ.tr hJ1) (by omega)
          first
            | (have hp : rhP r k al no m := ⟨h123, h130⟩
               rw [e] at h
               simp only [rhC, rhL, if_pos hp, ← nI_1] at h
               exact h)
            | (have hp : ¬ rhP r k al no m := fun h => by first | exact h130 h.2 | exact h123 h.1
               rw [e] at h
               simp only [rhC, rhL, if_neg hp, Nat.add_zero] at h
               exact h)
def sPw (r : Nat → Int32) : Nat := 2 ^ (r 1).toNatClampNeg
def s_rhymes (r : Nat → Int32) (n al no q : Int32) : sT := if 0 ≤ n ∧ n ≤ 60 then if 0 ≤ al ∧ al ≤ ((1 : Int32) <<< (r 9 &&& 31)) - 1 then if 0 ≤ no ∧ no ≤ ((1 : Int32) <<< (r 9 &&& 31)) - 1 then if al &&& no = 0 then if 0 ≤ q ∧ q ≤ 1 then if r 1 ≤ 8 then
  (if q = 1 then (if nI (rhC (rhP r n.toNatClampNeg al no) (sPw r) 0) = 0 then sN r else (if q = 0 then (nI (rhC (rhP r n.toNatClampNeg al no) (sPw r) 0), r, 0) else (nI (rhL (rhP r n.toNatClampNeg al no) (sPw r) 0), r, 0))) else (if q = 0 then (nI (rhC (rhP r n.toNatClampNeg al no) (sPw r) 0), r, 0) else (nI (rhL (rhP r n.toNatClampNeg al no) (sPw r) 0), r, 0))) else sS r else sB r else sB r else sB r else sB r else sB r
set_option maxHeartbeats 2000000 in
set_option maxRecDepth 20000 in
theorem m_rhymes (hd : 68 ≤ d) (hR : RI r) (n al no q : Int32) : Ct E d mX9_rhymes 0 0 [.ref 81, .int n, .int al, .int no, .int q] (kJ (kset I 82 r)) (kU I (s_rhymes r n al no q)) := by
  obtain ⟨-, -, -, -, -, -, ⟨c, hc, h1, h16⟩, -⟩ := id hR
  refine Ct.of (L := [some (.ref 81), some (.int n), some (.int al), some (.int no), some (.int q), none, none, none, none, none]) rfl rfl (Nat.le_of_ble_eq_true rfl) ?_
  refine il1 (n := 1) dX9_rhymes_0 rfl ?_
  refine k_iconst (a := 0) (n := 2) dX9_rhymes_1 rfl rfl ?_
  refine k_bipush (a := 60) (n := 4) dX9_rhymes_2 rfl rfl ?_
  refine qiX9_41 (n := 7) dX9_rhymes_4 rfl rfl (Nat.le_of_ble_eq_true rfl) (by omega) (m_in _ _ _) (Nat.le_refl _) (Nat.le_refl _) ?_
  refine k_ifb_eq (t := 42) (n := 10) dX9_rhymes_7 (by decide) rfl (fun h7 => ?_) (fun h7 => ?_)
  · refine al0 (n := 43) dX9_rhymes_42 rfl ?_
    refine cX9_45 (n := 45) dX9_rhymes_43 rfl rfl ?_
    refine qiX9_46 (n := 48) dX9_rhymes_45 rfl rfl (Nat.le_of_ble_eq_true rfl) (by omega) rfl (m_errs 1 _ (by decide) rfl) (Nat.le_refl _) (Nat.le_refl _) ?_
    refine k_ireturn (ty := .int) dX9_rhymes_48 rfl rfl (Nat.le_refl _) (Nat.le_refl _) ?_
    first | exact ⟨J1, by simp only [s_rhymes, sB, sN, sS, sF, if_neg h7], by simp only [s_rhymes, sB, sN, sS, sF, ke0, ke1, ke2, ke3, ke4, if_neg h7], hJ1.up⟩ | exact ⟨I, by simp only [s_rhymes, sB, sN, sS, sF, if_neg h7], by simp only [s_rhymes, sB, sN, sS, sF, ke0, ke1, ke2, ke3, ke4, if_neg h7], kJnk.rf I⟩
  · obtain ⟨k, -, hk, rfl⟩ := kbt (a := 0) (b := 60) h7 (by decide) (by decide)
    refine al0 (n := 11) dX9_rhymes_10 rfl ?_
    refine il2 (n := 12) dX9_rhymes_11 rfl ?_
    refine qiX9_87 (n := 15) dX9_rhymes_12 rfl rfl (Nat.le_of_ble_eq_true rfl) (by omega) rfl (m_isSet (by omega) _) (Nat.le_refl _) (Nat.le_refl _) ?_
    refine k_ifb_eq (t := 42) (n := 18) dX9_rhymes_15 (by decide) rfl (fun h15 => ?_) (fun h15 => ?_)
    · refine al0 (n := 43) dX9_rhymes_42 rfl ?_
      refine cX9_45 (n := 45) dX9_rhymes_43 rfl rfl ?_
      refine qiX9_46 (n := 48) dX9_rhymes_45 rfl rfl (Nat.le_of_ble_eq_true rfl) (by omega) rfl (m_errs 1 _ (by decide) rfl) (Nat.le_refl _) (Nat.le_refl _) ?_
      refine k_ireturn (ty := .int) dX9_rhymes_48 rfl rfl (Nat.le_refl _) (Nat.le_refl _) ?_
      first | exact ⟨J1, by simp only [s_rhymes, sB, sN, sS, sF, if_pos h7, kcl (show k < 1000 by omega), if_neg h15], by simp only [s_rhymes, sB, sN, sS, sF, ke0, ke1, ke2, ke3, ke4, if_pos h7, kcl (show k < 1000 by omega), if_neg h15], hJ1.up⟩ | exact ⟨I, by simp only [s_rhymes, sB, sN, sS, sF, if_pos h7, kcl (show k < 1000 by omega), if_neg h15], by simp only [s_rhymes, sB, sN, sS, sF, ke0, ke1, ke2, ke3, ke4, if_pos h7, kcl (show k < 1000 by omega), if_neg h15], kJnk.rf I⟩
    · refine al0 (n := 19) dX9_rhymes_18 rfl ?_
      refine il3 (n := 20) dX9_rhymes_19 rfl ?_
      refine qiX9_87 (n := 23) dX9_rhymes_20 rfl rfl (Nat.le_of_ble_eq_true rfl) (by omega) rfl (m_isSet (by omega) _) (Nat.le_refl _) (Nat.le_refl _) ?_
      refine k_ifb_eq (t := 42) (n := 26) dX9_rhymes_23 (by decide) rfl (fun h23 => ?_) (fun h23 => ?_)
      · refine al0 (n := 43) dX9_rhymes_42 rfl ?_
        refine cX9_45 (n := 45) dX9_rhymes_43 rfl rfl ?_
        refine qiX9_46 (n := 48) dX9_rhymes_45 rfl rfl (Nat.le_of_ble_eq_true rfl) (by omega) rfl (m_errs 1 _ (by decide) rfl) (Nat.le_refl _) (Nat.le_refl _) ?_
        refine k_ireturn (ty := .int) dX9_rhymes_48 rfl rfl (Nat.le_refl _) (Nat.le_refl _) ?_
        first | exact ⟨J1, by simp only [s_rhymes, sB, sN, sS, sF, if_pos h7, kcl (show k < 1000 by omega), if_pos h15, if_neg h23], by simp only [s_rhymes, sB, sN, sS, sF, ke0, ke1, ke2, ke3, ke4, if_pos h7, kcl (show k < 1000 by omega), if_pos h15, if_neg h23], hJ1.up⟩ | exact ⟨I, by simp only [s_rhymes, sB, sN, sS, sF, if_pos h7, kcl (show k < 1000 by omega), if_pos h15, if_neg h23], by simp only [s_rhymes, sB, sN, sS, sF, ke0, ke1, ke2, ke3, ke4, if_pos h7, kcl (show k < 1000 by omega), if_pos h15, if_neg h23], kJnk.rf I⟩
      · refine il2 (n := 27) dX9_rhymes_26 rfl ?_
        refine il3 (n := 28) dX9_rhymes_27 rfl ?_
        refine k_iand (n := 29) dX9_rhymes_28 rfl ?_
        refine k_if_ne (t := 42) (n := 32) dX9_rhymes_29 (by decide) rfl (fun h29 => ?_) (fun h29 => ?_)
        · refine al0 (n := 43) dX9_rhymes_42 rfl ?_
          refine cX9_45 (n := 45) dX9_rhymes_43 rfl rfl ?_
          refine qiX9_46 (n := 48) dX9_rhymes_45 rfl rfl (Nat.le_of_ble_eq_true rfl) (by omega) rfl (m_errs 1 _ (by decide) rfl) (Nat.le_refl _) (Nat.le_refl _) ?_
          refine k_ireturn (ty := .int) dX9_rhymes_48 rfl rfl (Nat.le_refl _) (Nat.le_refl _) ?_
          first | exact ⟨J1, by simp only [s_rhymes, sB, sN, sS, sF, if_pos h7, kcl (show k < 1000 by omega), if_pos h15, if_pos h23, if_neg h29], by simp only [s_rhymes, sB, sN, sS, sF, ke0, ke1, ke2, ke3, ke4, if_pos h7, kcl (show k < 1000 by omega), if_pos h15, if_pos h23, if_neg h29], hJ1.up⟩ | exact ⟨I, by simp only [s_rhymes, sB, sN, sS, sF, if_pos h7, kcl (show k < 1000 by omega), if_pos h15, if_pos h23, if_neg h29], by simp only [s_rhymes, sB, sN, sS, sF, ke0, ke1, ke2, ke3, ke4, if_pos h7, kcl (show k < 1000 by omega), if_pos h15, if_pos h23, if_neg h29], kJnk.rf I⟩
        · refine il4 (n := 34) dX9_rhymes_32 rfl ?_
          refine k_iconst (a := 0) (n := 35) dX9_rhymes_34 rfl rfl ?_
          refine k_iconst (a := 1) (n := 36) dX9_rhymes_35 rfl rfl ?_
          refine qiX9_41 (n := 39) dX9_rhymes_36 rfl rfl (Nat.le_of_ble_eq_true rfl) (by omega) (m_in _ _ _) (Nat.le_refl _) (Nat.le_refl _) ?_
          refine k_ifb_ne (t := 49) (n := 42) dX9_rhymes_39 (by decide) rfl (fun h39 => ?_) (fun h39 => ?_)
          · refine al0 (n := 50) dX9_rhymes_49 rfl ?_
            refine gX9_7 (n := 53) dX9_rhymes_50 rfl rfl rfl rfl ?_
            refine k_iconst (a := 1) (n := 54) dX9_rhymes_53 rfl rfl ?_
            refine js_iald (j := 1) (n := 55) dX9_rhymes_54 rfl rfl rfl (by decide) (by decide) ?_
            refine k_bipush (a := 8) (n := 57) dX9_rhymes_55 rfl rfl ?_
            refine k_icmp_le (t := 67) (n := 60) dX9_rhymes_57 (by decide) rfl (fun h57 => ?_) (fun h57 => ?_)
            · refine al0 (n := 68) dX9_rhymes_67 rfl ?_
              refine gX9_7 (n := 71) dX9_rhymes_68 rfl rfl rfl rfl ?_
              refine k_bipush (a := 10) (n := 73) dX9_rhymes_71 rfl rfl ?_
              refine js_iald (j := 10) (n := 74) dX9_rhymes_73 rfl rfl rfl (by decide) (by decide) ?_
              refine is5 (n := 76) dX9_rhymes_74 rfl trivial ?_
              refine k_iconst (a := 0) (n := 77) dX9_rhymes_76 rfl rfl ?_
              refine is6 (n := 79) dX9_rhymes_77 rfl trivial ?_
              refine k_iconst (a := 0) (n := 80) dX9_rhymes_79 rfl rfl ?_
              refine is7 (n := 82) dX9_rhymes_80 rfl trivial ?_
              refine k_iconst (a := 1) (n := 83) dX9_rhymes_82 rfl rfl ?_
              refine al0 (n := 84) dX9_rhymes_83 rfl ?_
              refine gX9_7 (n := 87) dX9_rhymes_84 rfl rfl rfl rfl ?_
              refine k_iconst (a := 1) (n := 88) dX9_rhymes_87 rfl rfl ?_
              refine js_iald (j := 1) (n := 89) dX9_rhymes_88 rfl rfl rfl (by decide) (by decide) ?_
              refine k_ishl (n := 90) dX9_rhymes_89 rfl ?_
              refine k_iconst (a := 1) (n := 91) dX9_rhymes_90 rfl rfl ?_
              refine k_isub (n := 92) dX9_rhymes_91 rfl ?_
              refine is8 (n := 94) dX9_rhymes_92 rfl trivial ?_
              have hc8 : c ≤ 8 := by
                rcases Nat.lt_or_ge 8 c with h | h
                · exact absurd (hc ▸ h57) (nI_ge h (by omega))
                · exact h
              have eP : sPw r = 2 ^ c := by unfold sPw; rw [hc, kcl (by omega)]
              have hP : 2 ^ c ≤ 256 := Nat.pow_le_pow_right (by decide) hc8
              rw [xm1, hc, sh1 c (by omega)]
              have h := m_rhymes_l (E := E) (d := d) (I := I) (r := r) (by omega) hR k hk al no q (2 ^ c) hP (kU I (s_rhymes r (nI k) al no q)) (fun K hK y x9 => ?_) (2 ^ c) I (r 10) none (kJnk.rf I) (Nat.le_refl _)
              · rw [upd_self, Nat.sub_self] at h
                exact h
              refine al0 (n := 147) dX9_rhymes_146 rfl ?_
              refine gX9_7 (n := 150) dX9_rhymes_147 rfl rfl rfl rfl ?_
              refine k_bipush (a := 10) (n := 152) dX9_rhymes_150 rfl rfl ?_
              refine il5 (n := 154) dX9_rhymes_152 rfl ?_
              refine js_iast (j := 10) (n := 155) dX9_rhymes_154 rfl rfl rfl (by decide) (by decide) ?_
              rw [upd_upd, upd_self]
              refine il4 (n := 157) dX9_rhymes_155 rfl ?_
              refine k_iconst (a := 1) (n := 158) dX9_rhymes_157 rfl rfl ?_
              refine k_icmp_ne (t := 173) (n := 161) dX9_rhymes_158 (by decide) rfl (fun h158 => ?_) (fun h158 => ?_)
              · refine il4 (n := 175) dX9_rhymes_173 rfl ?_
                refine k_if_ne (t := 183) (n := 178) dX9_rhymes_175 (by decide) rfl (fun h175 => ?_) (fun h175 => ?_)
                · refine il7 (n := 185) dX9_rhymes_183 rfl ?_
                  refine k_ireturn (ty := .int) dX9_rhymes_185 rfl rfl (Nat.le_refl _) (Nat.le_refl _) ?_
                  exact ⟨K, by simp only [s_rhymes, sN, if_pos h7, if_pos h15, if_pos h23, if_pos h29, if_pos h39, if_pos h57, kcl (show k < 1000 by omega), eP, if_neg h158, if_neg h175], by simp only [s_rhymes, sN, ke0, ke2, if_pos h7, if_pos h15, if_pos h23, if_pos h29, if_pos h39, if_pos h57, kcl (show k < 1000 by omega), eP, if_neg h158, if_neg h175], hK⟩
                · refine il6 (n := 180) dX9_rhymes_178 rfl ?_
                  refine k_goto (n := 185) dX9_rhymes_180 (by decide) ?_
                  refine k_ireturn (ty := .int) dX9_rhymes_185 rfl rfl (Nat.le_refl _) (Nat.le_refl _) ?_
                  exact ⟨K, by simp only [s_rhymes, sN, if_pos h7, if_pos h15, if_pos h23, if_pos h29, if_pos h39, if_pos h57, kcl (show k < 1000 by omega), eP, if_neg h158, if_pos h175], by simp only [s_rhymes, sN, ke0, ke2, if_pos h7, if_pos h15, if_pos h23, if_pos h29, if_pos h39, if_pos h57, kcl (show k < 1000 by omega), eP, if_neg h158, if_pos h175], hK⟩
              · refine il6 (n := 163) dX9_rhymes_161 rfl ?_
                refine k_if_ne (t := 173) (n := 166) dX9_rhymes_163 (by decide) rfl (fun h163 => ?_) (fun h163 => ?_)
                · refine il4 (n := 175) dX9_rhymes_173 rfl ?_
                  refine k_if_ne (t := 183) (n := 178) dX9_rhymes_175 (by decide) rfl (fun h175 => ?_) (fun h175 => ?_)
                  · refine il7 (n := 185) dX9_rhymes_183 rfl ?_
                    refine k_ireturn (ty := .int) dX9_rhymes_185 rfl rfl (Nat.le_refl _) (Nat.le_refl _) ?_
                    exact ⟨K, by simp only [s_rhymes, sN, if_pos h7, if_pos h15, if_pos h23, if_pos h29, if_pos h39, if_pos h57, kcl (show k < 1000 by omega), eP, if_pos h158, if_neg h163, if_neg h175], by simp only [s_rhymes, sN, ke0, ke2, if_pos h7, if_pos h15, if_pos h23, if_pos h29, if_pos h39, if_pos h57, kcl (show k < 1000 by omega), eP, if_pos h158, if_neg h163, if_neg h175], hK⟩
                  · refine il6 (n := 180) dX9_rhymes_178 rfl ?_
                    refine k_goto (n := 185) dX9_rhymes_180 (by decide) ?_
                    refine k_ireturn (ty := .int) dX9_rhymes_185 rfl rfl (Nat.le_refl _) (Nat.le_refl _) ?_
                    exact ⟨K, by simp only [s_rhymes, sN, if_pos h7, if_pos h15, if_pos h23, if_pos h29, if_pos h39, if_pos h57, kcl (show k < 1000 by omega), eP, if_pos h158, if_neg h163, if_pos h175], by simp only [s_rhymes, sN, ke0, ke2, if_pos h7, if_pos h15, if_pos h23, if_pos h29, if_pos h39, if_pos h57, kcl (show k < 1000 by omega), eP, if_pos h158, if_neg h163, if_pos h175], hK⟩
                · refine al0 (n := 167) dX9_rhymes_166 rfl ?_
                  refine cX9_199 (n := 169) dX9_rhymes_167 rfl rfl ?_
                  refine qiX9_46 (n := 172) dX9_rhymes_169 rfl rfl (Nat.le_of_ble_eq_true rfl) (by omega) rfl (m_errs 2 _ (by decide) rfl) (Nat.le_refl _) (Nat.le_refl _) ?_
                  refine k_ireturn (ty := .int) dX9_rhymes_172 rfl rfl (Nat.le_refl _) (Nat.le_refl _) ?_
                  exact ⟨K, by simp only [s_rhymes, sN, if_pos h7, if_pos h15, if_pos h23, if_pos h29, if_pos h39, if_pos h57, kcl (show k < 1000 by omega), eP, if_pos h158, if_pos h163], by simp only [s_rhymes, sN, ke0, ke2, if_pos h7, if_pos h15, if_pos h23, if_pos h29, if_pos h39, if_pos h57, kcl (show k < 1000 by omega), eP, if_pos h158, if_pos h163], hK⟩
            · refine al0 (n := 61) dX9_rhymes_60 rfl ?_
              refine cX9_50 (n := 63) dX9_rhymes_61 rfl rfl ?_
              refine qiX9_46 (n := 66) dX9_rhymes_63 rfl rfl (Nat.le_of_ble_eq_true rfl) (by omega) rfl (m_errs 3 _ (by decide) rfl) (Nat.le_refl _) (Nat.le_refl _) ?_
              refine k_ireturn (ty := .int) dX9_rhymes_66 rfl rfl (Nat.le_refl _) (Nat.le_refl _) ?_
              first | exact ⟨J1, by simp only [s_rhymes, sB, sN, sS, sF, if_pos h7, kcl (show k < 1000 by omega), if_pos h15, if_pos h23, if_pos h29, if_pos h39, if_neg h57], by simp only [s_rhymes, sB, sN, sS, sF, ke0, ke1, ke2, ke3, ke4, if_pos h7, kcl (show k < 1000 by omega), if_pos h15, if_pos h23, if_pos h29, if_pos h39, if_neg h57], hJ1.up⟩ | exact ⟨I, by simp only [s_rhymes, sB, sN, sS, sF, if_pos h7, kcl (show k < 1000 by omega), if_pos h15, if_pos h23, if_pos h29, if_pos h39, if_neg h57], by simp only [s_rhymes, sB, sN, sS, sF, ke0, ke1, ke2, ke3, ke4, if_pos h7, kcl (show k < 1000 by omega), if_pos h15, if_pos h23, if_pos h29, if_pos h39, if_neg h57], kJnk.rf I⟩
          · refine al0 (n := 43) dX9_rhymes_42 rfl ?_
            refine cX9_45 (n := 45) dX9_rhymes_43 rfl rfl ?_
            refine qiX9_46 (n := 48) dX9_rhymes_45 rfl rfl (Nat.le_of_ble_eq_true rfl) (by omega) rfl (m_errs 1 _ (by decide) rfl) (Nat.le_refl _) (Nat.le_refl _) ?_
            refine k_ireturn (ty := .int) dX9_rhymes_48 rfl rfl (Nat.le_refl _) (Nat.le_refl _) ?_
            first | exact ⟨J1, by simp only [s_rhymes, sB, sN, sS, sF, if_pos h7, kcl (show k < 1000 by omega), if_pos h15, if_pos h23, if_pos h29, if_neg h39], by simp only [s_rhymes, sB, sN, sS, sF, ke0, ke1, ke2, ke3, ke4, if_pos h7, kcl (show k < 1000 by omega), if_pos h15, if_pos h23, if_pos h29, if_neg h39], hJ1.up⟩ | exact ⟨I, by simp only [s_rhymes, sB, sN, sS, sF, if_pos h7, kcl (show k < 1000 by omega), if_pos h15, if_pos h23, if_pos h29, if_neg h39], by simp only [s_rhymes, sB, sN, sS, sF, ke0, ke1, ke2, ke3, ke4, if_pos h7, kcl (show k < 1000 by omega), if_pos h15, if_pos h23, if_pos h29, if_neg h39], kJnk.rf I⟩
def mstF (r : Nat → Int32) (k : Nat) (so : Int32) : Nat → Nat
  | 0 => 0
  | i + 1 => if nI (i + 1) &&& (so ^^^ (-1)) = 0 then (if nI (pcN (i + 1)) ≤ nI (pcN (mstF r k so i)) then mstF r k so i else (if nI (norF r (nI (i + 1)) k) &&& nI (i + 1) = nI (i + 1) then i + 1 else mstF r k so i)) else mstF r k so i
theorem mstF_le (r : Nat → Int32) (k : Nat) (so : Int32) : ∀ i, mstF r k so i ≤ i
  | 0 => Nat.le_refl _
  | i + 1 => by
    have := mstF_le r k so i
    unfold mstF
    repeat' split
    all_goals omega
set_option maxHeartbeats 2000000 in
set_option maxRecDepth 20000 in
theorem m_most_l (hd : 67 ≤ d) (hR : RI r) (k : Nat) (hk : k ≤ 60) (so : Int32) (c : Nat) (hc : r 9 = nI c) (h8 : c ≤ 8) (Q : Option Value → kM → Prop) (hQ : ∀ K, kJnk I K → Q (some (.int (nI (mstF r k so (2 ^ c - 1))))) (kJ (kset K 82 r))) (m : Nat) : ∀ (i : Nat) (J : Nat → Nat → Int32), kJnk I J → i + m = 2 ^ c - 1 → Wd E d mX9_most 0 0 0 0 28 [some (.ref 81), some (.int (nI k)), some (.int so), some (.int (nI (mstF r k so i))), some (.int (nI (i + 1)))] [] (kJ (kset J 82 r)) Q := by
  induction m with
  | zero =>
    intro i J hJ hi
    have e : i = 2 ^ c - 1 := by omega
    have hp : 0 < 2 ^ c := Nat.two_pow_pos c
    subst e
    refine il4 (n := 30) dX9_most_28 rfl ?_
    refine k_iconst (a := 1) (n := 31) dX9_most_30 rfl rfl ?_
    refine al0 (n := 32) dX9_most_31 rfl ?_
    refine gX9_7 (n := 35) dX9_most_32 rfl rfl rfl rfl ?_
    refine k_bipush (a := 9) (n := 37) dX9_most_35 rfl rfl ?_
    refine js_iald (j := 9) (n := 38) dX9_most_37 rfl rfl rfl (by decide) (by decide) ?_
    refine k_ishl (n := 39) dX9_most_38 rfl ?_
    rw [hc, sh1 c (by omega), show 2 ^ c - 1 + 1 = 2 ^ c by omega]
    refine k_icmp_ge (t := 91) (n := 42) dX9_most_39 (by decide) rfl (fun h39 => ?_) (fun h39 => ?_)
    · refine il3 (n := 92) dX9_most_91 rfl ?_
      refine k_ireturn (ty := .int) dX9_most_92 rfl rfl (Nat.le_refl _) (Nat.le_refl _) ?_
      exact hQ J hJ
    · exact absurd (Int32.le_refl _) h39
  | succ m ih =>
    intro i J hJ hi
    have hp : 2 ^ c ≤ 256 := Nat.pow_le_pow_right (by decide) h8
    have hb := mstF_le r k so i
    refine il4 (n := 30) dX9_most_28 rfl ?_
    refine k_iconst (a := 1) (n := 31) dX9_most_30 rfl rfl ?_
    refine al0 (n := 32) dX9_most_31 rfl ?_
    refine gX9_7 (n := 35) dX9_most_32 rfl rfl rfl rfl ?_
    refine k_bipush (a := 9) (n := 37) dX9_most_35 rfl rfl ?_
    refine js_iald (j := 9) (n := 38) dX9_most_37 rfl rfl rfl (by decide) (by decide) ?_
    refine k_ishl (n := 39) dX9_most_38 rfl ?_
    rw [hc, sh1 c (by omega)]
    refine k_icmp_ge (t := 91) (n := 42) dX9_most_39 (by decide) rfl (fun h39 => ?_) (fun h39 => ?_)
    · exact absurd h39 (nI_ge (by omega) (by omega))
    · refine il4 (n := 44) dX9_most_42 rfl ?_
      refine il2 (n := 45) dX9_most_44 rfl ?_
      refine k_iconst (a := (-1)) (n := 46) dX9_most_45 rfl rfl ?_
      refine k_ixor (n := 47) dX9_most_46 rfl ?_
      refine k_iand (n := 48) dX9_most_47 rfl ?_
      refine k_if_ne (t := 85) (n := 51) dX9_most_48 (by decide) rfl (fun h48 => ?_) (fun h48 => ?_)
      · refine ii4 (n := 88) dX9_most_85 rfl (ki1 _) trivial ?_
        rw [nI_1]
        refine k_goto (n := 28) dX9_most_88 (by decide) ?_
        first
          | (have h := ih (i + 1) J1 (hJ.tr hJ1) (by omega)
             simp only [mstF, if_neg h39, if_neg h48] at h
             exact h)
          | (have h := ih (i + 1) J hJ (by omega)
             simp only [mstF, if_neg h39, if_neg h48] at h
             exact h)
      · refine il4 (n := 53) dX9_most_51 rfl ?_
        refine qiX9_192 (n := 56) dX9_most_53 rfl rfl (Nat.le_of_ble_eq_true rfl) (by omega) (m_bits (i + 1) (by omega)) (Nat.le_refl _) (Nat.le_refl _) ?_
        refine il3 (n := 57) dX9_most_56 rfl ?_
        refine qiX9_192 (n := 60) dX9_most_57 rfl rfl (Nat.le_of_ble_eq_true rfl) (by omega) (m_bits _ (by omega)) (Nat.le_refl _) (Nat.le_refl _) ?_
        refine k_icmp_le (t := 85) (n := 63) dX9_most_60 (by decide) rfl (fun h60 => ?_) (fun h60 => ?_)
        · refine ii4 (n := 88) dX9_most_85 rfl (ki1 _) trivial ?_
          rw [nI_1]
          refine k_goto (n := 28) dX9_most_88 (by decide) ?_
          first
            | (have h := ih (i + 1) J1 (hJ.tr hJ1) (by omega)
               simp only [mstF, if_neg h39, if_pos h48, if_pos h60] at h
               exact h)
            | (have h := ih (i + 1) J hJ (by omega)
               simp only [mstF, if_neg h39, if_pos h48, if_pos h60] at h
               exact h)
        · refine al0 (n := 64) dX9_most_63 rfl ?_
          refine il4 (n := 66) dX9_most_64 rfl ?_
          refine il1 (n := 67) dX9_most_66 rfl ?_
          refine qX9_200 (n := 70) dX9_most_67 rfl rfl (Nat.le_of_ble_eq_true rfl) (by omega) (Nat.le_refl _) (Nat.le_refl _) rfl (m_northOf (by omega) hR _ k (by omega)) ?_
          rintro _ _ ⟨J1, rfl, rfl, hJ1⟩
          dsimp only [Option.toList, List.cons_append, List.nil_append, Nat.add_zero]
          refine il4 (n := 72) dX9_most_70 rfl ?_
          refine k_iand (n := 73) dX9_most_72 rfl ?_
          refine il4 (n := 75) dX9_most_73 rfl ?_
          refine k_icmp_ne (t := 83) (n := 78) dX9_most_75 (by decide) rfl (fun h75 => ?_) (fun h75 => ?_)
          · refine il3 (n := 84) dX9_most_83 rfl ?_
            refine is3 (n := 85) dX9_most_84 rfl trivial ?_
            refine ii4 (n := 88) dX9_most_85 rfl (ki1 _) trivial ?_
            rw [nI_1]
            refine k_goto (n := 28) dX9_most_88 (by decide) ?_
            first
              | (have h := ih (i + 1) J1 (hJ.tr hJ1) (by omega)
                 simp only [mstF, if_neg h39, if_pos h48, if_neg h60, if_neg h75] at h
                 exact h)
              | (have h := ih (i + 1) J hJ (by omega)
                 simp only [mstF, if_neg h39, if_pos h48, if_neg h60, if_neg h75] at h
                 exact h)
          · refine il4 (n := 80) dX9_most_78 rfl ?_
            refine k_goto (n := 84) dX9_most_80 (by decide) ?_
            refine is3 (n := 85) dX9_most_84 rfl trivial ?_
            refine ii4 (n := 88) dX9_most_85 rfl (ki1 _) trivial ?_
            rw [nI_1]
            refine k_goto (n := 28) dX9_most_88 (by decide) ?_
            first
              | (have h := ih (i + 1) J1 (hJ.tr hJ1) (by omega)
                 simp only [mstF, if_neg h39, if_pos h48, if_neg h60, if_pos h75] at h
                 exact h)
              | (have h := ih (i + 1) J hJ (by omega)
                 simp only [mstF, if_neg h39, if_pos h48, if_neg h60, if_pos h75] at h
                 exact h)
def s_most (r : Nat → Int32) (v : Int32) : sT := if 0 ≤ v ∧ v ≤ 60 then (nI (mstF r v.toNatClampNeg (setF r 0 (sMany r)) (2 ^ sMany r - 1)), r, 0) else sB r
set_option maxHeartbeats 2000000 in
set_option maxRecDepth 20000 in
theorem m_most (hd : 68 ≤ d) (hR : RI r) (v : Int32) : Ct E d mX9_most 0 0 [.ref 81, .int v] (kJ (kset I 82 r)) (kU I (s_most r v)) := by
  obtain ⟨⟨c, hc, h8⟩, -⟩ := id hR
  have eM : sMany r = c := by unfold sMany; rw [hc]; exact kcl (by omega)
  refine Ct.of (L := [some (.ref 81), some (.int v), none, none, none]) rfl rfl (Nat.le_of_ble_eq_true rfl) ?_
  refine il1 (n := 1) dX9_most_0 rfl ?_
  refine k_iconst (a := 0) (n := 2) dX9_most_1 rfl rfl ?_
  refine k_bipush (a := 60) (n := 4) dX9_most_2 rfl rfl ?_
  refine qiX9_41 (n := 7) dX9_most_4 rfl rfl (Nat.le_of_ble_eq_true rfl) (by omega) (m_in _ _ _) (Nat.le_refl _) (Nat.le_refl _) ?_
  refine k_ifb_ne (t := 17) (n := 10) dX9_most_7 (by decide) rfl (fun h7 => ?_) (fun h7 => ?_)
  · obtain ⟨k, -, hk, rfl⟩ := kbt (a := 0) (b := 60) h7 (by decide) (by decide)
    refine al0 (n := 18) dX9_most_17 rfl ?_
    refine k_iconst (a := 0) (n := 19) dX9_most_18 rfl rfl ?_
    refine qiX9_189 (n := 22) dX9_most_19 rfl rfl (Nat.le_of_ble_eq_true rfl) (by omega) rfl (m_setOf (by omega) hR 0) (Nat.le_refl _) (Nat.le_refl _) ?_
    refine is2 (n := 23) dX9_most_22 rfl trivial ?_
    refine k_iconst (a := 0) (n := 24) dX9_most_23 rfl rfl ?_
    refine is3 (n := 25) dX9_most_24 rfl trivial ?_
    refine k_iconst (a := 1) (n := 26) dX9_most_25 rfl rfl ?_
    refine is4 (n := 28) dX9_most_26 rfl trivial ?_
    refine m_most_l (by omega) hR k hk _ c hc h8 _ (fun K hK => ⟨K, by simp only [s_most, eM, if_pos h7, kcl (show k < 1000 by omega)], by simp only [s_most, ke0, if_pos h7, kcl (show k < 1000 by omega)], hK⟩) (2 ^ c - 1) 0 I (kJnk.rf I) (by omega)
  · refine al0 (n := 11) dX9_most_10 rfl ?_
    refine cX9_45 (n := 13) dX9_most_11 rfl rfl ?_
    refine qiX9_46 (n := 16) dX9_most_13 rfl rfl (Nat.le_of_ble_eq_true rfl) (by omega) rfl (m_errs 1 _ (by decide) rfl) (Nat.le_refl _) (Nat.le_refl _) ?_
    refine k_ireturn (ty := .int) dX9_most_16 rfl rfl (Nat.le_refl _) (Nat.le_refl _) ?_
    first | exact ⟨J1, by simp only [s_most, sB, sN, sS, sF, if_neg h7], by simp only [s_most, sB, sN, sS, sF, ke0, ke1, ke2, ke3, ke4, if_neg h7], hJ1.up⟩ | exact ⟨I, by simp only [s_most, sB, sN, sS, sF, if_neg h7], by simp only [s_most, sB, sN, sS, sF, ke0, ke1, ke2, ke3, ke4, if_neg h7], kJnk.rf I⟩
set_option maxHeartbeats 2000000 in
set_option maxRecDepth 20000 in
theorem m_div_l (a b : Nat) (v0 v1 : Int32) (m : Nat) : ∀ (x y : Nat) (x4 : Option Value), x < 1000 → y < 1000 → y ≤ m → Nat.gcd x y = Nat.gcd a b → Wd E d mX9_divisor 0 0 0 0 4 [some (.int v0), some (.int v1), some (.int (nI x)), some (.int (nI y)), x4] [] (kJ I) (kR (nI (Nat.gcd a b)) I) := by
  induction m with
  | zero =>
    intro x y x4 hx hy hm hg
    have e : y = 0 := by omega
    subst e
    refine il3 (n := 5) dX9_divisor_4 rfl ?_
    refine k_if_eq (t := 21) (n := 8) dX9_divisor_5 (by decide) rfl (fun h5 => ?_) (fun h5 => ?_)
    · refine il2 (n := 22) dX9_divisor_21 rfl ?_
      refine k_ireturn (ty := .int) dX9_divisor_22 rfl rfl (Nat.le_refl _) (Nat.le_refl _) ?_
      exact ⟨by rw [← hg, Nat.gcd_zero_right], rfl⟩
    · exact absurd rfl h5
  | succ m ih =>
    intro x y x4 hx hy hm hg
    refine il3 (n := 5) dX9_divisor_4 rfl ?_
    refine k_if_eq (t := 21) (n := 8) dX9_divisor_5 (by decide) rfl (fun h5 => ?_) (fun h5 => ?_)
    · refine il2 (n := 22) dX9_divisor_21 rfl ?_
      refine k_ireturn (ty := .int) dX9_divisor_22 rfl rfl (Nat.le_refl _) (Nat.le_refl _) ?_
      exact ⟨by rw [← hg, kne0 hy h5, Nat.gcd_zero_right], rfl⟩
    · have hy0 : 0 < y := Nat.pos_of_ne_zero fun e => h5 (by rw [e]; rfl)
      refine il2 (n := 9) dX9_divisor_8 rfl ?_
      refine il3 (n := 10) dX9_divisor_9 rfl ?_
      refine k_irem (n := 11) dX9_divisor_10 rfl h5 ?_
      rw [pk_rem (by omega) hy0 (by omega)]
      refine is4 (n := 13) dX9_divisor_11 rfl trivial ?_
      refine il3 (n := 14) dX9_divisor_13 rfl ?_
      refine is2 (n := 15) dX9_divisor_14 rfl trivial ?_
      refine il4 (n := 17) dX9_divisor_15 rfl ?_
      refine is3 (n := 18) dX9_divisor_17 rfl trivial ?_
      refine k_goto (n := 4) dX9_divisor_18 (by decide) ?_
      exact ih y (x % y) _ hy (Nat.lt_trans (Nat.mod_lt x hy0) hy) (by have := Nat.mod_lt x hy0; omega) (by rw [← hg, Nat.gcd_comm y, ← Nat.gcd_rec, Nat.gcd_comm])
set_option maxHeartbeats 2000000 in
set_option maxRecDepth 20000 in
theorem m_divisor (a b : Nat) (ha : a < 1000) (hb : b < 1000) : Ct E d mX9_divisor 0 0 [.int (nI a), .int (nI b)] (kJ I) (kR (nI (Nat.gcd a b)) I) := by
  refine Ct.of (L := [some (.int (nI a)), some (.int (nI b)), none, none, none]) rfl rfl (Nat.le_of_ble_eq_true rfl) ?_
  refine il0 (n := 1) dX9_divisor_0 rfl ?_
  refine is2 (n := 2) dX9_divisor_1 rfl trivial ?_
  refine il1 (n := 3) dX9_divisor_2 rfl ?_
  refine is3 (n := 4) dX9_divisor_3 rfl trivial ?_
  exact m_div_l a b _ _ b a b none ha hb (Nat.le_refl _) rfl
def odR (r : Nat → Int32) (j k : Nat) : Nat → Int32 := upd (upd r 0 (r 0 + (nI k - (r 0 - r 0 / r 1 * r 1)))) 12 (r 12 ||| ((1 : Int32) <<< (nI j &&& 31)))
abbrev odP (r : Nat → Int32) (j n k : Nat) : Prop := passF n (odR r j k) (29 + 7 * j + 5) = 2
def odC (r : Nat → Int32) (j n : Nat) : Nat → Nat
  | 0 => 0
  | k + 1 => odC r j n k + (if odP r j n k then 1 else 0)
theorem odC_le (r : Nat → Int32) (j n : Nat) : ∀ k, odC r j n k ≤ k
  | 0 => Nat.le_refl _
  | k + 1 => by
    have := odC_le r j n k
    unfold odC
    split <;> omega
theorem RI_od {r : Nat → Int32} (hR : RI r) (j k : Nat) : RI (odR r j k) := RI_c (RI_c hR (by omega) _) (by omega) _
set_option maxHeartbeats 2000000 in
set_option maxRecDepth 20000 in
theorem m_odds_l (hd : 66 ≤ d) (hR : RI r) (j : Nat) (hj : j < 8) (n : Nat) (hn : n ≤ 200) (q : Int32) (c : Nat) (hc : r 1 = nI c) (h1 : 1 ≤ c) (h16 : c ≤ 16) (Q : Option Value → kM → Prop) (hQ : ∀ K, kJnk I K → Wd E d mX9_odds 0 0 0 0 161 [some (.ref 81), some (.int (nI j)), some (.int (nI n)), some (.int q), some (.int (nI (odC r j n c))), some (.int (nI c)), some (.int (nI c))] [] (kJ (kset K 82 r)) Q) (m : Nat) : ∀ (i : Nat) (J : Nat → Nat → Int32), kJnk I J → (∀ x, x < 255 → J 84 x = r x) → i + m = c → Wd E d mX9_odds 0 0 0 0 77 [some (.ref 81), some (.int (nI j)), some (.int (nI n)), some (.int q), some (.int (nI (odC r j n i))), some (.int (nI c)), some (.int (nI i))] [] (kJ (kset J 82 r)) Q := by
  induction m with
  | zero =>
    intro i J hJ hT hi
    have e : i = c := by omega
    subst e
    refine il6 (n := 79) dX9_odds_77 rfl ?_
    refine il5 (n := 81) dX9_odds_79 rfl ?_
    refine k_icmp_ge (t := 161) (n := 84) dX9_odds_81 (by decide) rfl (fun h81 => ?_) (fun h81 => ?_)
    · exact hQ J hJ
    · exact absurd (Int32.le_refl _) h81
  | succ m ih =>
    intro i J hJ hT hi
    refine il6 (n := 79) dX9_odds_77 rfl ?_
    refine il5 (n := 81) dX9_odds_79 rfl ?_
    refine k_icmp_ge (t := 161) (n := 84) dX9_odds_81 (by decide) rfl (fun h81 => ?_) (fun h81 => ?_)
    · exact absurd h81 (nI_ge (by omega) (by omega))
    · refine al0 (n := 85) dX9_odds_84 rfl ?_
      refine gX9_7 (n := 88) dX9_odds_85 rfl rfl rfl rfl ?_
      refine k_iconst (a := 0) (n := 89) dX9_odds_88 rfl rfl ?_
      refine k_dup2 (n := 90) dX9_odds_89 rfl rfl rfl ?_
      refine js_iald (j := 0) (n := 91) dX9_odds_90 rfl rfl rfl (by decide) (by decide) ?_
      refine il6 (n := 93) dX9_odds_91 rfl ?_
      refine al0 (n := 94) dX9_odds_93 rfl ?_
      refine gX9_7 (n := 97) dX9_odds_94 rfl rfl rfl rfl ?_
      refine k_iconst (a := 0) (n := 98) dX9_odds_97 rfl rfl ?_
      refine js_iald (j := 0) (n := 99) dX9_odds_98 rfl rfl rfl (by decide) (by decide) ?_
      refine il5 (n := 101) dX9_odds_99 rfl ?_
      refine k_irem (n := 102) dX9_odds_101 rfl (nI_ne0 (by omega) (by omega)) ?_
      refine k_isub (n := 103) dX9_odds_102 rfl ?_
      refine k_iadd (n := 104) dX9_odds_103 rfl ?_
      refine js_iast (j := 0) (n := 105) dX9_odds_104 rfl rfl rfl (by decide) (by decide) ?_
      refine al0 (n := 106) dX9_odds_105 rfl ?_
      refine gX9_7 (n := 109) dX9_odds_106 rfl rfl rfl rfl ?_
      refine k_bipush (a := 12) (n := 111) dX9_odds_109 rfl rfl ?_
      refine k_dup2 (n := 112) dX9_odds_111 rfl rfl rfl ?_
      refine js_iald (j := 12) (n := 113) dX9_odds_112 rfl rfl rfl (by decide) (by decide) ?_
      refine k_iconst (a := 1) (n := 114) dX9_odds_113 rfl rfl ?_
      refine il1 (n := 115) dX9_odds_114 rfl ?_
      refine k_ishl (n := 116) dX9_odds_115 rfl ?_
      refine k_ior (n := 117) dX9_odds_116 rfl ?_
      refine js_iast (j := 12) (n := 118) dX9_odds_117 rfl rfl rfl (by decide) (by decide) ?_
      rw [show upd (upd r 0 (r 0 + (nI i - (r 0 - r 0 / nI c * nI c)))) 12 (upd r 0 (r 0 + (nI i - (r 0 - r 0 / nI c * nI c))) 12 ||| ((1 : Int32) <<< (nI j &&& 31))) = odR r j i from by unfold odR; rw [hc, pk_un (show (12 : Nat) ≠ 0 by decide)]]
      refine al0 (n := 119) dX9_odds_118 rfl ?_
      refine il2 (n := 120) dX9_odds_119 rfl ?_
      refine qX9_186 (n := 123) dX9_odds_120 rfl rfl (Nat.le_of_ble_eq_true rfl) (by omega) (Nat.le_refl _) (Nat.le_refl _) rfl (m_passes (by omega) (RI_od hR j i) n (by omega)) ?_
      rintro _ _ ⟨J1, rfl, rfl, hJ1⟩
      dsimp only [Option.toList, List.nil_append, Nat.add_zero]
      refine il4 (n := 125) dX9_odds_123 rfl ?_
      refine al0 (n := 126) dX9_odds_125 rfl ?_
      refine il1 (n := 127) dX9_odds_126 rfl ?_
      refine k_iconst (a := 5) (n := 128) dX9_odds_127 rfl rfl ?_
      refine qiX9_80 (n := 131) dX9_odds_128 rfl rfl (Nat.le_of_ble_eq_true rfl) (by omega) rfl (m_its j 5 hj (by decide)) (Nat.le_refl _) (Nat.le_refl _) ?_
      refine k_iconst (a := 2) (n := 132) dX9_odds_131 rfl rfl ?_
      refine k_icmp_ne (t := 139) (n := 135) dX9_odds_132 (by decide) rfl (fun h132 => ?_) (fun h132 => ?_)
      · refine k_iconst (a := 0) (n := 140) dX9_odds_139 rfl rfl ?_
        refine k_iadd (n := 141) dX9_odds_140 rfl ?_
        refine is4 (n := 143) dX9_odds_141 rfl trivial ?_
        refine al0 (n := 144) dX9_odds_143 rfl ?_
        refine al0 (n := 145) dX9_odds_144 rfl ?_
        refine gX9_16 (n := 148) dX9_odds_145 rfl rfl rfl rfl ?_
        refine al0 (n := 149) dX9_odds_148 rfl ?_
        refine gX9_7 (n := 152) dX9_odds_149 rfl rfl rfl rfl ?_
        refine qiX9_163 (n := 155) dX9_odds_152 rfl rfl (Nat.le_of_ble_eq_true rfl) (by omega) rfl (m_back (b := 84) (r := r) rfl (by decide) (fun x hx => by rw [hJ1.1 84 (by decide) (by decide)]; exact hT x hx) (fun x hx => (hi_pass (RI_od hR j i) hx n).trans ((pk_un (by omega)).trans (pk_un (by omega))))) (Nat.le_refl _) (Nat.le_refl _) ?_
        refine ii6 (n := 158) dX9_odds_155 rfl (ki1 _) trivial ?_
        rw [nI_1 i]
        refine k_goto (n := 77) dX9_odds_158 (by decide) ?_
        have h := ih (i + 1) J1 (hJ.tr hJ1.up) (fun x hx => by rw [hJ1.1 84 (by decide) (by decide)]; exact hT x hx) (by omega)
        first
          | (simp only [odC, if_pos (show odP r j n i from h132)] at h
             rw [← nI_1 (odC r j n i)] at h
             exact h)
          | (simp only [odC, if_neg (show ¬ odP r j n i from h132), Nat.add_zero] at h
             rw [show nI (odC r j n i) + 0 = nI (odC r j n i) from Int32.add_zero _]
             exact h)
      · refine k_iconst (a := 1) (n := 136) dX9_odds_135 rfl rfl ?_
        refine k_goto (n := 140) dX9_odds_136 (by decide) ?_
        refine k_iadd (n := 141) dX9_odds_140 rfl ?_
        refine is4 (n := 143) dX9_odds_141 rfl trivial ?_
        refine al0 (n := 144) dX9_odds_143 rfl ?_
        refine al0 (n := 145) dX9_odds_144 rfl ?_
        refine gX9_16 (n := 148) dX9_odds_145 rfl rfl rfl rfl ?_
        refine al0 (n := 149) dX9_odds_148 rfl ?_
        refine gX9_7 (n := 152) dX9_odds_149 rfl rfl rfl rfl ?_
        refine qiX9_163 (n := 155) dX9_odds_152 rfl rfl (Nat.le_of_ble_eq_true rfl) (by omega) rfl (m_back (b := 84) (r := r) rfl (by decide) (fun x hx => by rw [hJ1.1 84 (by decide) (by decide)]; exact hT x hx) (fun x hx => (hi_pass (RI_od hR j i) hx n).trans ((pk_un (by omega)).trans (pk_un (by omega))))) (Nat.le_refl _) (Nat.le_refl _) ?_
        refine ii6 (n := 158) dX9_odds_155 rfl (ki1 _) trivial ?_
        rw [nI_1 i]
        refine k_goto (n := 77) dX9_odds_158 (by decide) ?_
        have h := ih (i + 1) J1 (hJ.tr hJ1.up) (fun x hx => by rw [hJ1.1 84 (by decide) (by decide)]; exact hT x hx) (by omega)
        first
          | (simp only [odC, if_pos (show odP r j n i from h132)] at h
             rw [← nI_1 (odC r j n i)] at h
             exact h)
          | (simp only [odC, if_neg (show ¬ odP r j n i from h132), Nat.add_zero] at h
             rw [show nI (odC r j n i) + 0 = nI (odC r j n i) from Int32.add_zero _]
             exact h)
def s_odds (r : Nat → Int32) (v n q : Int32) : sT := if 0 ≤ v ∧ v ≤ r 9 - 1 then if 0 ≤ n ∧ n ≤ 200 then if 0 ≤ q ∧ q ≤ 1 then if r (29 + 7 * v.toNatClampNeg + 5) = 0 then
  (if q = 0 then (nI (odC r v.toNatClampNeg n.toNatClampNeg (sRh r) / Nat.gcd (odC r v.toNatClampNeg n.toNatClampNeg (sRh r)) (sRh r)), r, 0) else (nI (sRh r / Nat.gcd (odC r v.toNatClampNeg n.toNatClampNeg (sRh r)) (sRh r)), r, 0)) else sS r else sB r else sB r else sB r
set_option maxHeartbeats 2000000 in
set_option maxRecDepth 20000 in
theorem m_odds (hd : 67 ≤ d) (hR : RI r) (v n q : Int32) : Ct E d mX9_odds 0 0 [.ref 81, .int v, .int n, .int q] (kJ (kset I 82 r)) (kU I (s_odds r v n q)) := by
  obtain ⟨-, -, -, -, -, -, ⟨c, hc, h1, hc16⟩, -⟩ := id hR
  have eR : sRh r = c := by unfold sRh; rw [hc]; exact kcl (by omega)
  refine Ct.of (L := [some (.ref 81), some (.int v), some (.int n), some (.int q), none, none, none]) rfl rfl (Nat.le_of_ble_eq_true rfl) ?_
  refine al0 (n := 1) dX9_odds_0 rfl ?_
  refine il1 (n := 2) dX9_odds_1 rfl ?_
  refine qiX9_67 (n := 5) dX9_odds_2 rfl rfl (Nat.le_of_ble_eq_true rfl) (by omega) rfl (m_isCrosser (by omega) _) (Nat.le_refl _) (Nat.le_refl _) ?_
  refine k_ifb_eq (t := 28) (n := 8) dX9_odds_5 (by decide) rfl (fun h5 => ?_) (fun h5 => ?_)
  · refine al0 (n := 29) dX9_odds_28 rfl ?_
    refine cX9_45 (n := 31) dX9_odds_29 rfl rfl ?_
    refine qiX9_46 (n := 34) dX9_odds_31 rfl rfl (Nat.le_of_ble_eq_true rfl) (by omega) rfl (m_errs 1 _ (by decide) rfl) (Nat.le_refl _) (Nat.le_refl _) ?_
    refine k_ireturn (ty := .int) dX9_odds_34 rfl rfl (Nat.le_refl _) (Nat.le_refl _) ?_
    first | exact ⟨J1, by simp only [s_odds, sB, sN, sS, sF, if_neg h5], by simp only [s_odds, sB, sN, sS, sF, ke0, ke1, ke2, ke3, ke4, if_neg h5], hJ1.up⟩ | exact ⟨I, by simp only [s_odds, sB, sN, sS, sF, if_neg h5], by simp only [s_odds, sB, sN, sS, sF, ke0, ke1, ke2, ke3, ke4, if_neg h5], kJnk.rf I⟩
  · obtain ⟨j, hj, rfl⟩ := kixC hR h5
    refine il2 (n := 9) dX9_odds_8 rfl ?_
    refine k_iconst (a := 0) (n := 10) dX9_odds_9 rfl rfl ?_
    refine k_sipush (a := 200) (n := 13) dX9_odds_10 rfl rfl ?_
    refine qiX9_41 (n := 16) dX9_odds_13 rfl rfl (Nat.le_of_ble_eq_true rfl) (by omega) (m_in _ _ _) (Nat.le_refl _) (Nat.le_refl _) ?_
    refine k_ifb_eq (t := 28) (n := 19) dX9_odds_16 (by decide) rfl (fun h16 => ?_) (fun h16 => ?_)
    · refine al0 (n := 29) dX9_odds_28 rfl ?_
      refine cX9_45 (n := 31) dX9_odds_29 rfl rfl ?_
      refine qiX9_46 (n := 34) dX9_odds_31 rfl rfl (Nat.le_of_ble_eq_true rfl) (by omega) rfl (m_errs 1 _ (by decide) rfl) (Nat.le_refl _) (Nat.le_refl _) ?_
      refine k_ireturn (ty := .int) dX9_odds_34 rfl rfl (Nat.le_refl _) (Nat.le_refl _) ?_
      first | exact ⟨J1, by simp only [s_odds, sB, sN, sS, sF, if_pos h5, kcl (show j < 1000 by omega), if_neg h16], by simp only [s_odds, sB, sN, sS, sF, ke0, ke1, ke2, ke3, ke4, if_pos h5, kcl (show j < 1000 by omega), if_neg h16], hJ1.up⟩ | exact ⟨I, by simp only [s_odds, sB, sN, sS, sF, if_pos h5, kcl (show j < 1000 by omega), if_neg h16], by simp only [s_odds, sB, sN, sS, sF, ke0, ke1, ke2, ke3, ke4, if_pos h5, kcl (show j < 1000 by omega), if_neg h16], kJnk.rf I⟩
    · obtain ⟨k, -, hk, rfl⟩ := kbt (a := 0) (b := 200) h16 (by decide) (by decide)
      refine il3 (n := 20) dX9_odds_19 rfl ?_
      refine k_iconst (a := 0) (n := 21) dX9_odds_20 rfl rfl ?_
      refine k_iconst (a := 1) (n := 22) dX9_odds_21 rfl rfl ?_
      refine qiX9_41 (n := 25) dX9_odds_22 rfl rfl (Nat.le_of_ble_eq_true rfl) (by omega) (m_in _ _ _) (Nat.le_refl _) (Nat.le_refl _) ?_
      refine k_ifb_ne (t := 35) (n := 28) dX9_odds_25 (by decide) rfl (fun h25 => ?_) (fun h25 => ?_)
      · refine al0 (n := 36) dX9_odds_35 rfl ?_
        refine il1 (n := 37) dX9_odds_36 rfl ?_
        refine k_iconst (a := 5) (n := 38) dX9_odds_37 rfl rfl ?_
        refine qiX9_80 (n := 41) dX9_odds_38 rfl rfl (Nat.le_of_ble_eq_true rfl) (by omega) rfl (m_its j 5 hj (by decide)) (Nat.le_refl _) (Nat.le_refl _) ?_
        refine k_if_eq (t := 51) (n := 44) dX9_odds_41 (by decide) rfl (fun h41 => ?_) (fun h41 => ?_)
        · refine k_iconst (a := 0) (n := 52) dX9_odds_51 rfl rfl ?_
          refine is4 (n := 54) dX9_odds_52 rfl trivial ?_
          refine al0 (n := 55) dX9_odds_54 rfl ?_
          refine gX9_7 (n := 58) dX9_odds_55 rfl rfl rfl rfl ?_
          refine k_iconst (a := 1) (n := 59) dX9_odds_58 rfl rfl ?_
          refine js_iald (j := 1) (n := 60) dX9_odds_59 rfl rfl rfl (by decide) (by decide) ?_
          rw [hc]
          refine is5 (n := 62) dX9_odds_60 rfl trivial ?_
          refine al0 (n := 63) dX9_odds_62 rfl ?_
          refine al0 (n := 64) dX9_odds_63 rfl ?_
          refine gX9_7 (n := 67) dX9_odds_64 rfl rfl rfl rfl ?_
          refine al0 (n := 68) dX9_odds_67 rfl ?_
          refine gX9_16 (n := 71) dX9_odds_68 rfl rfl rfl rfl ?_
          refine qiX9_163 (n := 74) dX9_odds_71 rfl rfl (Nat.le_of_ble_eq_true rfl) (by omega) rfl (m_save (b := 84) rfl (by decide)) (Nat.le_refl _) (Nat.le_refl _) ?_
          refine k_iconst (a := 0) (n := 75) dX9_odds_74 rfl rfl ?_
          refine is6 (n := 77) dX9_odds_75 rfl trivial ?_
          have h := m_odds_l (E := E) (d := d) (I := I) (r := r) (by omega) hR j hj k hk q c hc h1 hc16 (kU I (s_odds r (nI j) (nI k) q)) (fun K hK => ?_) c 0 (kset I 84 (svF r (I 84))) (kJnk.set _ (Or.inl rfl)) (fun x hx => by rw [kset_same]; exact if_pos hx) (by omega)
          · exact h
          · have hg : 0 < Nat.gcd (odC r j k c) c := Nat.gcd_pos_of_pos_right _ (by omega)
            have hg2 : Nat.gcd (odC r j k c) c ≤ c := Nat.gcd_le_right _ (by omega)
            have hl := odC_le r j k c
            refine il4 (n := 163) dX9_odds_161 rfl ?_
            refine il5 (n := 165) dX9_odds_163 rfl ?_
            refine qiX9_209 (n := 168) dX9_odds_165 rfl rfl (Nat.le_of_ble_eq_true rfl) (by omega) (m_divisor _ _ (by omega) (by omega)) (Nat.le_refl _) (Nat.le_refl _) ?_
            refine is6 (n := 170) dX9_odds_168 rfl trivial ?_
            refine il3 (n := 171) dX9_odds_170 rfl ?_
            refine k_if_ne (t := 182) (n := 174) dX9_odds_171 (by decide) rfl (fun h171 => ?_) (fun h171 => ?_)
            · refine il5 (n := 184) dX9_odds_182 rfl ?_
              refine il6 (n := 186) dX9_odds_184 rfl ?_
              refine k_idiv (n := 187) dX9_odds_186 rfl (nI_ne0 hg (by omega)) ?_
              rw [pk_div (by omega) hg (by omega)]
              refine k_ireturn (ty := .int) dX9_odds_187 rfl rfl (Nat.le_refl _) (Nat.le_refl _) ?_
              exact ⟨K, by simp only [s_odds, eR, if_pos h5, if_pos h16, if_pos h25, if_pos h41, kcl (show j < 1000 by omega), kcl (show k < 1000 by omega), if_neg h171], by simp only [s_odds, ke0, if_pos h5, if_pos h16, if_pos h25, if_pos h41, kcl (show j < 1000 by omega), kcl (show k < 1000 by omega), if_neg h171], hK⟩
            · refine il4 (n := 176) dX9_odds_174 rfl ?_
              refine il6 (n := 178) dX9_odds_176 rfl ?_
              refine k_idiv (n := 179) dX9_odds_178 rfl (nI_ne0 hg (by omega)) ?_
              rw [pk_div (by omega) hg (by omega)]
              refine k_goto (n := 187) dX9_odds_179 (by decide) ?_
              refine k_ireturn (ty := .int) dX9_odds_187 rfl rfl (Nat.le_refl _) (Nat.le_refl _) ?_
              exact ⟨K, by simp only [s_odds, eR, if_pos h5, if_pos h16, if_pos h25, if_pos h41, kcl (show j < 1000 by omega), kcl (show k < 1000 by omega), if_pos h171], by simp only [s_odds, ke0, if_pos h5, if_pos h16, if_pos h25, if_pos h41, kcl (show j < 1000 by omega), kcl (show k < 1000 by omega), if_pos h171], hK⟩
        · refine al0 (n := 45) dX9_odds_44 rfl ?_
          refine cX9_50 (n := 47) dX9_odds_45 rfl rfl ?_
          refine qiX9_46 (n := 50) dX9_odds_47 rfl rfl (Nat.le_of_ble_eq_true rfl) (by omega) rfl (m_errs 3 _ (by decide) rfl) (Nat.le_refl _) (Nat.le_refl _) ?_
          refine k_ireturn (ty := .int) dX9_odds_50 rfl rfl (Nat.le_refl _) (Nat.le_refl _) ?_
          first | exact ⟨J1, by simp only [s_odds, sB, sN, sS, sF, if_pos h5, kcl (show j < 1000 by omega), if_pos h16, kcl (show k < 1000 by omega), if_pos h25, if_neg h41], by simp only [s_odds, sB, sN, sS, sF, ke0, ke1, ke2, ke3, ke4, if_pos h5, kcl (show j < 1000 by omega), if_pos h16, kcl (show k < 1000 by omega), if_pos h25, if_neg h41], hJ1.up⟩ | exact ⟨I, by simp only [s_odds, sB, sN, sS, sF, if_pos h5, kcl (show j < 1000 by omega), if_pos h16, kcl (show k < 1000 by omega), if_pos h25, if_neg h41], by simp only [s_odds, sB, sN, sS, sF, ke0, ke1, ke2, ke3, ke4, if_pos h5, kcl (show j < 1000 by omega), if_pos h16, kcl (show k < 1000 by omega), if_pos h25, if_neg h41], kJnk.rf I⟩
      · refine al0 (n := 29) dX9_odds_28 rfl ?_
        refine cX9_45 (n := 31) dX9_odds_29 rfl rfl ?_
        refine qiX9_46 (n := 34) dX9_odds_31 rfl rfl (Nat.le_of_ble_eq_true rfl) (by omega) rfl (m_errs 1 _ (by decide) rfl) (Nat.le_refl _) (Nat.le_refl _) ?_
        refine k_ireturn (ty := .int) dX9_odds_34 rfl rfl (Nat.le_refl _) (Nat.le_refl _) ?_
        first | exact ⟨J1, by simp only [s_odds, sB, sN, sS, sF, if_pos h5, kcl (show j < 1000 by omega), if_pos h16, kcl (show k < 1000 by omega), if_neg h25], by simp only [s_odds, sB, sN, sS, sF, ke0, ke1, ke2, ke3, ke4, if_pos h5, kcl (show j < 1000 by omega), if_pos h16, kcl (show k < 1000 by omega), if_neg h25], hJ1.up⟩ | exact ⟨I, by simp only [s_odds, sB, sN, sS, sF, if_pos h5, kcl (show j < 1000 by omega), if_pos h16, kcl (show k < 1000 by omega), if_neg h25], by simp only [s_odds, sB, sN, sS, sF, ke0, ke1, ke2, ke3, ke4, if_pos h5, kcl (show j < 1000 by omega), if_pos h16, kcl (show k < 1000 by omega), if_neg h25], kJnk.rf I⟩
def s_check (r : Nat → Int32) : sT := if srF (fun i => ¬ cntF (passF (i + 1) (upd r 5 0)) 2 = passF (i + 1) (upd r 5 0) (135 + i)) (r 5).toNatClampNeg 0 < (r 5).toNatClampNeg then (1 + nI (srF (fun i => ¬ cntF (passF (i + 1) (upd r 5 0)) 2 = passF (i + 1) (upd r 5 0) (135 + i)) (r 5).toNatClampNeg 0), upd r 5 0, 0) else (0, upd r 5 0, 0)
theorem RI_5 {r : Nat → Int32} (hR : RI r) : RI (upd r 5 0) := by
  obtain ⟨a1, a2, a3, a4, a5, a6, a7, a8, a9⟩ := hR
  have e : ∀ j, j ≠ 5 → upd r 5 0 j = r j := fun j hj => pk_un hj
  refine ⟨?_, ?_, ?_, ?_, ?_, ⟨0, pk_us, by decide⟩, ?_, fun k hk => ?_, fun k hk => ?_⟩
  · rw [e 9 (by omega)]; exact a1
  · rw [e 8 (by omega)]; exact a2
  · rw [e 11 (by omega)]; exact a3
  · rw [e 3 (by omega)]; exact a4
  · rw [e 4 (by omega)]; exact a5
  · rw [e 1 (by omega)]; exact a7
  · rw [e _ (by omega), e _ (by omega)]; exact a8 k hk
  · rw [e _ (by omega)]; exact a9 k hk
set_option maxHeartbeats 2000000 in
set_option maxRecDepth 20000 in
theorem m_check_l (hd : 65 ≤ d) {p : Nat → Int32} (hR : RI p) (c : Nat) (h20 : c ≤ 20) (Q : Option Value → kM → Prop) (hQ : ∀ K, kJunk I K → ∀ i n, i = srF (fun i => ¬ cntF (passF (i + 1) p) 2 = passF (i + 1) p (135 + i)) c 0 → ∀ (f : Prop) [Decidable f], (f ↔ ¬ i < c) → Wd E d mX9_check 0 0 0 0 85 [some (.ref 81), some (.int (nI c)), some (.int (nI i)), some (.int (kb f))] [] (kJ (kset K 82 (passF n p))) Q) (m : Nat) : ∀ (i : Nat) (J : Nat → Nat → Int32), kJunk I J → i + m = c → srF (fun i => ¬ cntF (passF (i + 1) p) 2 = passF (i + 1) p (135 + i)) m i = srF (fun i => ¬ cntF (passF (i + 1) p) 2 = passF (i + 1) p (135 + i)) c 0 → Wd E d mX9_check 0 0 0 0 30 [some (.ref 81), some (.int (nI c)), some (.int (nI i)), some (.int 1)] [] (kJ (kset J 82 (passF i p))) Q := by
  induction m with
  | zero =>
    intro i J hJ hi hs
    have e : i = c := by omega
    subst e
    refine il2 (n := 31) dX9_check_30 rfl ?_
    refine il1 (n := 32) dX9_check_31 rfl ?_
    refine k_icmp_ge (t := 85) (n := 35) dX9_check_32 (by decide) rfl (fun h32 => ?_) (fun h32 => ?_)
    · exact hQ J hJ i i hs True (by simp)
    · exact absurd (Int32.le_refl _) h32
  | succ m ih =>
    intro i J hJ hi hs
    have hRi := RI_pass hR (i + 1)
    refine il2 (n := 31) dX9_check_30 rfl ?_
    refine il1 (n := 32) dX9_check_31 rfl ?_
    refine k_icmp_ge (t := 85) (n := 35) dX9_check_32 (by decide) rfl (fun h32 => ?_) (fun h32 => ?_)
    · exact absurd h32 (nI_ge (by omega) (by omega))
    · refine il3 (n := 36) dX9_check_35 rfl ?_
      refine k_if_eq (t := 85) (n := 39) dX9_check_36 (by decide) rfl (fun h36 => ?_) (fun h36 => ?_)
      · exact absurd h36 (by decide)
      · refine al0 (n := 40) dX9_check_39 rfl ?_
        refine qX9_182 (n := 43) dX9_check_40 rfl rfl (Nat.le_of_ble_eq_true rfl) (by omega) (Nat.le_refl _) (Nat.le_refl _) rfl (m_oneBeat (by omega) (RI_pass hR i)) ?_
        rintro _ _ ⟨J1, rfl, rfl, hJ1⟩
        dsimp only [Option.toList, List.nil_append, Nat.add_zero]
        refine al0 (n := 44) dX9_check_43 rfl ?_
        refine k_iconst (a := 2) (n := 45) dX9_check_44 rfl rfl ?_
        refine qiX9_189 (n := 48) dX9_check_45 rfl rfl (Nat.le_of_ble_eq_true rfl) (by omega) rfl (m_cnt1 (by omega) hRi 2) (Nat.le_refl _) (Nat.le_refl _) ?_
        refine qiX9_192 (n := 51) dX9_check_48 rfl rfl (Nat.le_of_ble_eq_true rfl) (by omega) (m_bits _ (setN_256 hRi 2)) (Nat.le_refl _) (Nat.le_refl _) ?_
        refine al0 (n := 52) dX9_check_51 rfl ?_
        refine gX9_7 (n := 55) dX9_check_52 rfl rfl rfl rfl ?_
        refine k_sipush (a := 135) (n := 58) dX9_check_55 rfl rfl ?_
        refine il2 (n := 59) dX9_check_58 rfl ?_
        refine k_iadd (n := 60) dX9_check_59 rfl ?_
        refine js_iald (j := 135 + i) (n := 61) dX9_check_60 rfl rfl (by show nI 135 + nI i = _; rw [nI_add]) (by omega) (by decide) ?_
        refine k_icmp_ne (t := 68) (n := 64) dX9_check_61 (by decide) rfl (fun h61 => ?_) (fun h61 => ?_)
        · refine k_iconst (a := 0) (n := 69) dX9_check_68 rfl rfl ?_
          refine is3 (n := 70) dX9_check_69 rfl trivial ?_
          refine il2 (n := 71) dX9_check_70 rfl ?_
          refine il3 (n := 72) dX9_check_71 rfl ?_
          refine k_if_eq (t := 79) (n := 75) dX9_check_72 (by decide) rfl (fun h72 => ?_) (fun h72 => ?_)
          · refine k_iconst (a := 0) (n := 80) dX9_check_79 rfl rfl ?_
            refine k_iadd (n := 81) dX9_check_80 rfl ?_
            refine is2 (n := 82) dX9_check_81 rfl trivial ?_
            refine k_goto (n := 30) dX9_check_82 (by decide) ?_
            first
              | (exfalso; revert h72; decide)
              | (rw [show nI i + 1 = nI (i + 1) from nI_1 i]
                 exact ih (i + 1) J1 (hJ.tr hJ1) (by omega) (by have h := hs; simp only [srF, if_neg (show ¬ ¬ cntF (passF (i + 1) p) 2 = passF (i + 1) p (135 + i) from fun h => h h61)] at h; exact h))
              | (rw [show nI i + 0 = nI i from Int32.add_zero _]
                 have e := hQ J1 (hJ.tr hJ1) i (i + 1) (by have h := hs; simp only [srF, if_pos (show ¬ cntF (passF (i + 1) p) 2 = passF (i + 1) p (135 + i) from h61)] at h; exact h) False (by simp; omega)
                 rw [kb_f id] at e
                 refine il2 (n := 31) dX9_check_30 rfl ?_
                 refine il1 (n := 32) dX9_check_31 rfl ?_
                 refine k_icmp_ge (t := 85) (n := 35) dX9_check_32 (by decide) rfl (fun _ => e) (fun _ => ?_)
                 refine il3 (n := 36) dX9_check_35 rfl ?_
                 exact k_if_eq (t := 85) (n := 39) dX9_check_36 (by decide) rfl (fun _ => e) (fun h => absurd rfl h))
          · refine k_iconst (a := 1) (n := 76) dX9_check_75 rfl rfl ?_
            refine k_goto (n := 80) dX9_check_76 (by decide) ?_
            refine k_iadd (n := 81) dX9_check_80 rfl ?_
            refine is2 (n := 82) dX9_check_81 rfl trivial ?_
            refine k_goto (n := 30) dX9_check_82 (by decide) ?_
            first
              | (exfalso; revert h72; decide)
              | (rw [show nI i + 1 = nI (i + 1) from nI_1 i]
                 exact ih (i + 1) J1 (hJ.tr hJ1) (by omega) (by have h := hs; simp only [srF, if_neg (show ¬ ¬ cntF (passF (i + 1) p) 2 = passF (i + 1) p (135 + i) from fun h => h h61)] at h; exact h))
              | (rw [show nI i + 0 = nI i from Int32.add_zero _]
                 have e := hQ J1 (hJ.tr hJ1) i (i + 1) (by have h := hs; simp only [srF, if_pos (show ¬ cntF (passF (i + 1) p) 2 = passF (i + 1) p (135 + i) from h61)] at h; exact h) False (by simp; omega)
                 rw [kb_f id] at e
                 refine il2 (n := 31) dX9_check_30 rfl ?_
                 refine il1 (n := 32) dX9_check_31 rfl ?_
                 refine k_icmp_ge (t := 85) (n := 35) dX9_check_32 (by decide) rfl (fun _ => e) (fun _ => ?_)
                 refine il3 (n := 36) dX9_check_35 rfl ?_
                 exact k_if_eq (t := 85) (n := 39) dX9_check_36 (by decide) rfl (fun _ => e) (fun h => absurd rfl h))
        · refine k_iconst (a := 1) (n := 65) dX9_check_64 rfl rfl ?_
          refine k_goto (n := 69) dX9_check_65 (by decide) ?_
          refine is3 (n := 70) dX9_check_69 rfl trivial ?_
          refine il2 (n := 71) dX9_check_70 rfl ?_
          refine il3 (n := 72) dX9_check_71 rfl ?_
          refine k_if_eq (t := 79) (n := 75) dX9_check_72 (by decide) rfl (fun h72 => ?_) (fun h72 => ?_)
          · refine k_iconst (a := 0) (n := 80) dX9_check_79 rfl rfl ?_
            refine k_iadd (n := 81) dX9_check_80 rfl ?_
            refine is2 (n := 82) dX9_check_81 rfl trivial ?_
            refine k_goto (n := 30) dX9_check_82 (by decide) ?_
            first
              | (exfalso; revert h72; decide)
              | (rw [show nI i + 1 = nI (i + 1) from nI_1 i]
                 exact ih (i + 1) J1 (hJ.tr hJ1) (by omega) (by have h := hs; simp only [srF, if_neg (show ¬ ¬ cntF (passF (i + 1) p) 2 = passF (i + 1) p (135 + i) from fun h => h h61)] at h; exact h))
              | (rw [show nI i + 0 = nI i from Int32.add_zero _]
                 have e := hQ J1 (hJ.tr hJ1) i (i + 1) (by have h := hs; simp only [srF, if_pos (show ¬ cntF (passF (i + 1) p) 2 = passF (i + 1) p (135 + i) from h61)] at h; exact h) False (by simp; omega)
                 rw [kb_f id] at e
                 refine il2 (n := 31) dX9_check_30 rfl ?_
                 refine il1 (n := 32) dX9_check_31 rfl ?_
                 refine k_icmp_ge (t := 85) (n := 35) dX9_check_32 (by decide) rfl (fun _ => e) (fun _ => ?_)
                 refine il3 (n := 36) dX9_check_35 rfl ?_
                 exact k_if_eq (t := 85) (n := 39) dX9_check_36 (by decide) rfl (fun _ => e) (fun h => absurd rfl h))
          · refine k_iconst (a := 1) (n := 76) dX9_check_75 rfl rfl ?_
            refine k_goto (n := 80) dX9_check_76 (by decide) ?_
            refine k_iadd (n := 81) dX9_check_80 rfl ?_
            refine is2 (n := 82) dX9_check_81 rfl trivial ?_
            refine k_goto (n := 30) dX9_check_82 (by decide) ?_
            first
              | (exfalso; revert h72; decide)
              | (rw [show nI i + 1 = nI (i + 1) from nI_1 i]
                 exact ih (i + 1) J1 (hJ.tr hJ1) (by omega) (by have h := hs; simp only [srF, if_neg (show ¬ ¬ cntF (passF (i + 1) p) 2 = passF (i + 1) p (135 + i) from fun h => h h61)] at h; exact h))
              | (rw [show nI i + 0 = nI i from Int32.add_zero _]
                 have e := hQ J1 (hJ.tr hJ1) i (i + 1) (by have h := hs; simp only [srF, if_pos (show ¬ cntF (passF (i + 1) p) 2 = passF (i + 1) p (135 + i) from h61)] at h; exact h) False (by simp; omega)
                 rw [kb_f id] at e
                 refine il2 (n := 31) dX9_check_30 rfl ?_
                 refine il1 (n := 32) dX9_check_31 rfl ?_
                 refine k_icmp_ge (t := 85) (n := 35) dX9_check_32 (by decide) rfl (fun _ => e) (fun _ => ?_)
                 refine il3 (n := 36) dX9_check_35 rfl ?_
                 exact k_if_eq (t := 85) (n := 39) dX9_check_36 (by decide) rfl (fun _ => e) (fun h => absurd rfl h))
set_option maxHeartbeats 2000000 in
set_option maxRecDepth 20000 in
theorem m_check (hd : 66 ≤ d) (hR : RI r) : Ct E d mX9_check 0 0 [.ref 81] (kJ (kset I 82 r)) (kU I (s_check r)) := by
  obtain ⟨-, -, -, -, -, ⟨c, hc, h20⟩, -⟩ := id hR
  have eC : (r 5).toNatClampNeg = c := by rw [hc]; exact kcl (by omega)
  refine Ct.of (L := [some (.ref 81), none, none, none]) rfl rfl (Nat.le_of_ble_eq_true rfl) ?_
  refine al0 (n := 1) dX9_check_0 rfl ?_
  refine gX9_7 (n := 4) dX9_check_1 rfl rfl rfl rfl ?_
  refine k_iconst (a := 5) (n := 5) dX9_check_4 rfl rfl ?_
  refine js_iald (j := 5) (n := 6) dX9_check_5 rfl rfl rfl (by decide) (by decide) ?_
  rw [hc]
  refine is1 (n := 7) dX9_check_6 rfl trivial ?_
  refine al0 (n := 8) dX9_check_7 rfl ?_
  refine gX9_7 (n := 11) dX9_check_8 rfl rfl rfl rfl ?_
  refine k_iconst (a := 5) (n := 12) dX9_check_11 rfl rfl ?_
  refine k_iconst (a := 0) (n := 13) dX9_check_12 rfl rfl ?_
  refine js_iast (j := 5) (n := 14) dX9_check_13 rfl rfl rfl (by decide) (by decide) ?_
  refine al0 (n := 15) dX9_check_14 rfl ?_
  refine al0 (n := 16) dX9_check_15 rfl ?_
  refine gX9_7 (n := 19) dX9_check_16 rfl rfl rfl rfl ?_
  refine al0 (n := 20) dX9_check_19 rfl ?_
  refine gX9_16 (n := 23) dX9_check_20 rfl rfl rfl rfl ?_
  refine qiX9_163 (n := 26) dX9_check_23 rfl rfl (Nat.le_of_ble_eq_true rfl) (by omega) rfl (m_save (b := 84) rfl (by decide)) (Nat.le_refl _) (Nat.le_refl _) ?_
  refine k_iconst (a := 0) (n := 27) dX9_check_26 rfl rfl ?_
  refine is2 (n := 28) dX9_check_27 rfl trivial ?_
  refine k_iconst (a := 1) (n := 29) dX9_check_28 rfl rfl ?_
  refine is3 (n := 30) dX9_check_29 rfl trivial ?_
  refine m_check_l (by omega) (RI_5 hR) c h20 _ (fun K hK i n hi f _ hf => ?_) c 0 (kset I 84 (svF (upd r 5 0) (I 84))) (kJunk.rf _) (by omega) rfl
  refine al0 (n := 86) dX9_check_85 rfl ?_
  refine al0 (n := 87) dX9_check_86 rfl ?_
  refine gX9_16 (n := 90) dX9_check_87 rfl rfl rfl rfl ?_
  refine al0 (n := 91) dX9_check_90 rfl ?_
  refine gX9_7 (n := 94) dX9_check_91 rfl rfl rfl rfl ?_
  refine qiX9_163 (n := 97) dX9_check_94 rfl rfl (Nat.le_of_ble_eq_true rfl) (by omega) rfl (m_back (b := 84) (r := upd r 5 0) rfl (by decide) (sv_at (Or.inl rfl) hK) (fun j hj => hi_pass (RI_5 hR) hj n)) (Nat.le_refl _) (Nat.le_refl _) ?_
  refine il3 (n := 98) dX9_check_97 rfl ?_
  refine k_ifb_eq (t := 105) (n := 101) dX9_check_98 (by decide) rfl (fun h98 => ?_) (fun h98 => ?_)
  · have hf2 : (srF (fun i => ¬ cntF (passF (i + 1) (upd r 5 0)) 2 = passF (i + 1) (upd r 5 0) (135 + i)) c 0 < c) = True := eq_true (Classical.byContradiction fun h => h98 (hf.mpr (hi ▸ h)))
    refine k_iconst (a := 1) (n := 106) dX9_check_105 rfl rfl ?_
    refine il2 (n := 107) dX9_check_106 rfl ?_
    refine k_iadd (n := 108) dX9_check_107 rfl ?_
    refine k_ireturn (ty := .int) dX9_check_108 rfl rfl (Nat.le_refl _) (Nat.le_refl _) ?_
    exact ⟨K, by simp only [s_check, eC, hf2, reduceIte, hi], by simp only [s_check, eC, hf2, reduceIte, ke0], sv_jk (Or.inl rfl) hK⟩
  · have hf2 : (srF (fun i => ¬ cntF (passF (i + 1) (upd r 5 0)) 2 = passF (i + 1) (upd r 5 0) (135 + i)) c 0 < c) = False := eq_false (hi ▸ hf.mp h98)
    refine k_iconst (a := 0) (n := 102) dX9_check_101 rfl rfl ?_
    refine k_goto (n := 108) dX9_check_102 (by decide) ?_
    refine k_ireturn (ty := .int) dX9_check_108 rfl rfl (Nat.le_refl _) (Nat.le_refl _) ?_
    exact ⟨K, by simp only [s_check, eC, hf2, reduceIte, hi], by simp only [s_check, eC, hf2, reduceIte, ke0], sv_jk (Or.inl rfl) hK⟩
end M10

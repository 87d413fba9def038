section M11
variable {E : kE} {d : Nat} {I : Nat → Nat → Int32} {r : Nat → Int32}
set_option maxHeartbeats 2000000 in
set_option maxRecDepth 20000 in
theorem m_isSheet (hd : 1 ≤ d) (v : Int32) : Ct E d mX9_isSheet 0 0 [.int v] (kJ I) (kR (kb (0 ≤ v ∧ v ≤ 3)) I) := by
  refine Ct.of (L := [some (.int v)]) rfl rfl (Nat.le_of_ble_eq_true rfl) ?_
  refine il0 (n := 1) dX9_isSheet_0 rfl ?_
  refine k_iconst (a := 0) (n := 2) dX9_isSheet_1 rfl rfl ?_
  refine k_iconst (a := 3) (n := 3) dX9_isSheet_2 rfl rfl ?_
  refine qiX9_41 (n := 6) dX9_isSheet_3 rfl rfl (Nat.le_of_ble_eq_true rfl) (by omega) (m_in _ _ _) (Nat.le_refl _) (Nat.le_refl _) ?_
  refine k_ireturn (ty := .boolean) dX9_isSheet_6 rfl (by first | rfl | exact knb _) (Nat.le_refl _) (Nat.le_refl _) ?_
  exact ⟨rfl, rfl⟩
set_option maxHeartbeats 2000000 in
set_option maxRecDepth 20000 in
theorem m_narrow (b v : Int32) : Ct E d mX9_narrow 0 0 [.int b, .int v] (kJ I) (kR (if b = 8 then v.toInt8.toInt32 else if b = 16 then v.toInt16.toInt32 else v) I) := by
  refine Ct.of (L := [some (.int b), some (.int v)]) rfl rfl (Nat.le_of_ble_eq_true rfl) ?_
  refine il0 (n := 1) dX9_narrow_0 rfl ?_
  refine k_bipush (a := 8) (n := 3) dX9_narrow_1 rfl rfl ?_
  refine k_icmp_ne (t := 11) (n := 6) dX9_narrow_3 (by decide) rfl (fun h3 => ?_) (fun h3 => ?_)
  · refine il0 (n := 12) dX9_narrow_11 rfl ?_
    refine k_bipush (a := 16) (n := 14) dX9_narrow_12 rfl rfl ?_
    refine k_icmp_ne (t := 22) (n := 17) dX9_narrow_14 (by decide) rfl (fun h14 => ?_) (fun h14 => ?_)
    · refine il1 (n := 23) dX9_narrow_22 rfl ?_
      refine k_ireturn (ty := .int) dX9_narrow_23 rfl rfl (Nat.le_refl _) (Nat.le_refl _) ?_
      exact ⟨by simp only [reduceIte, if_neg h3, if_neg h14], rfl⟩
    · refine il1 (n := 18) dX9_narrow_17 rfl ?_
      refine k_i2s (n := 19) dX9_narrow_18 rfl ?_
      refine k_goto (n := 23) dX9_narrow_19 (by decide) ?_
      refine k_ireturn (ty := .int) dX9_narrow_23 rfl rfl (Nat.le_refl _) (Nat.le_refl _) ?_
      exact ⟨by simp only [reduceIte, if_neg h3, if_pos h14], rfl⟩
  · refine il1 (n := 7) dX9_narrow_6 rfl ?_
    refine k_i2b (n := 8) dX9_narrow_7 rfl ?_
    refine k_goto (n := 23) dX9_narrow_8 (by decide) ?_
    refine k_ireturn (ty := .int) dX9_narrow_23 rfl rfl (Nat.le_refl _) (Nat.le_refl _) ?_
    exact ⟨by simp only [reduceIte, if_pos h3], rfl⟩
/-- a sheet is laid anew -/
def clrS (f : Nat → Int32) (a i : Nat) : Nat → Int32 := fun j => if 40 * a ≤ j ∧ j < 40 * a + i then 0 else f j
def shM (I : Nat → Nat → Int32) (a : Nat) (b n : Int32) : Nat → Nat → Int32 := kset (kset (kset I 87 (upd (I 87) a b)) 88 (upd (I 88) a (if b = 0 then 0 else n))) 89 (clrS (I 89) a 40)
def s_sheet (I : Nat → Nat → Int32) (v b n : Int32) : Int32 × (Nat → Nat → Int32) :=
  if 0 ≤ v ∧ v ≤ 3 then (if b = 0 ∨ b = 8 ∨ b = 16 ∨ b = 32 then (if ¬ b = 0 ∧ ¬ 0 ≤ n then (-1000000003, ker I 3) else if ¬ b = 0 ∧ ¬ n ≤ 40 then (-1000000001, ker I 1) else (1, shM I v.toNatClampNeg b n)) else (-1000000001, ker I 1)) else (-1000000001, ker I 1)
set_option maxHeartbeats 2000000 in
set_option maxRecDepth 20000 in
theorem m_sheet_l (a : Nat) (ha : a ≤ 3) (b n : Int32) {J : Nat → Nat → Int32} {f : Nat → Int32} (m : Nat) : ∀ (i : Nat), i + m = 40 → Wd E d mX9_sheet 0 0 0 0 93 [some (.ref 81), some (.int (nI a)), some (.int b), some (.int n), some (.int (nI i))] [] (kJ (kset J 89 (clrS f a i))) (kR 1 (kset J 89 (clrS f a 40))) := by
  induction m with
  | zero =>
    intro i hi
    have e : i = 40 := by omega
    subst e
    refine il4 (n := 95) dX9_sheet_93 rfl ?_
    refine k_bipush (a := 40) (n := 97) dX9_sheet_95 rfl rfl ?_
    refine k_icmp_ge (t := 119) (n := 100) dX9_sheet_97 (by decide) rfl (fun h97 => ?_) (fun h97 => ?_)
    · refine k_iconst (a := 1) (n := 120) dX9_sheet_119 rfl rfl ?_
      refine k_ireturn (ty := .int) dX9_sheet_120 rfl rfl (Nat.le_refl _) (Nat.le_refl _) ?_
      exact ⟨rfl, rfl⟩
    · exact absurd (Int32.le_refl _) h97
  | succ m ih =>
    intro i hi
    refine il4 (n := 95) dX9_sheet_93 rfl ?_
    refine k_bipush (a := 40) (n := 97) dX9_sheet_95 rfl rfl ?_
    refine k_icmp_ge (t := 119) (n := 100) dX9_sheet_97 (by decide) rfl (fun h97 => ?_) (fun h97 => ?_)
    · exact absurd h97 (nI_ge (show i < 40 by omega) (by decide))
    · refine al0 (n := 101) dX9_sheet_100 rfl ?_
      refine gX9_31 (n := 104) dX9_sheet_101 rfl rfl rfl rfl ?_
      refine k_bipush (a := 40) (n := 106) dX9_sheet_104 rfl rfl ?_
      refine il1 (n := 107) dX9_sheet_106 rfl ?_
      refine k_imul (n := 108) dX9_sheet_107 rfl ?_
      refine il4 (n := 110) dX9_sheet_108 rfl ?_
      refine k_iadd (n := 111) dX9_sheet_110 rfl ?_
      refine k_iconst (a := 0) (n := 112) dX9_sheet_111 rfl rfl ?_
      refine js_iast (j := 40 * a + i) (n := 113) dX9_sheet_112 rfl rfl (by show nI 40 * nI a + nI i = _; rw [pk_mul, nI_add]) (by omega) (by decide) ?_
      rw [show upd (clrS f a i) (40 * a + i) 0 = clrS f a (i + 1) from by
        funext j
        unfold upd clrS
        by_cases h1 : j = 40 * a + i
        · subst h1; simp
        · rw [if_neg h1]
          by_cases h2 : 40 * a ≤ j ∧ j < 40 * a + i
          · rw [if_pos h2, if_pos (by omega)]
          · rw [if_neg h2, if_neg (by omega)]]
      refine ii4 (n := 116) dX9_sheet_113 rfl (ki1 _) trivial ?_
      rw [nI_1 i]
      refine k_goto (n := 93) dX9_sheet_116 (by decide) ?_
      exact ih (i + 1) (by omega)
set_option maxHeartbeats 2000000 in
set_option maxRecDepth 20000 in
theorem m_sheet (hd : 2 ≤ d) (v b n : Int32) : Ct E d mX9_sheet 0 0 [.ref 81, .int v, .int b, .int n] (kJ I) (kR (s_sheet I v b n).1 (s_sheet I v b n).2) := by
  have key : ∀ (a : Nat) (ha : a ≤ 3) (h4 : 0 ≤ nI a ∧ nI a ≤ 3) (hb : b = 0 ∨ b = 8 ∨ b = 16 ∨ b = 32), Wd E d mX9_sheet 0 0 0 0 36 [some (.ref 81), some (.int (nI a)), some (.int b), some (.int n), none] [] (kJ I) (kR (s_sheet I (nI a) b n).1 (s_sheet I (nI a) b n).2) := by
    intro a ha h4 hb
    refine il2 (n := 37) dX9_sheet_36 rfl ?_
    refine k_if_eq (t := 51) (n := 40) dX9_sheet_37 (by decide) rfl (fun h37 => ?_) (fun h37 => ?_)
    · refine il2 (n := 52) dX9_sheet_51 rfl ?_
      refine k_if_eq (t := 68) (n := 55) dX9_sheet_52 (by decide) rfl (fun h52 => ?_) (fun h52 => ?_)
      · refine al0 (n := 69) dX9_sheet_68 rfl ?_
        refine gX9_25 (n := 72) dX9_sheet_69 rfl rfl rfl rfl ?_
        refine il1 (n := 73) dX9_sheet_72 rfl ?_
        refine il2 (n := 74) dX9_sheet_73 rfl ?_
        refine j_iast (j := a) (n := 75) dX9_sheet_74 rfl rfl rfl (by omega) (by decide) ?_
        refine al0 (n := 76) dX9_sheet_75 rfl ?_
        refine gX9_28 (n := 79) dX9_sheet_76 rfl rfl rfl rfl ?_
        refine il1 (n := 80) dX9_sheet_79 rfl ?_
        refine il2 (n := 81) dX9_sheet_80 rfl ?_
        refine k_if_ne (t := 88) (n := 84) dX9_sheet_81 (by decide) rfl (fun h81 => ?_) (fun h81 => ?_)
        · refine il3 (n := 89) dX9_sheet_88 rfl ?_
          refine j_iast (j := a) (n := 90) dX9_sheet_89 rfl rfl rfl (by omega) (by decide) ?_
          refine k_iconst (a := 0) (n := 91) dX9_sheet_90 rfl rfl ?_
          refine is4 (n := 93) dX9_sheet_91 rfl trivial ?_
          first
            | exact absurd h37 h52
            | exact absurd h52 h37
            | exact absurd h81 h37
            | exact absurd h37 h81
            | (have e1 : s_sheet I (nI a) b n = (1, shM I a b n) := by
                 first
                   | simp only [s_sheet, if_pos h4, if_pos hb, if_neg (fun h : ¬ b = 0 ∧ ¬ 0 ≤ n => h.1 h37), if_neg (fun h : ¬ b = 0 ∧ ¬ n ≤ 40 => h.1 h37), kcl (show a < 1000 by omega)]
                   | simp only [s_sheet, if_pos h4, if_pos hb, if_neg (fun h : ¬ b = 0 ∧ ¬ 0 ≤ n => h.2 h41), if_neg (fun h : ¬ b = 0 ∧ ¬ n ≤ 40 => h.2 h58), kcl (show a < 1000 by omega)]
               rw [e1]
               have e2 : ∀ J : Nat → Nat → Int32, kJ J = kJ (kset J 89 (clrS (J 89) a 0)) := fun J => by rw [show clrS (J 89) a 0 = J 89 from funext fun j => if_neg (by omega), kset_self]
               rw [e2]
               have h := m_sheet_l (E := E) (d := d) a ha b n (J := kset (kset I 87 (upd (I 87) a b)) 88 (upd (kset I 87 (upd (I 87) a b) 88) a (if b = 0 then 0 else n))) (f := kset (kset I 87 (upd (I 87) a b)) 88 (upd (kset I 87 (upd (I 87) a b) 88) a (if b = 0 then 0 else n)) 89) 40 0 (by omega)
               simp only [if_pos h81] at h
               refine Eq.mp ?_ h
               simp only [shM, if_pos h81]
               rfl)
            | (have e1 : s_sheet I (nI a) b n = (1, shM I a b n) := by
                 simp only [s_sheet, if_pos h4, if_pos hb, if_neg (fun h : ¬ b = 0 ∧ ¬ 0 ≤ n => h.2 h41), if_neg (fun h : ¬ b = 0 ∧ ¬ n ≤ 40 => h.2 h58), kcl (show a < 1000 by omega)]
               rw [e1]
               have e2 : ∀ J : Nat → Nat → Int32, kJ J = kJ (kset J 89 (clrS (J 89) a 0)) := fun J => by rw [show clrS (J 89) a 0 = J 89 from funext fun j => if_neg (by omega), kset_self]
               rw [e2]
               have h := m_sheet_l (E := E) (d := d) a ha b n (J := kset (kset I 87 (upd (I 87) a b)) 88 (upd (kset I 87 (upd (I 87) a b) 88) a n)) (f := kset (kset I 87 (upd (I 87) a b)) 88 (upd (kset I 87 (upd (I 87) a b) 88) a n) 89) 40 0 (by omega)
               refine Eq.mp ?_ h
               simp only [shM, if_neg h81]
               rfl)
        · refine k_iconst (a := 0) (n := 85) dX9_sheet_84 rfl rfl ?_
          refine k_goto (n := 89) dX9_sheet_85 (by decide) ?_
          refine j_iast (j := a) (n := 90) dX9_sheet_89 rfl rfl rfl (by omega) (by decide) ?_
          refine k_iconst (a := 0) (n := 91) dX9_sheet_90 rfl rfl ?_
          refine is4 (n := 93) dX9_sheet_91 rfl trivial ?_
          first
            | exact absurd h37 h52
            | exact absurd h52 h37
            | exact absurd h81 h37
            | exact absurd h37 h81
            | (have e1 : s_sheet I (nI a) b n = (1, shM I a b n) := by
                 first
                   | simp only [s_sheet, if_pos h4, if_pos hb, if_neg (fun h : ¬ b = 0 ∧ ¬ 0 ≤ n => h.1 h37), if_neg (fun h : ¬ b = 0 ∧ ¬ n ≤ 40 => h.1 h37), kcl (show a < 1000 by omega)]
                   | simp only [s_sheet, if_pos h4, if_pos hb, if_neg (fun h : ¬ b = 0 ∧ ¬ 0 ≤ n => h.2 h41), if_neg (fun h : ¬ b = 0 ∧ ¬ n ≤ 40 => h.2 h58), kcl (show a < 1000 by omega)]
               rw [e1]
               have e2 : ∀ J : Nat → Nat → Int32, kJ J = kJ (kset J 89 (clrS (J 89) a 0)) := fun J => by rw [show clrS (J 89) a 0 = J 89 from funext fun j => if_neg (by omega), kset_self]
               rw [e2]
               have h := m_sheet_l (E := E) (d := d) a ha b n (J := kset (kset I 87 (upd (I 87) a b)) 88 (upd (kset I 87 (upd (I 87) a b) 88) a (if b = 0 then 0 else n))) (f := kset (kset I 87 (upd (I 87) a b)) 88 (upd (kset I 87 (upd (I 87) a b) 88) a (if b = 0 then 0 else n)) 89) 40 0 (by omega)
               simp only [if_pos h81] at h
               refine Eq.mp ?_ h
               simp only [shM, if_pos h81]
               rfl)
            | (have e1 : s_sheet I (nI a) b n = (1, shM I a b n) := by
                 simp only [s_sheet, if_pos h4, if_pos hb, if_neg (fun h : ¬ b = 0 ∧ ¬ 0 ≤ n => h.2 h41), if_neg (fun h : ¬ b = 0 ∧ ¬ n ≤ 40 => h.2 h58), kcl (show a < 1000 by omega)]
               rw [e1]
               have e2 : ∀ J : Nat → Nat → Int32, kJ J = kJ (kset J 89 (clrS (J 89) a 0)) := fun J => by rw [show clrS (J 89) a 0 = J 89 from funext fun j => if_neg (by omega), kset_self]
               rw [e2]
               have h := m_sheet_l (E := E) (d := d) a ha b n (J := kset (kset I 87 (upd (I 87) a b)) 88 (upd (kset I 87 (upd (I 87) a b) 88) a n)) (f := kset (kset I 87 (upd (I 87) a b)) 88 (upd (kset I 87 (upd (I 87) a b) 88) a n) 89) 40 0 (by omega)
               refine Eq.mp ?_ h
               simp only [shM, if_neg h81]
               rfl)
      · refine il3 (n := 56) dX9_sheet_55 rfl ?_
        refine k_bipush (a := 40) (n := 58) dX9_sheet_56 rfl rfl ?_
        refine k_icmp_le (t := 68) (n := 61) dX9_sheet_58 (by decide) rfl (fun h58 => ?_) (fun h58 => ?_)
        · refine al0 (n := 69) dX9_sheet_68 rfl ?_
          refine gX9_25 (n := 72) dX9_sheet_69 rfl rfl rfl rfl ?_
          refine il1 (n := 73) dX9_sheet_72 rfl ?_
          refine il2 (n := 74) dX9_sheet_73 rfl ?_
          refine j_iast (j := a) (n := 75) dX9_sheet_74 rfl rfl rfl (by omega) (by decide) ?_
          refine al0 (n := 76) dX9_sheet_75 rfl ?_
          refine gX9_28 (n := 79) dX9_sheet_76 rfl rfl rfl rfl ?_
          refine il1 (n := 80) dX9_sheet_79 rfl ?_
          refine il2 (n := 81) dX9_sheet_80 rfl ?_
          refine k_if_ne (t := 88) (n := 84) dX9_sheet_81 (by decide) rfl (fun h81 => ?_) (fun h81 => ?_)
          · refine il3 (n := 89) dX9_sheet_88 rfl ?_
            refine j_iast (j := a) (n := 90) dX9_sheet_89 rfl rfl rfl (by omega) (by decide) ?_
            refine k_iconst (a := 0) (n := 91) dX9_sheet_90 rfl rfl ?_
            refine is4 (n := 93) dX9_sheet_91 rfl trivial ?_
            first
              | exact absurd h37 h52
              | exact absurd h52 h37
              | exact absurd h81 h37
              | exact absurd h37 h81
              | (have e1 : s_sheet I (nI a) b n = (1, shM I a b n) := by
                   first
                     | simp only [s_sheet, if_pos h4, if_pos hb, if_neg (fun h : ¬ b = 0 ∧ ¬ 0 ≤ n => h.1 h37), if_neg (fun h : ¬ b = 0 ∧ ¬ n ≤ 40 => h.1 h37), kcl (show a < 1000 by omega)]
                     | simp only [s_sheet, if_pos h4, if_pos hb, if_neg (fun h : ¬ b = 0 ∧ ¬ 0 ≤ n => h.2 h41), if_neg (fun h : ¬ b = 0 ∧ ¬ n ≤ 40 => h.2 h58), kcl (show a < 1000 by omega)]
                 rw [e1]
                 have e2 : ∀ J : Nat → Nat → Int32, kJ J = kJ (kset J 89 (clrS (J 89) a 0)) := fun J => by rw [show clrS (J 89) a 0 = J 89 from funext fun j => if_neg (by omega), kset_self]
                 rw [e2]
                 have h := m_sheet_l (E := E) (d := d) a ha b n (J := kset (kset I 87 (upd (I 87) a b)) 88 (upd (kset I 87 (upd (I 87) a b) 88) a (if b = 0 then 0 else n))) (f := kset (kset I 87 (upd (I 87) a b)) 88 (upd (kset I 87 (upd (I 87) a b) 88) a (if b = 0 then 0 else n)) 89) 40 0 (by omega)
                 simp only [if_pos h81] at h
                 refine Eq.mp ?_ h
                 simp only [shM, if_pos h81]
                 rfl)
              | (have e1 : s_sheet I (nI a) b n = (1, shM I a b n) := by
                   simp only [s_sheet, if_pos h4, if_pos hb, if_neg (fun h : ¬ b = 0 ∧ ¬ 0 ≤ n => h.2 h41), if_neg (fun h : ¬ b = 0 ∧ ¬ n ≤ 40 => h.2 h58), kcl (show a < 1000 by omega)]
                 rw [e1]
                 have e2 : ∀ J : Nat → Nat → Int32, kJ J = kJ (kset J 89 (clrS (J 89) a 0)) := fun J => by rw [show clrS (J 89) a 0 = J 89 from funext fun j => if_neg (by omega), kset_self]
                 rw [e2]
                 have h := m_sheet_l (E := E) (d := d) a ha b n (J := kset (kset I 87 (upd (I 87) a b)) 88 (upd (kset I 87 (upd (I 87) a b) 88) a n)) (f := kset (kset I 87 (upd (I 87) a b)) 88 (upd (kset I 87 (upd (I 87) a b) 88) a n) 89) 40 0 (by omega)
                 refine Eq.mp ?_ h
                 simp only [shM, if_neg h81]
                 rfl)
          · refine k_iconst (a := 0) (n := 85) dX9_sheet_84 rfl rfl ?_
            refine k_goto (n := 89) dX9_sheet_85 (by decide) ?_
            refine j_iast (j := a) (n := 90) dX9_sheet_89 rfl rfl rfl (by omega) (by decide) ?_
            refine k_iconst (a := 0) (n := 91) dX9_sheet_90 rfl rfl ?_
            refine is4 (n := 93) dX9_sheet_91 rfl trivial ?_
            first
              | exact absurd h37 h52
              | exact absurd h52 h37
              | exact absurd h81 h37
              | exact absurd h37 h81
              | (have e1 : s_sheet I (nI a) b n = (1, shM I a b n) := by
                   first
                     | simp only [s_sheet, if_pos h4, if_pos hb, if_neg (fun h : ¬ b = 0 ∧ ¬ 0 ≤ n => h.1 h37), if_neg (fun h : ¬ b = 0 ∧ ¬ n ≤ 40 => h.1 h37), kcl (show a < 1000 by omega)]
                     | simp only [s_sheet, if_pos h4, if_pos hb, if_neg (fun h : ¬ b = 0 ∧ ¬ 0 ≤ n => h.2 h41), if_neg (fun h : ¬ b = 0 ∧ ¬ n ≤ 40 => h.2 h58), kcl (show a < 1000 by omega)]
                 rw [e1]
                 have e2 : ∀ J : Nat → Nat → Int32, kJ J = kJ (kset J 89 (clrS (J 89) a 0)) := fun J => by rw [show clrS (J 89) a 0 = J 89 from funext fun j => if_neg (by omega), kset_self]
                 rw [e2]
                 have h := m_sheet_l (E := E) (d := d) a ha b n (J := kset (kset I 87 (upd (I 87) a b)) 88 (upd (kset I 87 (upd (I 87) a b) 88) a (if b = 0 then 0 else n))) (f := kset (kset I 87 (upd (I 87) a b)) 88 (upd (kset I 87 (upd (I 87) a b) 88) a (if b = 0 then 0 else n)) 89) 40 0 (by omega)
                 simp only [if_pos h81] at h
                 refine Eq.mp ?_ h
                 simp only [shM, if_pos h81]
                 rfl)
              | (have e1 : s_sheet I (nI a) b n = (1, shM I a b n) := by
                   simp only [s_sheet, if_pos h4, if_pos hb, if_neg (fun h : ¬ b = 0 ∧ ¬ 0 ≤ n => h.2 h41), if_neg (fun h : ¬ b = 0 ∧ ¬ n ≤ 40 => h.2 h58), kcl (show a < 1000 by omega)]
                 rw [e1]
                 have e2 : ∀ J : Nat → Nat → Int32, kJ J = kJ (kset J 89 (clrS (J 89) a 0)) := fun J => by rw [show clrS (J 89) a 0 = J 89 from funext fun j => if_neg (by omega), kset_self]
                 rw [e2]
                 have h := m_sheet_l (E := E) (d := d) a ha b n (J := kset (kset I 87 (upd (I 87) a b)) 88 (upd (kset I 87 (upd (I 87) a b) 88) a n)) (f := kset (kset I 87 (upd (I 87) a b)) 88 (upd (kset I 87 (upd (I 87) a b) 88) a n) 89) 40 0 (by omega)
                 refine Eq.mp ?_ h
                 simp only [shM, if_neg h81]
                 rfl)
        · refine al0 (n := 62) dX9_sheet_61 rfl ?_
          refine cX9_45 (n := 64) dX9_sheet_62 rfl rfl ?_
          refine qiX9_46 (n := 67) dX9_sheet_64 rfl rfl (Nat.le_of_ble_eq_true rfl) (by omega) rfl (m_errs 1 _ (by decide) rfl) (Nat.le_refl _) (Nat.le_refl _) ?_
          refine k_ireturn (ty := .int) dX9_sheet_67 rfl rfl (Nat.le_refl _) (Nat.le_refl _) ?_
          first
            | exact absurd h37 h52
            | exact absurd h52 h37
            | (refine ⟨?_, ?_⟩ <;> simp only [s_sheet, if_pos h4, if_pos hb, if_pos (show ¬ b = 0 ∧ ¬ 0 ≤ n from ⟨h37, h41⟩)])
            | (refine ⟨?_, ?_⟩ <;> simp only [s_sheet, if_pos h4, if_pos hb, if_neg (fun h : ¬ b = 0 ∧ ¬ 0 ≤ n => h.2 h41), if_pos (show ¬ b = 0 ∧ ¬ n ≤ 40 from ⟨h52, h58⟩)])
    · refine il3 (n := 41) dX9_sheet_40 rfl ?_
      refine k_if_ge (t := 51) (n := 44) dX9_sheet_41 (by decide) rfl (fun h41 => ?_) (fun h41 => ?_)
      · refine il2 (n := 52) dX9_sheet_51 rfl ?_
        refine k_if_eq (t := 68) (n := 55) dX9_sheet_52 (by decide) rfl (fun h52 => ?_) (fun h52 => ?_)
        · refine al0 (n := 69) dX9_sheet_68 rfl ?_
          refine gX9_25 (n := 72) dX9_sheet_69 rfl rfl rfl rfl ?_
          refine il1 (n := 73) dX9_sheet_72 rfl ?_
          refine il2 (n := 74) dX9_sheet_73 rfl ?_
          refine j_iast (j := a) (n := 75) dX9_sheet_74 rfl rfl rfl (by omega) (by decide) ?_
          refine al0 (n := 76) dX9_sheet_75 rfl ?_
          refine gX9_28 (n := 79) dX9_sheet_76 rfl rfl rfl rfl ?_
          refine il1 (n := 80) dX9_sheet_79 rfl ?_
          refine il2 (n := 81) dX9_sheet_80 rfl ?_
          refine k_if_ne (t := 88) (n := 84) dX9_sheet_81 (by decide) rfl (fun h81 => ?_) (fun h81 => ?_)
          · refine il3 (n := 89) dX9_sheet_88 rfl ?_
            refine j_iast (j := a) (n := 90) dX9_sheet_89 rfl rfl rfl (by omega) (by decide) ?_
            refine k_iconst (a := 0) (n := 91) dX9_sheet_90 rfl rfl ?_
            refine is4 (n := 93) dX9_sheet_91 rfl trivial ?_
            first
              | exact absurd h37 h52
              | exact absurd h52 h37
              | exact absurd h81 h37
              | exact absurd h37 h81
              | (have e1 : s_sheet I (nI a) b n = (1, shM I a b n) := by
                   first
                     | simp only [s_sheet, if_pos h4, if_pos hb, if_neg (fun h : ¬ b = 0 ∧ ¬ 0 ≤ n => h.1 h37), if_neg (fun h : ¬ b = 0 ∧ ¬ n ≤ 40 => h.1 h37), kcl (show a < 1000 by omega)]
                     | simp only [s_sheet, if_pos h4, if_pos hb, if_neg (fun h : ¬ b = 0 ∧ ¬ 0 ≤ n => h.2 h41), if_neg (fun h : ¬ b = 0 ∧ ¬ n ≤ 40 => h.2 h58), kcl (show a < 1000 by omega)]
                 rw [e1]
                 have e2 : ∀ J : Nat → Nat → Int32, kJ J = kJ (kset J 89 (clrS (J 89) a 0)) := fun J => by rw [show clrS (J 89) a 0 = J 89 from funext fun j => if_neg (by omega), kset_self]
                 rw [e2]
                 have h := m_sheet_l (E := E) (d := d) a ha b n (J := kset (kset I 87 (upd (I 87) a b)) 88 (upd (kset I 87 (upd (I 87) a b) 88) a (if b = 0 then 0 else n))) (f := kset (kset I 87 (upd (I 87) a b)) 88 (upd (kset I 87 (upd (I 87) a b) 88) a (if b = 0 then 0 else n)) 89) 40 0 (by omega)
                 simp only [if_pos h81] at h
                 refine Eq.mp ?_ h
                 simp only [shM, if_pos h81]
                 rfl)
              | (have e1 : s_sheet I (nI a) b n = (1, shM I a b n) := by
                   simp only [s_sheet, if_pos h4, if_pos hb, if_neg (fun h : ¬ b = 0 ∧ ¬ 0 ≤ n => h.2 h41), if_neg (fun h : ¬ b = 0 ∧ ¬ n ≤ 40 => h.2 h58), kcl (show a < 1000 by omega)]
                 rw [e1]
                 have e2 : ∀ J : Nat → Nat → Int32, kJ J = kJ (kset J 89 (clrS (J 89) a 0)) := fun J => by rw [show clrS (J 89) a 0 = J 89 from funext fun j => if_neg (by omega), kset_self]
                 rw [e2]
                 have h := m_sheet_l (E := E) (d := d) a ha b n (J := kset (kset I 87 (upd (I 87) a b)) 88 (upd (kset I 87 (upd (I 87) a b) 88) a n)) (f := kset (kset I 87 (upd (I 87) a b)) 88 (upd (kset I 87 (upd (I 87) a b) 88) a n) 89) 40 0 (by omega)
                 refine Eq.mp ?_ h
                 simp only [shM, if_neg h81]
                 rfl)
          · refine k_iconst (a := 0) (n := 85) dX9_sheet_84 rfl rfl ?_
            refine k_goto (n := 89) dX9_sheet_85 (by decide) ?_
            refine j_iast (j := a) (n := 90) dX9_sheet_89 rfl rfl rfl (by omega) (by decide) ?_
            refine k_iconst (a := 0) (n := 91) dX9_sheet_90 rfl rfl ?_
            refine is4 (n := 93) dX9_sheet_91 rfl trivial ?_
            first
              | exact absurd h37 h52
              | exact absurd h52 h37
              | exact absurd h81 h37
              | exact absurd h37 h81
              | (have e1 : s_sheet I (nI a) b n = (1, shM I a b n) := by
                   first
                     | simp only [s_sheet, if_pos h4, if_pos hb, if_neg (fun h : ¬ b = 0 ∧ ¬ 0 ≤ n => h.1 h37), if_neg (fun h : ¬ b = 0 ∧ ¬ n ≤ 40 => h.1 h37), kcl (show a < 1000 by omega)]
                     | simp only [s_sheet, if_pos h4, if_pos hb, if_neg (fun h : ¬ b = 0 ∧ ¬ 0 ≤ n => h.2 h41), if_neg (fun h : ¬ b = 0 ∧ ¬ n ≤ 40 => h.2 h58), kcl (show a < 1000 by omega)]
                 rw [e1]
                 have e2 : ∀ J : Nat → Nat → Int32, kJ J = kJ (kset J 89 (clrS (J 89) a 0)) := fun J => by rw [show clrS (J 89) a 0 = J 89 from funext fun j => if_neg (by omega), kset_self]
                 rw [e2]
                 have h := m_sheet_l (E := E) (d := d) a ha b n (J := kset (kset I 87 (upd (I 87) a b)) 88 (upd (kset I 87 (upd (I 87) a b) 88) a (if b = 0 then 0 else n))) (f := kset (kset I 87 (upd (I 87) a b)) 88 (upd (kset I 87 (upd (I 87) a b) 88) a (if b = 0 then 0 else n)) 89) 40 0 (by omega)
                 simp only [if_pos h81] at h
                 refine Eq.mp ?_ h
                 simp only [shM, if_pos h81]
                 rfl)
              | (have e1 : s_sheet I (nI a) b n = (1, shM I a b n) := by
                   simp only [s_sheet, if_pos h4, if_pos hb, if_neg (fun h : ¬ b = 0 ∧ ¬ 0 ≤ n => h.2 h41), if_neg (fun h : ¬ b = 0 ∧ ¬ n ≤ 40 => h.2 h58), kcl (show a < 1000 by omega)]
                 rw [e1]
                 have e2 : ∀ J : Nat → Nat → Int32, kJ J = kJ (kset J 89 (clrS (J 89) a 0)) := fun J => by rw [show clrS (J 89) a 0 = J 89 from funext fun j => if_neg (by omega), kset_self]
                 rw [e2]
                 have h := m_sheet_l (E := E) (d := d) a ha b n (J := kset (kset I 87 (upd (I 87) a b)) 88 (upd (kset I 87 (upd (I 87) a b) 88) a n)) (f := kset (kset I 87 (upd (I 87) a b)) 88 (upd (kset I 87 (upd (I 87) a b) 88) a n) 89) 40 0 (by omega)
                 refine Eq.mp ?_ h
                 simp only [shM, if_neg h81]
                 rfl)
        · refine il3 (n := 56) dX9_sheet_55 rfl ?_
          refine k_bipush (a := 40) (n := 58) dX9_sheet_56 rfl rfl ?_
          refine k_icmp_le (t := 68) (n := 61) dX9_sheet_58 (by decide) rfl (fun h58 => ?_) (fun h58 => ?_)
          · refine al0 (n := 69) dX9_sheet_68 rfl ?_
            refine gX9_25 (n := 72) dX9_sheet_69 rfl rfl rfl rfl ?_
            refine il1 (n := 73) dX9_sheet_72 rfl ?_
            refine il2 (n := 74) dX9_sheet_73 rfl ?_
            refine j_iast (j := a) (n := 75) dX9_sheet_74 rfl rfl rfl (by omega) (by decide) ?_
            refine al0 (n := 76) dX9_sheet_75 rfl ?_
            refine gX9_28 (n := 79) dX9_sheet_76 rfl rfl rfl rfl ?_
            refine il1 (n := 80) dX9_sheet_79 rfl ?_
            refine il2 (n := 81) dX9_sheet_80 rfl ?_
            refine k_if_ne (t := 88) (n := 84) dX9_sheet_81 (by decide) rfl (fun h81 => ?_) (fun h81 => ?_)
            · refine il3 (n := 89) dX9_sheet_88 rfl ?_
              refine j_iast (j := a) (n := 90) dX9_sheet_89 rfl rfl rfl (by omega) (by decide) ?_
              refine k_iconst (a := 0) (n := 91) dX9_sheet_90 rfl rfl ?_
              refine is4 (n := 93) dX9_sheet_91 rfl trivial ?_
              first
                | exact absurd h37 h52
                | exact absurd h52 h37
                | exact absurd h81 h37
                | exact absurd h37 h81
                | (have e1 : s_sheet I (nI a) b n = (1, shM I a b n) := by
                     first
                       | simp only [s_sheet, if_pos h4, if_pos hb, if_neg (fun h : ¬ b = 0 ∧ ¬ 0 ≤ n => h.1 h37), if_neg (fun h : ¬ b = 0 ∧ ¬ n ≤ 40 => h.1 h37), kcl (show a < 1000 by omega)]
                       | simp only [s_sheet, if_pos h4, if_pos hb, if_neg (fun h : ¬ b = 0 ∧ ¬ 0 ≤ n => h.2 h41), if_neg (fun h : ¬ b = 0 ∧ ¬ n ≤ 40 => h.2 h58), kcl (show a < 1000 by omega)]
                   rw [e1]
                   have e2 : ∀ J : Nat → Nat → Int32, kJ J = kJ (kset J 89 (clrS (J 89) a 0)) := fun J => by rw [show clrS (J 89) a 0 = J 89 from funext fun j => if_neg (by omega), kset_self]
                   rw [e2]
                   have h := m_sheet_l (E := E) (d := d) a ha b n (J := kset (kset I 87 (upd (I 87) a b)) 88 (upd (kset I 87 (upd (I 87) a b) 88) a (if b = 0 then 0 else n))) (f := kset (kset I 87 (upd (I 87) a b)) 88 (upd (kset I 87 (upd (I 87) a b) 88) a (if b = 0 then 0 else n)) 89) 40 0 (by omega)
                   simp only [if_pos h81] at h
                   refine Eq.mp ?_ h
                   simp only [shM, if_pos h81]
                   rfl)
                | (have e1 : s_sheet I (nI a) b n = (1, shM I a b n) := by
                     simp only [s_sheet, if_pos h4, if_pos hb, if_neg (fun h : ¬ b = 0 ∧ ¬ 0 ≤ n => h.2 h41), if_neg (fun h : ¬ b = 0 ∧ ¬ n ≤ 40 => h.2 h58), kcl (show a < 1000 by omega)]
                   rw [e1]
                   have e2 : ∀ J : Nat → Nat → Int32, kJ J = kJ (kset J 89 (clrS (J 89) a 0)) := fun J => by rw [show clrS (J 89) a 0 = J 89 from funext fun j => if_neg (by omega), kset_self]
                   rw [e2]
                   have h := m_sheet_l (E := E) (d := d) a ha b n (J := kset (kset I 87 (upd (I 87) a b)) 88 (upd (kset I 87 (upd (I 87) a b) 88) a n)) (f := kset (kset I 87 (upd (I 87) a b)) 88 (upd (kset I 87 (upd (I 87) a b) 88) a n) 89) 40 0 (by omega)
                   refine Eq.mp ?_ h
                   simp only [shM, if_neg h81]
                   rfl)
            · refine k_iconst (a := 0) (n := 85) dX9_sheet_84 rfl rfl ?_
              refine k_goto (n := 89) dX9_sheet_85 (by decide) ?_
              refine j_iast (j := a) (n := 90) dX9_sheet_89 rfl rfl rfl (by omega) (by decide) ?_
              refine k_iconst (a := 0) (n := 91) dX9_sheet_90 rfl rfl ?_
              refine is4 (n := 93) dX9_sheet_91 rfl trivial ?_
              first
                | exact absurd h37 h52
                | exact absurd h52 h37
                | exact absurd h81 h37
                | exact absurd h37 h81
                | (have e1 : s_sheet I (nI a) b n = (1, shM I a b n) := by
                     first
                       | simp only [s_sheet, if_pos h4, if_pos hb, if_neg (fun h : ¬ b = 0 ∧ ¬ 0 ≤ n => h.1 h37), if_neg (fun h : ¬ b = 0 ∧ ¬ n ≤ 40 => h.1 h37), kcl (show a < 1000 by omega)]
                       | simp only [s_sheet, if_pos h4, if_pos hb, if_neg (fun h : ¬ b = 0 ∧ ¬ 0 ≤ n => h.2 h41), if_neg (fun h : ¬ b = 0 ∧ ¬ n ≤ 40 => h.2 h58), kcl (show a < 1000 by omega)]
                   rw [e1]
                   have e2 : ∀ J : Nat → Nat → Int32, kJ J = kJ (kset J 89 (clrS (J 89) a 0)) := fun J => by rw [show clrS (J 89) a 0 = J 89 from funext fun j => if_neg (by omega), kset_self]
                   rw [e2]
                   have h := m_sheet_l (E := E) (d := d) a ha b n (J := kset (kset I 87 (upd (I 87) a b)) 88 (upd (kset I 87 (upd (I 87) a b) 88) a (if b = 0 then 0 else n))) (f := kset (kset I 87 (upd (I 87) a b)) 88 (upd (kset I 87 (upd (I 87) a b) 88) a (if b = 0 then 0 else n)) 89) 40 0 (by omega)
                   simp only [if_pos h81] at h
                   refine Eq.mp ?_ h
                   simp only [shM, if_pos h81]
                   rfl)
                | (have e1 : s_sheet I (nI a) b n = (1, shM I a b n) := by
                     simp only [s_sheet, if_pos h4, if_pos hb, if_neg (fun h : ¬ b = 0 ∧ ¬ 0 ≤ n => h.2 h41), if_neg (fun h : ¬ b = 0 ∧ ¬ n ≤ 40 => h.2 h58), kcl (show a < 1000 by omega)]
                   rw [e1]
                   have e2 : ∀ J : Nat → Nat → Int32, kJ J = kJ (kset J 89 (clrS (J 89) a 0)) := fun J => by rw [show clrS (J 89) a 0 = J 89 from funext fun j => if_neg (by omega), kset_self]
                   rw [e2]
                   have h := m_sheet_l (E := E) (d := d) a ha b n (J := kset (kset I 87 (upd (I 87) a b)) 88 (upd (kset I 87 (upd (I 87) a b) 88) a n)) (f := kset (kset I 87 (upd (I 87) a b)) 88 (upd (kset I 87 (upd (I 87) a b) 88) a n) 89) 40 0 (by omega)
                   refine Eq.mp ?_ h
                   simp only [shM, if_neg h81]
                   rfl)
          · refine al0 (n := 62) dX9_sheet_61 rfl ?_
            refine cX9_45 (n := 64) dX9_sheet_62 rfl rfl ?_
            refine qiX9_46 (n := 67) dX9_sheet_64 rfl rfl (Nat.le_of_ble_eq_true rfl) (by omega) rfl (m_errs 1 _ (by decide) rfl) (Nat.le_refl _) (Nat.le_refl _) ?_
            refine k_ireturn (ty := .int) dX9_sheet_67 rfl rfl (Nat.le_refl _) (Nat.le_refl _) ?_
            first
              | exact absurd h37 h52
              | exact absurd h52 h37
              | (refine ⟨?_, ?_⟩ <;> simp only [s_sheet, if_pos h4, if_pos hb, if_pos (show ¬ b = 0 ∧ ¬ 0 ≤ n from ⟨h37, h41⟩)])
              | (refine ⟨?_, ?_⟩ <;> simp only [s_sheet, if_pos h4, if_pos hb, if_neg (fun h : ¬ b = 0 ∧ ¬ 0 ≤ n => h.2 h41), if_pos (show ¬ b = 0 ∧ ¬ n ≤ 40 from ⟨h52, h58⟩)])
      · refine al0 (n := 45) dX9_sheet_44 rfl ?_
        refine cX9_50 (n := 47) dX9_sheet_45 rfl rfl ?_
        refine qiX9_46 (n := 50) dX9_sheet_47 rfl rfl (Nat.le_of_ble_eq_true rfl) (by omega) rfl (m_errs 3 _ (by decide) rfl) (Nat.le_refl _) (Nat.le_refl _) ?_
        refine k_ireturn (ty := .int) dX9_sheet_50 rfl rfl (Nat.le_refl _) (Nat.le_refl _) ?_
        first
          | exact absurd h37 h52
          | exact absurd h52 h37
          | (refine ⟨?_, ?_⟩ <;> simp only [s_sheet, if_pos h4, if_pos hb, if_pos (show ¬ b = 0 ∧ ¬ 0 ≤ n from ⟨h37, h41⟩)])
          | (refine ⟨?_, ?_⟩ <;> simp only [s_sheet, if_pos h4, if_pos hb, if_neg (fun h : ¬ b = 0 ∧ ¬ 0 ≤ n => h.2 h41), if_pos (show ¬ b = 0 ∧ ¬ n ≤ 40 from ⟨h52, h58⟩)])
  refine Ct.of (L := [some (.ref 81), some (.int v), some (.int b), some (.int n), none]) rfl rfl (Nat.le_of_ble_eq_true rfl) ?_
  refine il1 (n := 1) dX9_sheet_0 rfl ?_
  refine qiX9_206 (n := 4) dX9_sheet_1 rfl rfl (Nat.le_of_ble_eq_true rfl) (by omega) (m_isSheet (by omega) _) (Nat.le_refl _) (Nat.le_refl _) ?_
  refine k_ifb_eq (t := 29) (n := 7) dX9_sheet_4 (by decide) rfl (fun h4 => ?_) (fun h4 => ?_)
  · refine al0 (n := 30) dX9_sheet_29 rfl ?_
    refine cX9_45 (n := 32) dX9_sheet_30 rfl rfl ?_
    refine qiX9_46 (n := 35) dX9_sheet_32 rfl rfl (Nat.le_of_ble_eq_true rfl) (by omega) rfl (m_errs 1 _ (by decide) rfl) (Nat.le_refl _) (Nat.le_refl _) ?_
    refine k_ireturn (ty := .int) dX9_sheet_35 rfl rfl (Nat.le_refl _) (Nat.le_refl _) ?_
    first
      | (refine ⟨?_, ?_⟩ <;> simp only [s_sheet, if_pos h4, if_neg (fun h : b = 0 ∨ b = 8 ∨ b = 16 ∨ b = 32 => h.elim h8 (fun h => h.elim h14 (fun h => h.elim h20 h26)))])
      | (refine ⟨?_, ?_⟩ <;> simp only [s_sheet, if_neg h4])
  · obtain ⟨a, ha0, ha, rfl⟩ := kbt (a := 0) (b := 3) h4 (by decide) (by decide)
    refine il2 (n := 8) dX9_sheet_7 rfl ?_
    refine k_if_eq (t := 36) (n := 11) dX9_sheet_8 (by decide) rfl (fun h8 => ?_) (fun h8 => ?_)
    · first | exact key a ha h4 (Or.inl h8) | exact key a ha h4 (Or.inr (Or.inl h14)) | exact key a ha h4 (Or.inr (Or.inr (Or.inl h20))) | exact key a ha h4 (Or.inr (Or.inr (Or.inr h26)))
    · refine il2 (n := 12) dX9_sheet_11 rfl ?_
      refine k_bipush (a := 8) (n := 14) dX9_sheet_12 rfl rfl ?_
      refine k_icmp_eq (t := 36) (n := 17) dX9_sheet_14 (by decide) rfl (fun h14 => ?_) (fun h14 => ?_)
      · first | exact key a ha h4 (Or.inl h8) | exact key a ha h4 (Or.inr (Or.inl h14)) | exact key a ha h4 (Or.inr (Or.inr (Or.inl h20))) | exact key a ha h4 (Or.inr (Or.inr (Or.inr h26)))
      · refine il2 (n := 18) dX9_sheet_17 rfl ?_
        refine k_bipush (a := 16) (n := 20) dX9_sheet_18 rfl rfl ?_
        refine k_icmp_eq (t := 36) (n := 23) dX9_sheet_20 (by decide) rfl (fun h20 => ?_) (fun h20 => ?_)
        · first | exact key a ha h4 (Or.inl h8) | exact key a ha h4 (Or.inr (Or.inl h14)) | exact key a ha h4 (Or.inr (Or.inr (Or.inl h20))) | exact key a ha h4 (Or.inr (Or.inr (Or.inr h26)))
        · refine il2 (n := 24) dX9_sheet_23 rfl ?_
          refine k_bipush (a := 32) (n := 26) dX9_sheet_24 rfl rfl ?_
          refine k_icmp_eq (t := 36) (n := 29) dX9_sheet_26 (by decide) rfl (fun h26 => ?_) (fun h26 => ?_)
          · first | exact key a ha h4 (Or.inl h8) | exact key a ha h4 (Or.inr (Or.inl h14)) | exact key a ha h4 (Or.inr (Or.inr (Or.inl h20))) | exact key a ha h4 (Or.inr (Or.inr (Or.inr h26)))
          · refine al0 (n := 30) dX9_sheet_29 rfl ?_
            refine cX9_45 (n := 32) dX9_sheet_30 rfl rfl ?_
            refine qiX9_46 (n := 35) dX9_sheet_32 rfl rfl (Nat.le_of_ble_eq_true rfl) (by omega) rfl (m_errs 1 _ (by decide) rfl) (Nat.le_refl _) (Nat.le_refl _) ?_
            refine k_ireturn (ty := .int) dX9_sheet_35 rfl rfl (Nat.le_refl _) (Nat.le_refl _) ?_
            first
              | (refine ⟨?_, ?_⟩ <;> simp only [s_sheet, if_pos h4, if_neg (fun h : b = 0 ∨ b = 8 ∨ b = 16 ∨ b = 32 => h.elim h8 (fun h => h.elim h14 (fun h => h.elim h20 h26)))])
              | (refine ⟨?_, ?_⟩ <;> simp only [s_sheet, if_neg h4])
def nrwF (b v : Int32) : Int32 := if b = 8 then v.toInt8.toInt32 else if b = 16 then v.toInt16.toInt32 else v
/-- what always holds of the sheets -/
def SI (I : Nat → Nat → Int32) : Prop := ∀ a, a < 4 → ∃ c, I 88 a = nI c ∧ c ≤ 40
def s_put (I : Nat → Nat → Int32) (v i x : Int32) : Int32 × (Nat → Nat → Int32) :=
  if 0 ≤ v ∧ v ≤ 3 then (if I 87 v.toNatClampNeg = 0 then (-1000000002, ker I 2) else if 0 ≤ i ∧ i ≤ I 88 v.toNatClampNeg - 1 then (1, kset I 89 (upd (I 89) (40 * v.toNatClampNeg + i.toNatClampNeg) (nrwF (I 87 v.toNatClampNeg) x))) else (-1000000001, ker I 1)) else (-1000000001, ker I 1)
set_option maxHeartbeats 2000000 in
set_option maxRecDepth 20000 in
theorem m_put (hd : 2 ≤ d) (hS : SI I) (v i x : Int32) : Ct E d mX9_put 0 0 [.ref 81, .int v, .int i, .int x] (kJ I) (kR (s_put I v i x).1 (s_put I v i x).2) := by
  refine Ct.of (L := [some (.ref 81), some (.int v), some (.int i), some (.int x)]) rfl rfl (Nat.le_of_ble_eq_true rfl) ?_
  refine il1 (n := 1) dX9_put_0 rfl ?_
  refine qiX9_206 (n := 4) dX9_put_1 rfl rfl (Nat.le_of_ble_eq_true rfl) (by omega) (m_isSheet (by omega) _) (Nat.le_refl _) (Nat.le_refl _) ?_
  refine k_ifb_ne (t := 14) (n := 7) dX9_put_4 (by decide) rfl (fun h4 => ?_) (fun h4 => ?_)
  · obtain ⟨a, ha0, ha, rfl⟩ := kbt (a := 0) (b := 3) h4 (by decide) (by decide)
    obtain ⟨c, hc, h40⟩ := hS a (by omega)
    refine al0 (n := 15) dX9_put_14 rfl ?_
    refine gX9_25 (n := 18) dX9_put_15 rfl rfl rfl rfl ?_
    refine il1 (n := 19) dX9_put_18 rfl ?_
    refine j_iald (j := a) (n := 20) dX9_put_19 rfl rfl rfl (by omega) (by decide) ?_
    refine k_if_ne (t := 30) (n := 23) dX9_put_20 (by decide) rfl (fun h20 => ?_) (fun h20 => ?_)
    · refine il2 (n := 31) dX9_put_30 rfl ?_
      refine k_iconst (a := 0) (n := 32) dX9_put_31 rfl rfl ?_
      refine al0 (n := 33) dX9_put_32 rfl ?_
      refine gX9_28 (n := 36) dX9_put_33 rfl rfl rfl rfl ?_
      refine il1 (n := 37) dX9_put_36 rfl ?_
      refine j_iald (j := a) (n := 38) dX9_put_37 rfl rfl rfl (by omega) (by decide) ?_
      refine k_iconst (a := 1) (n := 39) dX9_put_38 rfl rfl ?_
      refine k_isub (n := 40) dX9_put_39 rfl ?_
      refine qiX9_41 (n := 43) dX9_put_40 rfl rfl (Nat.le_of_ble_eq_true rfl) (by omega) (m_in _ _ _) (Nat.le_refl _) (Nat.le_refl _) ?_
      refine k_ifb_ne (t := 53) (n := 46) dX9_put_43 (by decide) rfl (fun h43 => ?_) (fun h43 => ?_)
      · obtain ⟨j, hj, rfl⟩ := kix (show 0 ≤ i ∧ i ≤ nI c - 1 from hc ▸ h43) (by omega)
        refine al0 (n := 54) dX9_put_53 rfl ?_
        refine gX9_31 (n := 57) dX9_put_54 rfl rfl rfl rfl ?_
        refine k_bipush (a := 40) (n := 59) dX9_put_57 rfl rfl ?_
        refine il1 (n := 60) dX9_put_59 rfl ?_
        refine k_imul (n := 61) dX9_put_60 rfl ?_
        refine il2 (n := 62) dX9_put_61 rfl ?_
        refine k_iadd (n := 63) dX9_put_62 rfl ?_
        refine al0 (n := 64) dX9_put_63 rfl ?_
        refine gX9_25 (n := 67) dX9_put_64 rfl rfl rfl rfl ?_
        refine il1 (n := 68) dX9_put_67 rfl ?_
        refine j_iald (j := a) (n := 69) dX9_put_68 rfl rfl rfl (by omega) (by decide) ?_
        refine il3 (n := 70) dX9_put_69 rfl ?_
        refine qiX9_239 (n := 73) dX9_put_70 rfl rfl (Nat.le_of_ble_eq_true rfl) (by omega) (m_narrow _ _) (Nat.le_refl _) (Nat.le_refl _) ?_
        refine j_iast (j := 40 * a + j) (n := 74) dX9_put_73 rfl rfl (by show nI 40 * nI a + nI j = _; rw [pk_mul, nI_add]) (by omega) (by decide) ?_
        refine k_iconst (a := 1) (n := 75) dX9_put_74 rfl rfl ?_
        refine k_ireturn (ty := .int) dX9_put_75 rfl rfl (Nat.le_refl _) (Nat.le_refl _) ?_
        (refine ⟨?_, ?_⟩ <;> simp only [s_put, if_pos h4, if_neg h20, if_pos h43, kcl (show j < 1000 by omega), nrwF, kcl (show a < 1000 by omega)])
      · refine al0 (n := 47) dX9_put_46 rfl ?_
        refine cX9_45 (n := 49) dX9_put_47 rfl rfl ?_
        refine qiX9_46 (n := 52) dX9_put_49 rfl rfl (Nat.le_of_ble_eq_true rfl) (by omega) rfl (m_errs 1 _ (by decide) rfl) (Nat.le_refl _) (Nat.le_refl _) ?_
        refine k_ireturn (ty := .int) dX9_put_52 rfl rfl (Nat.le_refl _) (Nat.le_refl _) ?_
        (refine ⟨?_, ?_⟩ <;> simp only [s_put, if_pos h4, if_neg h20, if_neg h43, nrwF, kcl (show a < 1000 by omega)])
    · refine al0 (n := 24) dX9_put_23 rfl ?_
      refine cX9_199 (n := 26) dX9_put_24 rfl rfl ?_
      refine qiX9_46 (n := 29) dX9_put_26 rfl rfl (Nat.le_of_ble_eq_true rfl) (by omega) rfl (m_errs 2 _ (by decide) rfl) (Nat.le_refl _) (Nat.le_refl _) ?_
      refine k_ireturn (ty := .int) dX9_put_29 rfl rfl (Nat.le_refl _) (Nat.le_refl _) ?_
      (refine ⟨?_, ?_⟩ <;> simp only [s_put, if_pos h4, if_pos h20, nrwF, kcl (show a < 1000 by omega)])
  · refine al0 (n := 8) dX9_put_7 rfl ?_
    refine cX9_45 (n := 10) dX9_put_8 rfl rfl ?_
    refine qiX9_46 (n := 13) dX9_put_10 rfl rfl (Nat.le_of_ble_eq_true rfl) (by omega) rfl (m_errs 1 _ (by decide) rfl) (Nat.le_refl _) (Nat.le_refl _) ?_
    refine k_ireturn (ty := .int) dX9_put_13 rfl rfl (Nat.le_refl _) (Nat.le_refl _) ?_
    (refine ⟨?_, ?_⟩ <;> simp only [s_put, if_neg h4, nrwF])
end M11

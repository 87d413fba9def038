section C12
variable {E : kE} {d c t : Nat} {I J : Nat → Nat → Int32} {r : Nat → Int32}
def zc0 (f : Nat → Int32) (i : Nat) : Nat → Int32 := fun z => if z < i then 0 else f z
theorem zc0_0 (f : Nat → Int32) : zc0 f 0 = f := by funext z; exact if_neg (by omega)
theorem zc0_s (f : Nat → Int32) (i : Nat) : upd (zc0 f i) i 0 = zc0 f (i + 1) := by
  funext z
  unfold zc0
  by_cases h : z = i
  · subst h; rw [pk_us, if_pos (by omega)]
  · rw [pk_un h]
    by_cases h2 : z < i
    · rw [if_pos h2, if_pos (by omega)]
    · rw [if_neg h2, if_neg (by omega)]
def zsh (I : Nat → Nat → Int32) (a : Nat) (b n : Int32) : Nat → Nat → Int32 := kset (kset I (73 + 2 * a) (upd (upd (I (73 + 2 * a)) 1 b) 2 n)) (74 + 2 * a) (zc0 (I (74 + 2 * a)) 40)
def z_sheet (I : Nat → Nat → Int32) (v b n : Int32) : Int32 × (Nat → Nat → Int32) :=
  if 0 ≤ v ∧ v ≤ 3 then (if b = 0 ∨ b = 8 ∨ b = 16 ∨ b = 32 then (if ¬ b = 0 ∧ ¬ 0 ≤ n then (-1000000003, kerC I 3) else if ¬ b = 0 ∧ ¬ n ≤ 40 then (-1000000001, kerC I 1) else (1, zsh I v.toNatClampNeg b (if b = 0 then 0 else n))) else (-1000000001, kerC I 1)) else (-1000000001, kerC I 1)
set_option maxHeartbeats 2000000 in
set_option maxRecDepth 20000 in
theorem c_clr_l {a : Nat} (ha : a < 4) (n1 n2 : Int32) {f : Nat → Int32} (m : Nat) : ∀ (i : Nat), i + m = 40 → Wd E d mX5_clearTo 0 0 0 0 12 [some (.ref (73 + 2 * a)), some (.int n1), some (.int n2), some (.int (nI i))] [] (kJ (kset J (74 + 2 * a) (zc0 f i))) (kRv (kset J (74 + 2 * a) (zc0 f 40))) := by
  induction m with
  | zero =>
    intro i hi
    have e : i = 40 := by omega
    subst e
    refine il3 (n := 13) dX5_clearTo_12 rfl ?_
    refine k_bipush (a := 40) (n := 15) dX5_clearTo_13 rfl rfl ?_
    refine k_icmp_ge (t := 31) (n := 18) dX5_clearTo_15 (by decide) rfl (fun h15 => ?_) (fun h15 => ?_)
    · refine k_return dX5_clearTo_31 rfl (Nat.le_refl _) (Nat.le_refl _) ?_
      exact ⟨rfl, rfl⟩
    · exact absurd (Int32.le_refl _) h15
  | succ m ih =>
    intro i hi
    refine il3 (n := 13) dX5_clearTo_12 rfl ?_
    refine k_bipush (a := 40) (n := 15) dX5_clearTo_13 rfl rfl ?_
    refine k_icmp_ge (t := 31) (n := 18) dX5_clearTo_15 (by decide) rfl (fun h15 => ?_) (fun h15 => ?_)
    · exact absurd h15 (nI_ge (show i < 40 by omega) (by decide))
    · refine al0 (n := 19) dX5_clearTo_18 rfl ?_
      refine gX5_9 (n := 22) dX5_clearTo_19 rfl rfl (hSs ha) (hPs ha) ?_
      refine il3 (n := 23) dX5_clearTo_22 rfl ?_
      refine k_iconst (a := 0) (n := 24) dX5_clearTo_23 rfl rfl ?_
      refine js_iast (j := i) (n := 25) dX5_clearTo_24 rfl (hSn ha) rfl (by omega) (by decide) ?_
      rw [zc0_s]
      refine ii3 (n := 28) dX5_clearTo_25 rfl (ki1 _) trivial ?_
      rw [nI_1]
      refine k_goto (n := 12) dX5_clearTo_28 (by decide) ?_
      exact ih (i + 1) (by omega)
set_option maxHeartbeats 2000000 in
set_option maxRecDepth 20000 in
theorem c_clr {a : Nat} (ha : a < 4) (b n : Int32) : Ct E d mX5_clearTo 0 0 [.ref (73 + 2 * a), .int b, .int n] (kJ I) (kRv (zsh I a b n)) := by
  refine Ct.of (L := [some (.ref (73 + 2 * a)), some (.int b), some (.int n), none]) rfl rfl (Nat.le_of_ble_eq_true rfl) ?_
  refine al0 (n := 1) dX5_clearTo_0 rfl ?_
  refine il1 (n := 2) dX5_clearTo_1 rfl ?_
  refine pX5_15 (n := 5) dX5_clearTo_2 rfl rfl (hSs ha) ?_
  refine k_gen (fun I1 e1 => ?_)
  refine al0 (n := 6) dX5_clearTo_5 rfl ?_
  refine il2 (n := 7) dX5_clearTo_6 rfl ?_
  refine pX5_19 (n := 10) dX5_clearTo_7 rfl rfl (hSs ha) ?_
  refine k_gen (fun I2 e2 => ?_)
  refine k_iconst (a := 0) (n := 11) dX5_clearTo_10 rfl rfl ?_
  refine is3 (n := 12) dX5_clearTo_11 rfl trivial ?_
  subst e1 e2
  have h := c_clr_l (E := E) (d := d) (J := kset I (73 + 2 * a) (upd (upd (I (73 + 2 * a)) 1 b) 2 n)) (f := I (74 + 2 * a)) ha b n 40 0 (by omega)
  rw [zc0_0, show kset (kset I (73 + 2 * a) (upd (upd (I (73 + 2 * a)) 1 b) 2 n)) (74 + 2 * a) (I (74 + 2 * a)) = kset I (73 + 2 * a) (upd (upd (I (73 + 2 * a)) 1 b) 2 n) from by rw [kset_comm _ _ _ (by omega), kset_self]] at h
  rw [kset_same, kset_kset]
  exact h
set_option maxHeartbeats 2000000 in
set_option maxRecDepth 20000 in
theorem c_sheet (hd : 2 ≤ d) (v b n : Int32) : Ct E d mX8_sheet 0 0 [.ref 0, .int v, .int b, .int n] (kJ I) (kR (z_sheet I v b n).1 (z_sheet I v b n).2) := by
  have key : Wd E d mX8_sheet 0 0 0 0 27 [some (.ref 0), some (.int v), some (.int b), some (.int n), none] [.int (kb (b = 0 ∨ b = 8 ∨ b = 16 ∨ b = 32))] (kJ I) (kR (z_sheet I v b n).1 (z_sheet I v b n).2) := by
    by_cases hb0 : b = 0
    · refine is4 (n := 29) dX8_sheet_27 rfl trivial ?_
      refine il1 (n := 30) dX8_sheet_29 rfl ?_
      refine qiX8_277 (n := 33) dX8_sheet_30 rfl rfl (Nat.le_of_ble_eq_true rfl) (by omega) (c_isSheet (by omega) _) (Nat.le_refl _) (Nat.le_refl _) ?_
      refine k_ifb_eq (t := 41) (n := 36) dX8_sheet_33 (by decide) rfl (fun h33 => ?_) (fun h33 => ?_)
      · refine al0 (n := 42) dX8_sheet_41 rfl ?_
        refine k_iconst (a := 1) (n := 43) dX8_sheet_42 rfl rfl ?_
        refine qiX8_69 (n := 46) dX8_sheet_43 rfl rfl (Nat.le_of_ble_eq_true rfl) (by omega) rfl (c_refuse1 (by omega)) (Nat.le_refl _) (Nat.le_refl _) ?_
        refine k_ireturn (ty := .int) dX8_sheet_46 rfl rfl (Nat.le_refl _) (Nat.le_refl _) ?_
        exact ⟨by simp only [z_sheet, if_neg h33], by simp only [z_sheet, if_neg h33]⟩
      · obtain ⟨a, -, ha, rfl⟩ := kbt (a := 0) (b := 3) h33 (by decide) (by decide)
        have ha4 : a < 4 := by omega
        refine il4 (n := 38) dX8_sheet_36 rfl ?_
        refine k_ifb_ne (t := 47) (n := 41) dX8_sheet_38 (by decide) rfl (fun h38 => ?_) (fun h38 => ?_)
        · refine il2 (n := 48) dX8_sheet_47 rfl ?_
          refine k_if_eq (t := 61) (n := 51) dX8_sheet_48 (by decide) rfl (fun h48 => ?_) (fun h48 => ?_)
          · refine il2 (n := 62) dX8_sheet_61 rfl ?_
            refine k_if_eq (t := 77) (n := 65) dX8_sheet_62 (by decide) rfl (fun h62 => ?_) (fun h62 => ?_)
            · refine al0 (n := 78) dX8_sheet_77 rfl ?_
              refine gX8_57 (n := 81) dX8_sheet_78 rfl rfl rfl rfl ?_
              refine il1 (n := 82) dX8_sheet_81 rfl ?_
              refine j_aald (j := a) (n := 83) dX8_sheet_82 rfl rfl hOS rfl (by omega) (by decide) (hPS ha4) ?_
              refine il2 (n := 84) dX8_sheet_83 rfl ?_
              refine il2 (n := 85) dX8_sheet_84 rfl ?_
              refine k_if_ne (t := 92) (n := 88) dX8_sheet_85 (by decide) rfl (fun h85 => ?_) (fun h85 => ?_)
              · exact absurd hb0 h85
              · refine k_iconst (a := 0) (n := 89) dX8_sheet_88 rfl rfl ?_
                refine k_goto (n := 93) dX8_sheet_89 (by decide) ?_
                refine qiX8_307 (n := 96) dX8_sheet_93 rfl rfl (Nat.le_of_ble_eq_true rfl) (by omega) (hSs ha4) (c_clr ha4 _ _) (Nat.le_refl _) (Nat.le_refl _) ?_
                refine k_iconst (a := 1) (n := 97) dX8_sheet_96 rfl rfl ?_
                refine k_ireturn (ty := .int) dX8_sheet_97 rfl rfl (Nat.le_refl _) (Nat.le_refl _) ?_
                exact ⟨by simp only [z_sheet, if_pos h33, kcl (show a < 1000 by omega), if_pos h38, if_neg (show ¬ (¬ b = 0 ∧ ¬ 0 ≤ n) from fun z => z.1 hb0), if_neg (show ¬ (¬ b = 0 ∧ ¬ n ≤ 40) from fun z => z.1 hb0), if_pos hb0], by simp only [z_sheet, if_pos h33, kcl (show a < 1000 by omega), if_pos h38, if_neg (show ¬ (¬ b = 0 ∧ ¬ 0 ≤ n) from fun z => z.1 hb0), if_neg (show ¬ (¬ b = 0 ∧ ¬ n ≤ 40) from fun z => z.1 hb0), if_pos hb0]⟩
            · exact absurd hb0 h62
          · exact absurd hb0 h48
        · refine al0 (n := 42) dX8_sheet_41 rfl ?_
          refine k_iconst (a := 1) (n := 43) dX8_sheet_42 rfl rfl ?_
          refine qiX8_69 (n := 46) dX8_sheet_43 rfl rfl (Nat.le_of_ble_eq_true rfl) (by omega) rfl (c_refuse1 (by omega)) (Nat.le_refl _) (Nat.le_refl _) ?_
          refine k_ireturn (ty := .int) dX8_sheet_46 rfl rfl (Nat.le_refl _) (Nat.le_refl _) ?_
          exact ⟨by simp only [z_sheet, if_pos h33, if_neg h38], by simp only [z_sheet, if_pos h33, if_neg h38]⟩
    · refine is4 (n := 29) dX8_sheet_27 rfl trivial ?_
      refine il1 (n := 30) dX8_sheet_29 rfl ?_
      refine qiX8_277 (n := 33) dX8_sheet_30 rfl rfl (Nat.le_of_ble_eq_true rfl) (by omega) (c_isSheet (by omega) _) (Nat.le_refl _) (Nat.le_refl _) ?_
      refine k_ifb_eq (t := 41) (n := 36) dX8_sheet_33 (by decide) rfl (fun h33 => ?_) (fun h33 => ?_)
      · refine al0 (n := 42) dX8_sheet_41 rfl ?_
        refine k_iconst (a := 1) (n := 43) dX8_sheet_42 rfl rfl ?_
        refine qiX8_69 (n := 46) dX8_sheet_43 rfl rfl (Nat.le_of_ble_eq_true rfl) (by omega) rfl (c_refuse1 (by omega)) (Nat.le_refl _) (Nat.le_refl _) ?_
        refine k_ireturn (ty := .int) dX8_sheet_46 rfl rfl (Nat.le_refl _) (Nat.le_refl _) ?_
        exact ⟨by simp only [z_sheet, if_neg h33], by simp only [z_sheet, if_neg h33]⟩
      · obtain ⟨a, -, ha, rfl⟩ := kbt (a := 0) (b := 3) h33 (by decide) (by decide)
        have ha4 : a < 4 := by omega
        refine il4 (n := 38) dX8_sheet_36 rfl ?_
        refine k_ifb_ne (t := 47) (n := 41) dX8_sheet_38 (by decide) rfl (fun h38 => ?_) (fun h38 => ?_)
        · refine il2 (n := 48) dX8_sheet_47 rfl ?_
          refine k_if_eq (t := 61) (n := 51) dX8_sheet_48 (by decide) rfl (fun h48 => ?_) (fun h48 => ?_)
          · exact absurd h48 hb0
          · refine il3 (n := 52) dX8_sheet_51 rfl ?_
            refine k_if_ge (t := 61) (n := 55) dX8_sheet_52 (by decide) rfl (fun h52 => ?_) (fun h52 => ?_)
            · refine il2 (n := 62) dX8_sheet_61 rfl ?_
              refine k_if_eq (t := 77) (n := 65) dX8_sheet_62 (by decide) rfl (fun h62 => ?_) (fun h62 => ?_)
              · exact absurd h62 hb0
              · refine il3 (n := 66) dX8_sheet_65 rfl ?_
                refine k_bipush (a := 40) (n := 68) dX8_sheet_66 rfl rfl ?_
                refine k_icmp_le (t := 77) (n := 71) dX8_sheet_68 (by decide) rfl (fun h68 => ?_) (fun h68 => ?_)
                · refine al0 (n := 78) dX8_sheet_77 rfl ?_
                  refine gX8_57 (n := 81) dX8_sheet_78 rfl rfl rfl rfl ?_
                  refine il1 (n := 82) dX8_sheet_81 rfl ?_
                  refine j_aald (j := a) (n := 83) dX8_sheet_82 rfl rfl hOS rfl (by omega) (by decide) (hPS ha4) ?_
                  refine il2 (n := 84) dX8_sheet_83 rfl ?_
                  refine il2 (n := 85) dX8_sheet_84 rfl ?_
                  refine k_if_ne (t := 92) (n := 88) dX8_sheet_85 (by decide) rfl (fun h85 => ?_) (fun h85 => ?_)
                  · refine il3 (n := 93) dX8_sheet_92 rfl ?_
                    refine qiX8_307 (n := 96) dX8_sheet_93 rfl rfl (Nat.le_of_ble_eq_true rfl) (by omega) (hSs ha4) (c_clr ha4 _ _) (Nat.le_refl _) (Nat.le_refl _) ?_
                    refine k_iconst (a := 1) (n := 97) dX8_sheet_96 rfl rfl ?_
                    refine k_ireturn (ty := .int) dX8_sheet_97 rfl rfl (Nat.le_refl _) (Nat.le_refl _) ?_
                    exact ⟨by simp only [z_sheet, if_pos h33, kcl (show a < 1000 by omega), if_pos h38, if_neg (show ¬ (¬ b = 0 ∧ ¬ 0 ≤ n) from fun z => z.2 h52), if_neg (show ¬ (¬ b = 0 ∧ ¬ n ≤ 40) from fun z => z.2 h68), if_neg hb0], by simp only [z_sheet, if_pos h33, kcl (show a < 1000 by omega), if_pos h38, if_neg (show ¬ (¬ b = 0 ∧ ¬ 0 ≤ n) from fun z => z.2 h52), if_neg (show ¬ (¬ b = 0 ∧ ¬ n ≤ 40) from fun z => z.2 h68), if_neg hb0]⟩
                  · exact absurd h85 hb0
                · refine al0 (n := 72) dX8_sheet_71 rfl ?_
                  refine k_iconst (a := 1) (n := 73) dX8_sheet_72 rfl rfl ?_
                  refine qiX8_69 (n := 76) dX8_sheet_73 rfl rfl (Nat.le_of_ble_eq_true rfl) (by omega) rfl (c_refuse1 (by omega)) (Nat.le_refl _) (Nat.le_refl _) ?_
                  refine k_ireturn (ty := .int) dX8_sheet_76 rfl rfl (Nat.le_refl _) (Nat.le_refl _) ?_
                  exact ⟨by simp only [z_sheet, if_pos h33, if_pos h38, if_neg (show ¬ (¬ b = 0 ∧ ¬ 0 ≤ n) from fun z => z.2 h52), if_pos (show ¬ b = 0 ∧ ¬ n ≤ 40 from ⟨hb0, h68⟩)], by simp only [z_sheet, if_pos h33, if_pos h38, if_neg (show ¬ (¬ b = 0 ∧ ¬ 0 ≤ n) from fun z => z.2 h52), if_pos (show ¬ b = 0 ∧ ¬ n ≤ 40 from ⟨hb0, h68⟩)]⟩
            · refine al0 (n := 56) dX8_sheet_55 rfl ?_
              refine k_iconst (a := 3) (n := 57) dX8_sheet_56 rfl rfl ?_
              refine qiX8_69 (n := 60) dX8_sheet_57 rfl rfl (Nat.le_of_ble_eq_true rfl) (by omega) rfl (c_refuse3 (by omega)) (Nat.le_refl _) (Nat.le_refl _) ?_
              refine k_ireturn (ty := .int) dX8_sheet_60 rfl rfl (Nat.le_refl _) (Nat.le_refl _) ?_
              exact ⟨by simp only [z_sheet, if_pos h33, if_pos h38, if_pos (show ¬ b = 0 ∧ ¬ 0 ≤ n from ⟨hb0, h52⟩)], by simp only [z_sheet, if_pos h33, if_pos h38, if_pos (show ¬ b = 0 ∧ ¬ 0 ≤ n from ⟨hb0, h52⟩)]⟩
        · refine al0 (n := 42) dX8_sheet_41 rfl ?_
          refine k_iconst (a := 1) (n := 43) dX8_sheet_42 rfl rfl ?_
          refine qiX8_69 (n := 46) dX8_sheet_43 rfl rfl (Nat.le_of_ble_eq_true rfl) (by omega) rfl (c_refuse1 (by omega)) (Nat.le_refl _) (Nat.le_refl _) ?_
          refine k_ireturn (ty := .int) dX8_sheet_46 rfl rfl (Nat.le_refl _) (Nat.le_refl _) ?_
          exact ⟨by simp only [z_sheet, if_pos h33, if_neg h38], by simp only [z_sheet, if_pos h33, if_neg h38]⟩
  refine Ct.of (L := [some (.ref 0), some (.int v), some (.int b), some (.int n), none]) rfl rfl (Nat.le_of_ble_eq_true rfl) ?_
  refine il2 (n := 1) dX8_sheet_0 rfl ?_
  refine k_if_eq (t := 22) (n := 4) dX8_sheet_1 (by decide) rfl (fun h1 => ?_) (fun h1 => ?_)
  · refine k_iconst (a := 1) (n := 23) dX8_sheet_22 rfl rfl ?_
    refine k_goto (n := 27) dX8_sheet_23 (by decide) ?_
    first
      | exact k_top (kb_t (c := (b = 0 ∨ b = 8 ∨ b = 16 ∨ b = 32)) (Or.inl h1)).symm key
      | exact k_top (kb_t (c := (b = 0 ∨ b = 8 ∨ b = 16 ∨ b = 32)) (Or.inr (Or.inl h7))).symm key
      | exact k_top (kb_t (c := (b = 0 ∨ b = 8 ∨ b = 16 ∨ b = 32)) (Or.inr (Or.inr (Or.inl h13)))).symm key
      | exact k_top (kb_t (c := (b = 0 ∨ b = 8 ∨ b = 16 ∨ b = 32)) (Or.inr (Or.inr (Or.inr h19)))).symm key
      | exact k_top (kb_f (c := (b = 0 ∨ b = 8 ∨ b = 16 ∨ b = 32)) (fun z => z.elim h1 (fun z => z.elim h7 (fun z => z.elim h13 h19)))).symm key
  · refine il2 (n := 5) dX8_sheet_4 rfl ?_
    refine k_bipush (a := 8) (n := 7) dX8_sheet_5 rfl rfl ?_
    refine k_icmp_eq (t := 22) (n := 10) dX8_sheet_7 (by decide) rfl (fun h7 => ?_) (fun h7 => ?_)
    · refine k_iconst (a := 1) (n := 23) dX8_sheet_22 rfl rfl ?_
      refine k_goto (n := 27) dX8_sheet_23 (by decide) ?_
      first
        | exact k_top (kb_t (c := (b = 0 ∨ b = 8 ∨ b = 16 ∨ b = 32)) (Or.inl h1)).symm key
        | exact k_top (kb_t (c := (b = 0 ∨ b = 8 ∨ b = 16 ∨ b = 32)) (Or.inr (Or.inl h7))).symm key
        | exact k_top (kb_t (c := (b = 0 ∨ b = 8 ∨ b = 16 ∨ b = 32)) (Or.inr (Or.inr (Or.inl h13)))).symm key
        | exact k_top (kb_t (c := (b = 0 ∨ b = 8 ∨ b = 16 ∨ b = 32)) (Or.inr (Or.inr (Or.inr h19)))).symm key
        | exact k_top (kb_f (c := (b = 0 ∨ b = 8 ∨ b = 16 ∨ b = 32)) (fun z => z.elim h1 (fun z => z.elim h7 (fun z => z.elim h13 h19)))).symm key
    · refine il2 (n := 11) dX8_sheet_10 rfl ?_
      refine k_bipush (a := 16) (n := 13) dX8_sheet_11 rfl rfl ?_
      refine k_icmp_eq (t := 22) (n := 16) dX8_sheet_13 (by decide) rfl (fun h13 => ?_) (fun h13 => ?_)
      · refine k_iconst (a := 1) (n := 23) dX8_sheet_22 rfl rfl ?_
        refine k_goto (n := 27) dX8_sheet_23 (by decide) ?_
        first
          | exact k_top (kb_t (c := (b = 0 ∨ b = 8 ∨ b = 16 ∨ b = 32)) (Or.inl h1)).symm key
          | exact k_top (kb_t (c := (b = 0 ∨ b = 8 ∨ b = 16 ∨ b = 32)) (Or.inr (Or.inl h7))).symm key
          | exact k_top (kb_t (c := (b = 0 ∨ b = 8 ∨ b = 16 ∨ b = 32)) (Or.inr (Or.inr (Or.inl h13)))).symm key
          | exact k_top (kb_t (c := (b = 0 ∨ b = 8 ∨ b = 16 ∨ b = 32)) (Or.inr (Or.inr (Or.inr h19)))).symm key
          | exact k_top (kb_f (c := (b = 0 ∨ b = 8 ∨ b = 16 ∨ b = 32)) (fun z => z.elim h1 (fun z => z.elim h7 (fun z => z.elim h13 h19)))).symm key
      · refine il2 (n := 17) dX8_sheet_16 rfl ?_
        refine k_bipush (a := 32) (n := 19) dX8_sheet_17 rfl rfl ?_
        refine k_icmp_ne (t := 26) (n := 22) dX8_sheet_19 (by decide) rfl (fun h19 => ?_) (fun h19 => ?_)
        · refine k_iconst (a := 0) (n := 27) dX8_sheet_26 rfl rfl ?_
          first
            | exact k_top (kb_t (c := (b = 0 ∨ b = 8 ∨ b = 16 ∨ b = 32)) (Or.inl h1)).symm key
            | exact k_top (kb_t (c := (b = 0 ∨ b = 8 ∨ b = 16 ∨ b = 32)) (Or.inr (Or.inl h7))).symm key
            | exact k_top (kb_t (c := (b = 0 ∨ b = 8 ∨ b = 16 ∨ b = 32)) (Or.inr (Or.inr (Or.inl h13)))).symm key
            | exact k_top (kb_t (c := (b = 0 ∨ b = 8 ∨ b = 16 ∨ b = 32)) (Or.inr (Or.inr (Or.inr h19)))).symm key
            | exact k_top (kb_f (c := (b = 0 ∨ b = 8 ∨ b = 16 ∨ b = 32)) (fun z => z.elim h1 (fun z => z.elim h7 (fun z => z.elim h13 h19)))).symm key
        · refine k_iconst (a := 1) (n := 23) dX8_sheet_22 rfl rfl ?_
          refine k_goto (n := 27) dX8_sheet_23 (by decide) ?_
          first
            | exact k_top (kb_t (c := (b = 0 ∨ b = 8 ∨ b = 16 ∨ b = 32)) (Or.inl h1)).symm key
            | exact k_top (kb_t (c := (b = 0 ∨ b = 8 ∨ b = 16 ∨ b = 32)) (Or.inr (Or.inl h7))).symm key
            | exact k_top (kb_t (c := (b = 0 ∨ b = 8 ∨ b = 16 ∨ b = 32)) (Or.inr (Or.inr (Or.inl h13)))).symm key
            | exact k_top (kb_t (c := (b = 0 ∨ b = 8 ∨ b = 16 ∨ b = 32)) (Or.inr (Or.inr (Or.inr h19)))).symm key
            | exact k_top (kb_f (c := (b = 0 ∨ b = 8 ∨ b = 16 ∨ b = 32)) (fun z => z.elim h1 (fun z => z.elim h7 (fun z => z.elim h13 h19)))).symm key
def z_put (I : Nat → Nat → Int32) (v i x : Int32) : Int32 × (Nat → Nat → Int32) :=
  if 0 ≤ v ∧ v ≤ 3 then (if I 87 v.toNatClampNeg = 0 then (-1000000002, kerC I 2) else if 0 ≤ i ∧ i ≤ I 88 v.toNatClampNeg - 1 then (1, kset I (74 + 2 * v.toNatClampNeg) (upd (I (74 + 2 * v.toNatClampNeg)) i.toNatClampNeg (nrwF (I 87 v.toNatClampNeg) x))) else (-1000000001, kerC I 1)) else (-1000000001, kerC I 1)
set_option maxHeartbeats 2000000 in
set_option maxRecDepth 20000 in
theorem c_write {a i : Nat} (ha : a < 4) (hi : i < 40) (x : Int32) : Ct E d mX5_write 0 0 [.ref (73 + 2 * a), .int (nI i), .int x] (kJ I) (kRv (kset I (74 + 2 * a) (upd (I (74 + 2 * a)) i (nrwF (I (73 + 2 * a) 1) x)))) := by
  refine Ct.of (L := [some (.ref (73 + 2 * a)), some (.int (nI i)), some (.int x)]) rfl rfl (Nat.le_of_ble_eq_true rfl) ?_
  refine al0 (n := 1) dX5_write_0 rfl ?_
  refine gX5_9 (n := 4) dX5_write_1 rfl rfl (hSs ha) (hPs ha) ?_
  refine il1 (n := 5) dX5_write_4 rfl ?_
  refine al0 (n := 6) dX5_write_5 rfl ?_
  refine gX5_15 (n := 9) dX5_write_6 rfl rfl (hSs ha) ?_
  refine k_bipush (a := 8) (n := 11) dX5_write_9 rfl rfl ?_
  refine k_icmp_ne (t := 19) (n := 14) dX5_write_11 (by decide) rfl (fun h11 => ?_) (fun h11 => ?_)
  · refine al0 (n := 20) dX5_write_19 rfl ?_
    refine gX5_15 (n := 23) dX5_write_20 rfl rfl (hSs ha) ?_
    refine k_bipush (a := 16) (n := 25) dX5_write_23 rfl rfl ?_
    refine k_icmp_ne (t := 33) (n := 28) dX5_write_25 (by decide) rfl (fun h25 => ?_) (fun h25 => ?_)
    · refine il2 (n := 34) dX5_write_33 rfl ?_
      refine j_iast (j := i) (n := 35) dX5_write_34 rfl (hSn ha) rfl (by omega) (by decide) ?_
      refine k_gen (fun I1 e1 => ?_)
      refine k_return dX5_write_35 rfl (Nat.le_refl _) (Nat.le_refl _) ?_
      subst e1
      refine ⟨rfl, ?_⟩
      simp only [nrwF, if_neg h11, if_neg h25]
    · refine il2 (n := 29) dX5_write_28 rfl ?_
      refine k_i2s (n := 30) dX5_write_29 rfl ?_
      refine k_goto (n := 34) dX5_write_30 (by decide) ?_
      refine j_iast (j := i) (n := 35) dX5_write_34 rfl (hSn ha) rfl (by omega) (by decide) ?_
      refine k_gen (fun I2 e2 => ?_)
      refine k_return dX5_write_35 rfl (Nat.le_refl _) (Nat.le_refl _) ?_
      subst e2
      refine ⟨rfl, ?_⟩
      simp only [nrwF, if_neg h11, if_pos h25]
  · refine il2 (n := 15) dX5_write_14 rfl ?_
    refine k_i2b (n := 16) dX5_write_15 rfl ?_
    refine k_goto (n := 34) dX5_write_16 (by decide) ?_
    refine j_iast (j := i) (n := 35) dX5_write_34 rfl (hSn ha) rfl (by omega) (by decide) ?_
    refine k_gen (fun I3 e3 => ?_)
    refine k_return dX5_write_35 rfl (Nat.le_refl _) (Nat.le_refl _) ?_
    subst e3
    refine ⟨rfl, ?_⟩
    simp only [nrwF, if_pos h11]
set_option maxHeartbeats 2000000 in
set_option maxRecDepth 20000 in
theorem c_put (hd : 2 ≤ d) (hS : SH I) (hI : SI I) (v i x : Int32) : Ct E d mX8_put 0 0 [.ref 0, .int v, .int i, .int x] (kJ I) (kR (z_put I v i x).1 (z_put I v i x).2) := by
  refine Ct.of (L := [some (.ref 0), some (.int v), some (.int i), some (.int x), none]) rfl rfl (Nat.le_of_ble_eq_true rfl) ?_
  refine il1 (n := 1) dX8_put_0 rfl ?_
  refine qiX8_277 (n := 4) dX8_put_1 rfl rfl (Nat.le_of_ble_eq_true rfl) (by omega) (c_isSheet (by omega) _) (Nat.le_refl _) (Nat.le_refl _) ?_
  refine k_ifb_ne (t := 13) (n := 7) dX8_put_4 (by decide) rfl (fun h4 => ?_) (fun h4 => ?_)
  · obtain ⟨a, -, ha, rfl⟩ := kbt (a := 0) (b := 3) h4 (by decide) (by decide)
    have ha4 : a < 4 := by omega
    obtain ⟨s, hs, hs40⟩ := hI a ha4
    refine al0 (n := 14) dX8_put_13 rfl ?_
    refine gX8_57 (n := 17) dX8_put_14 rfl rfl rfl rfl ?_
    refine il1 (n := 18) dX8_put_17 rfl ?_
    refine j_aald (j := a) (n := 19) dX8_put_18 rfl rfl hOS rfl (by omega) (by decide) (hPS ha4) ?_
    refine as4 (n := 21) dX8_put_19 rfl trivial ?_
    refine al4 (n := 23) dX8_put_21 rfl ?_
    refine qiX8_280 (n := 26) dX8_put_23 rfl rfl (Nat.le_of_ble_eq_true rfl) (by omega) (hSs ha4) (c_isMiss ha4) (Nat.le_refl _) (Nat.le_refl _) ?_
    rw [(hS a ha4).1]
    refine k_ifb_eq (t := 35) (n := 29) dX8_put_26 (by decide) rfl (fun h26 => ?_) (fun h26 => ?_)
    · refine il2 (n := 36) dX8_put_35 rfl ?_
      refine k_iconst (a := 0) (n := 37) dX8_put_36 rfl rfl ?_
      refine al4 (n := 39) dX8_put_37 rfl ?_
      refine gX8_283 (n := 42) dX8_put_39 rfl rfl (hSs ha4) ?_
      refine k_top (hS a ha4).2.1 ?_
      refine k_iconst (a := 1) (n := 43) dX8_put_42 rfl rfl ?_
      refine k_isub (n := 44) dX8_put_43 rfl ?_
      refine qiX8_65 (n := 47) dX8_put_44 rfl rfl (Nat.le_of_ble_eq_true rfl) (by omega) (c_within _ _ _) (Nat.le_refl _) (Nat.le_refl _) ?_
      refine k_ifb_ne (t := 56) (n := 50) dX8_put_47 (by decide) rfl (fun h47 => ?_) (fun h47 => ?_)
      · have g47 := h47
        rw [hs] at g47
        obtain ⟨k, hk, rfl⟩ := kix g47 (by omega)
        refine al4 (n := 58) dX8_put_56 rfl ?_
        refine il2 (n := 59) dX8_put_58 rfl ?_
        refine il3 (n := 60) dX8_put_59 rfl ?_
        refine qiX8_311 (n := 63) dX8_put_60 rfl rfl (Nat.le_of_ble_eq_true rfl) (by omega) (hSs ha4) (c_write ha4 (show k < 40 by omega) x) (Nat.le_refl _) (Nat.le_refl _) ?_
        rw [(hS a ha4).1]
        refine k_iconst (a := 1) (n := 64) dX8_put_63 rfl rfl ?_
        refine k_ireturn (ty := .int) dX8_put_64 rfl rfl (Nat.le_refl _) (Nat.le_refl _) ?_
        exact ⟨by simp only [z_put, if_pos h4, kcl (show a < 1000 by omega), if_neg h26, if_pos h47, kcl (show k < 1000 by omega)], by simp only [z_put, if_pos h4, kcl (show a < 1000 by omega), if_neg h26, if_pos h47, kcl (show k < 1000 by omega)]⟩
      · refine al0 (n := 51) dX8_put_50 rfl ?_
        refine k_iconst (a := 1) (n := 52) dX8_put_51 rfl rfl ?_
        refine qiX8_69 (n := 55) dX8_put_52 rfl rfl (Nat.le_of_ble_eq_true rfl) (by omega) rfl (c_refuse1 (by omega)) (Nat.le_refl _) (Nat.le_refl _) ?_
        refine k_ireturn (ty := .int) dX8_put_55 rfl rfl (Nat.le_refl _) (Nat.le_refl _) ?_
        exact ⟨by simp only [z_put, if_pos h4, kcl (show a < 1000 by omega), if_neg h26, if_neg h47], by simp only [z_put, if_pos h4, kcl (show a < 1000 by omega), if_neg h26, if_neg h47]⟩
    · refine al0 (n := 30) dX8_put_29 rfl ?_
      refine k_iconst (a := 2) (n := 31) dX8_put_30 rfl rfl ?_
      refine qiX8_69 (n := 34) dX8_put_31 rfl rfl (Nat.le_of_ble_eq_true rfl) (by omega) rfl (c_refuse2 (by omega)) (Nat.le_refl _) (Nat.le_refl _) ?_
      refine k_ireturn (ty := .int) dX8_put_34 rfl rfl (Nat.le_refl _) (Nat.le_refl _) ?_
      exact ⟨by simp only [z_put, if_pos h4, kcl (show a < 1000 by omega), if_pos h26], by simp only [z_put, if_pos h4, kcl (show a < 1000 by omega), if_pos h26]⟩
  · refine al0 (n := 8) dX8_put_7 rfl ?_
    refine k_iconst (a := 1) (n := 9) dX8_put_8 rfl rfl ?_
    refine qiX8_69 (n := 12) dX8_put_9 rfl rfl (Nat.le_of_ble_eq_true rfl) (by omega) rfl (c_refuse1 (by omega)) (Nat.le_refl _) (Nat.le_refl _) ?_
    refine k_ireturn (ty := .int) dX8_put_12 rfl rfl (Nat.le_refl _) (Nat.le_refl _) ?_
    exact ⟨by simp only [z_put, if_neg h4], by simp only [z_put, if_neg h4]⟩
def z_move (I : Nat → Nat → Int32) (v i u j n : Int32) : Int32 × (Nat → Nat → Int32) :=
  if 0 ≤ v ∧ v ≤ 3 then (if 0 ≤ u ∧ u ≤ 3 then (if I 87 v.toNatClampNeg = 0 then (-1000000002, kerC I 2) else if I 87 u.toNatClampNeg = 0 then (-1000000002, kerC I 2) else if I 87 v.toNatClampNeg = I 87 u.toNatClampNeg then
    (if n < 0 then (-1000000001, kerC I 1) else if i < 0 then (-1000000001, kerC I 1) else if j < 0 then (-1000000001, kerC I 1) else if I 88 v.toNatClampNeg - n < i then (-1000000001, kerC I 1) else if j ≤ I 88 u.toNatClampNeg - n then
      (n, kset I (74 + 2 * u.toNatClampNeg) (va_cpy (I (74 + 2 * v.toNatClampNeg)) (I (74 + 2 * u.toNatClampNeg)) i.toNatClampNeg j.toNatClampNeg n.toNatClampNeg)) else (-1000000001, kerC I 1)) else (-1000000005, kerC I 5)) else (-1000000001, kerC I 1)) else (-1000000001, kerC I 1)
set_option maxHeartbeats 2000000 in
set_option maxRecDepth 20000 in
theorem c_hasRun {a : Nat} (ha : a < 4) (i n : Int32) : Ct E d mX5_hasRun 0 0 [.ref (73 + 2 * a), .int i, .int n] (kJ I) (kR (kb ((¬ i < 0 ∧ ¬ n < 0) ∧ i ≤ I (73 + 2 * a) 2 - n)) I) := by
  refine Ct.of (L := [some (.ref (73 + 2 * a)), some (.int i), some (.int n)]) rfl rfl (Nat.le_of_ble_eq_true rfl) ?_
  refine il1 (n := 1) dX5_hasRun_0 rfl ?_
  refine k_if_lt (t := 22) (n := 4) dX5_hasRun_1 (by decide) rfl (fun h1 => ?_) (fun h1 => ?_)
  · refine k_iconst (a := 0) (n := 23) dX5_hasRun_22 rfl rfl ?_
    refine k_ireturn (ty := .boolean) dX5_hasRun_23 rfl (by first | rfl | exact knb _) (Nat.le_refl _) (Nat.le_refl _) ?_
    first
      | exact kRf (fun z => z.1.1 h1)
      | exact kRf (fun z => z.1.2 h5)
      | exact kRf (fun z => absurd z.2 (Int32.not_le.mpr h15))
      | exact kRt ⟨⟨h1, h5⟩, Int32.not_lt.mp h15⟩
  · refine il2 (n := 5) dX5_hasRun_4 rfl ?_
    refine k_if_lt (t := 22) (n := 8) dX5_hasRun_5 (by decide) rfl (fun h5 => ?_) (fun h5 => ?_)
    · refine k_iconst (a := 0) (n := 23) dX5_hasRun_22 rfl rfl ?_
      refine k_ireturn (ty := .boolean) dX5_hasRun_23 rfl (by first | rfl | exact knb _) (Nat.le_refl _) (Nat.le_refl _) ?_
      first
        | exact kRf (fun z => z.1.1 h1)
        | exact kRf (fun z => z.1.2 h5)
        | exact kRf (fun z => absurd z.2 (Int32.not_le.mpr h15))
        | exact kRt ⟨⟨h1, h5⟩, Int32.not_lt.mp h15⟩
    · refine il1 (n := 9) dX5_hasRun_8 rfl ?_
      refine al0 (n := 10) dX5_hasRun_9 rfl ?_
      refine gX5_19 (n := 13) dX5_hasRun_10 rfl rfl (hSs ha) ?_
      refine il2 (n := 14) dX5_hasRun_13 rfl ?_
      refine k_isub (n := 15) dX5_hasRun_14 rfl ?_
      refine k_icmp_gt (t := 22) (n := 18) dX5_hasRun_15 (by decide) rfl (fun h15 => ?_) (fun h15 => ?_)
      · refine k_iconst (a := 0) (n := 23) dX5_hasRun_22 rfl rfl ?_
        refine k_ireturn (ty := .boolean) dX5_hasRun_23 rfl (by first | rfl | exact knb _) (Nat.le_refl _) (Nat.le_refl _) ?_
        first
          | exact kRf (fun z => z.1.1 h1)
          | exact kRf (fun z => z.1.2 h5)
          | exact kRf (fun z => absurd z.2 (Int32.not_le.mpr h15))
          | exact kRt ⟨⟨h1, h5⟩, Int32.not_lt.mp h15⟩
      · refine k_iconst (a := 1) (n := 19) dX5_hasRun_18 rfl rfl ?_
        refine k_goto (n := 23) dX5_hasRun_19 (by decide) ?_
        refine k_ireturn (ty := .boolean) dX5_hasRun_23 rfl (by first | rfl | exact knb _) (Nat.le_refl _) (Nat.le_refl _) ?_
        first
          | exact kRf (fun z => z.1.1 h1)
          | exact kRf (fun z => z.1.2 h5)
          | exact kRf (fun z => absurd z.2 (Int32.not_le.mpr h15))
          | exact kRt ⟨⟨h1, h5⟩, Int32.not_lt.mp h15⟩
theorem mv_bad {i j n A B : Int32} {I : Nat → Nat → Int32} {X : Int32 × (Nat → Nat → Int32)} (h : ¬ (((¬ i < 0 ∧ ¬ n < 0) ∧ i ≤ A - n) ∧ ((¬ j < 0 ∧ ¬ n < 0) ∧ j ≤ B - n))) : kR (if n < 0 then (-1000000001, kerC I 1) else if i < 0 then (-1000000001, kerC I 1) else if j < 0 then (-1000000001, kerC I 1) else if A - n < i then (-1000000001, kerC I 1) else if j ≤ B - n then X else (-1000000001, kerC I 1)).1 (if n < 0 then (-1000000001, kerC I 1) else if i < 0 then (-1000000001, kerC I 1) else if j < 0 then (-1000000001, kerC I 1) else if A - n < i then (-1000000001, kerC I 1) else if j ≤ B - n then X else (-1000000001, kerC I 1)).2 (some (.int (-1000000001))) (kJ (kerC I 1)) := by
  by_cases h1 : n < 0
  · rw [if_pos h1]; exact ⟨rfl, rfl⟩
  · rw [if_neg h1]
    by_cases h2 : i < 0
    · rw [if_pos h2]; exact ⟨rfl, rfl⟩
    · rw [if_neg h2]
      by_cases h3 : j < 0
      · rw [if_pos h3]; exact ⟨rfl, rfl⟩
      · rw [if_neg h3]
        by_cases h4 : A - n < i
        · rw [if_pos h4]; exact ⟨rfl, rfl⟩
        · rw [if_neg h4, if_neg (fun z => h ⟨⟨⟨h2, h1⟩, Int32.not_lt.mp h4⟩, ⟨h3, h1⟩, z⟩)]; exact ⟨rfl, rfl⟩
set_option maxHeartbeats 2000000 in
set_option maxRecDepth 20000 in
theorem c_move (hd : 2 ≤ d) (hS : SH I) (hI : SI I) (v i u j n : Int32) : Ct E d mX8_move 0 0 [.ref 0, .int v, .int i, .int u, .int j, .int n] (kJ I) (kR (z_move I v i u j n).1 (z_move I v i u j n).2) := by
  refine Ct.of (L := [some (.ref 0), some (.int v), some (.int i), some (.int u), some (.int j), some (.int n), none, none]) rfl rfl (Nat.le_of_ble_eq_true rfl) ?_
  refine il1 (n := 1) dX8_move_0 rfl ?_
  refine qiX8_277 (n := 4) dX8_move_1 rfl rfl (Nat.le_of_ble_eq_true rfl) (by omega) (c_isSheet (by omega) _) (Nat.le_refl _) (Nat.le_refl _) ?_
  refine k_ifb_eq (t := 14) (n := 7) dX8_move_4 (by decide) rfl (fun h4 => ?_) (fun h4 => ?_)
  · refine al0 (n := 15) dX8_move_14 rfl ?_
    refine k_iconst (a := 1) (n := 16) dX8_move_15 rfl rfl ?_
    refine qiX8_69 (n := 19) dX8_move_16 rfl rfl (Nat.le_of_ble_eq_true rfl) (by omega) rfl (c_refuse1 (by omega)) (Nat.le_refl _) (Nat.le_refl _) ?_
    refine k_ireturn (ty := .int) dX8_move_19 rfl rfl (Nat.le_refl _) (Nat.le_refl _) ?_
    exact ⟨by simp only [z_move, if_neg h4], by simp only [z_move, if_neg h4]⟩
  · obtain ⟨a, -, ha, rfl⟩ := kbt (a := 0) (b := 3) h4 (by decide) (by decide)
    have ha4 : a < 4 := by omega
    obtain ⟨s, hs, hs40⟩ := hI a ha4
    refine il3 (n := 8) dX8_move_7 rfl ?_
    refine qiX8_277 (n := 11) dX8_move_8 rfl rfl (Nat.le_of_ble_eq_true rfl) (by omega) (c_isSheet (by omega) _) (Nat.le_refl _) (Nat.le_refl _) ?_
    refine k_ifb_ne (t := 20) (n := 14) dX8_move_11 (by decide) rfl (fun h11 => ?_) (fun h11 => ?_)
    · obtain ⟨b, -, hb, rfl⟩ := kbt (a := 0) (b := 3) h11 (by decide) (by decide)
      have hb4 : b < 4 := by omega
      obtain ⟨s2, hs2, hs240⟩ := hI b hb4
      refine al0 (n := 21) dX8_move_20 rfl ?_
      refine gX8_57 (n := 24) dX8_move_21 rfl rfl rfl rfl ?_
      refine il1 (n := 25) dX8_move_24 rfl ?_
      refine j_aald (j := a) (n := 26) dX8_move_25 rfl rfl hOS rfl (by omega) (by decide) (hPS ha4) ?_
      refine as6 (n := 28) dX8_move_26 rfl trivial ?_
      refine al0 (n := 29) dX8_move_28 rfl ?_
      refine gX8_57 (n := 32) dX8_move_29 rfl rfl rfl rfl ?_
      refine il3 (n := 33) dX8_move_32 rfl ?_
      refine j_aald (j := b) (n := 34) dX8_move_33 rfl rfl hOS rfl (by omega) (by decide) (hPS hb4) ?_
      refine as7 (n := 36) dX8_move_34 rfl trivial ?_
      refine al6 (n := 38) dX8_move_36 rfl ?_
      refine qiX8_280 (n := 41) dX8_move_38 rfl rfl (Nat.le_of_ble_eq_true rfl) (by omega) (hSs ha4) (c_isMiss ha4) (Nat.le_refl _) (Nat.le_refl _) ?_
      rw [(hS a ha4).1]
      refine k_ifb_ne (t := 52) (n := 44) dX8_move_41 (by decide) rfl (fun h41 => ?_) (fun h41 => ?_)
      · refine al0 (n := 53) dX8_move_52 rfl ?_
        refine k_iconst (a := 2) (n := 54) dX8_move_53 rfl rfl ?_
        refine qiX8_69 (n := 57) dX8_move_54 rfl rfl (Nat.le_of_ble_eq_true rfl) (by omega) rfl (c_refuse2 (by omega)) (Nat.le_refl _) (Nat.le_refl _) ?_
        refine k_ireturn (ty := .int) dX8_move_57 rfl rfl (Nat.le_refl _) (Nat.le_refl _) ?_
        exact ⟨by simp only [z_move, if_pos h4, if_pos h11, kcl (show a < 1000 by omega), kcl (show b < 1000 by omega), if_pos h41], by simp only [z_move, if_pos h4, if_pos h11, kcl (show a < 1000 by omega), kcl (show b < 1000 by omega), if_pos h41]⟩
      · refine al7 (n := 46) dX8_move_44 rfl ?_
        refine qiX8_280 (n := 49) dX8_move_46 rfl rfl (Nat.le_of_ble_eq_true rfl) (by omega) (hSs hb4) (c_isMiss hb4) (Nat.le_refl _) (Nat.le_refl _) ?_
        rw [(hS b hb4).1]
        refine k_ifb_eq (t := 58) (n := 52) dX8_move_49 (by decide) rfl (fun h49 => ?_) (fun h49 => ?_)
        · refine al6 (n := 60) dX8_move_58 rfl ?_
          refine gX8_314 (n := 63) dX8_move_60 rfl rfl (hSs ha4) ?_
          refine k_top (hS a ha4).1 ?_
          refine al7 (n := 65) dX8_move_63 rfl ?_
          refine gX8_314 (n := 68) dX8_move_65 rfl rfl (hSs hb4) ?_
          refine k_top (hS b hb4).1 ?_
          refine k_icmp_eq (t := 77) (n := 71) dX8_move_68 (by decide) rfl (fun h68 => ?_) (fun h68 => ?_)
          · refine al6 (n := 79) dX8_move_77 rfl ?_
            refine il2 (n := 80) dX8_move_79 rfl ?_
            refine il5 (n := 82) dX8_move_80 rfl ?_
            refine qiX8_317 (n := 85) dX8_move_82 rfl rfl (Nat.le_of_ble_eq_true rfl) (by omega) (hSs ha4) (c_hasRun ha4 i n) (Nat.le_refl _) (Nat.le_refl _) ?_
            rw [(hS a ha4).2.1]
            refine k_ifb_eq (t := 100) (n := 88) dX8_move_85 (by decide) rfl (fun h85 => ?_) (fun h85 => ?_)
            · refine al0 (n := 101) dX8_move_100 rfl ?_
              refine k_iconst (a := 1) (n := 102) dX8_move_101 rfl rfl ?_
              refine qiX8_69 (n := 105) dX8_move_102 rfl rfl (Nat.le_of_ble_eq_true rfl) (by omega) rfl (c_refuse1 (by omega)) (Nat.le_refl _) (Nat.le_refl _) ?_
              refine k_ireturn (ty := .int) dX8_move_105 rfl rfl (Nat.le_refl _) (Nat.le_refl _) ?_
              simp only [z_move, if_pos h4, if_pos h11, kcl (show a < 1000 by omega), kcl (show b < 1000 by omega), if_neg h41, if_neg h49, if_pos h68]
              exact mv_bad (fun z => h85 z.1)
            · refine al7 (n := 90) dX8_move_88 rfl ?_
              refine il4 (n := 92) dX8_move_90 rfl ?_
              refine il5 (n := 94) dX8_move_92 rfl ?_
              refine qiX8_317 (n := 97) dX8_move_94 rfl rfl (Nat.le_of_ble_eq_true rfl) (by omega) (hSs hb4) (c_hasRun hb4 j n) (Nat.le_refl _) (Nat.le_refl _) ?_
              rw [(hS b hb4).2.1]
              refine k_ifb_ne (t := 106) (n := 100) dX8_move_97 (by decide) rfl (fun h97 => ?_) (fun h97 => ?_)
              · obtain ⟨p, m, em, ep, hpm⟩ := kmv (z := 0) hs40 h85.1.2 h85.1.1 (by rw [← hs]; exact Int32.not_lt.mpr h85.2)
                obtain ⟨p2, m2, em2, ep2, hpm2⟩ := kmv (z := 0) hs240 h97.1.2 h97.1.1 (by rw [← hs2]; exact Int32.not_lt.mpr h97.2)
                have emm : m2 = m := by
                  have z := congrArg Int32.toNatClampNeg (em2.symm.trans em)
                  rwa [kcl (by omega), kcl (by omega)] at z
                subst emm
                refine al6 (n := 108) dX8_move_106 rfl ?_
                refine gX8_320 (n := 111) dX8_move_108 rfl rfl (hSs ha4) (hPs ha4) ?_
                refine il2 (n := 112) dX8_move_111 rfl ?_
                refine al7 (n := 114) dX8_move_112 rfl ?_
                refine gX8_320 (n := 117) dX8_move_114 rfl rfl (hSs hb4) (hPs hb4) ?_
                refine il4 (n := 119) dX8_move_117 rfl ?_
                refine il5 (n := 121) dX8_move_119 rfl ?_
                refine qjX8_323 (n := 124) dX8_move_121 rfl rfl (jR (hSn ha4)) (hSn hb4) ep ep2 em (a := p) (b := p2) (z := m2) (by omega) (by omega) (by decide) (by decide) (Nat.le_of_ble_eq_true rfl) ?_
                refine il5 (n := 126) dX8_move_124 rfl ?_
                refine k_ireturn (ty := .int) dX8_move_126 rfl rfl (Nat.le_refl _) (Nat.le_refl _) ?_
                have n0 : ¬ n < 0 := h85.1.2
                have g1 : ¬ I 88 a - n < i := Int32.not_lt.mpr h85.2
                refine ⟨by simp only [z_move, if_pos h4, if_pos h11, kcl (show a < 1000 by omega), kcl (show b < 1000 by omega), if_neg h41, if_neg h49, if_pos h68, if_neg n0, if_neg h85.1.1, if_neg h97.1.1, if_neg g1, if_pos h97.2], ?_⟩
                simp only [z_move, if_pos h4, if_pos h11, kcl (show a < 1000 by omega), kcl (show b < 1000 by omega), if_neg h41, if_neg h49, if_pos h68, if_neg n0, if_neg h85.1.1, if_neg h97.1.1, if_neg g1, if_pos h97.2]
                rw [ep, ep2, em, kcl (show p < 1000 by omega), kcl (show p2 < 1000 by omega), kcl (show m2 < 1000 by omega)]
              · refine al0 (n := 101) dX8_move_100 rfl ?_
                refine k_iconst (a := 1) (n := 102) dX8_move_101 rfl rfl ?_
                refine qiX8_69 (n := 105) dX8_move_102 rfl rfl (Nat.le_of_ble_eq_true rfl) (by omega) rfl (c_refuse1 (by omega)) (Nat.le_refl _) (Nat.le_refl _) ?_
                refine k_ireturn (ty := .int) dX8_move_105 rfl rfl (Nat.le_refl _) (Nat.le_refl _) ?_
                simp only [z_move, if_pos h4, if_pos h11, kcl (show a < 1000 by omega), kcl (show b < 1000 by omega), if_neg h41, if_neg h49, if_pos h68]
                exact mv_bad (fun z => h97 z.2)
          · refine al0 (n := 72) dX8_move_71 rfl ?_
            refine k_iconst (a := 5) (n := 73) dX8_move_72 rfl rfl ?_
            refine qiX8_69 (n := 76) dX8_move_73 rfl rfl (Nat.le_of_ble_eq_true rfl) (by omega) rfl (c_refuse5 (by omega)) (Nat.le_refl _) (Nat.le_refl _) ?_
            refine k_ireturn (ty := .int) dX8_move_76 rfl rfl (Nat.le_refl _) (Nat.le_refl _) ?_
            exact ⟨by simp only [z_move, if_pos h4, if_pos h11, kcl (show a < 1000 by omega), kcl (show b < 1000 by omega), if_neg h41, if_neg h49, if_neg h68], by simp only [z_move, if_pos h4, if_pos h11, kcl (show a < 1000 by omega), kcl (show b < 1000 by omega), if_neg h41, if_neg h49, if_neg h68]⟩
        · refine al0 (n := 53) dX8_move_52 rfl ?_
          refine k_iconst (a := 2) (n := 54) dX8_move_53 rfl rfl ?_
          refine qiX8_69 (n := 57) dX8_move_54 rfl rfl (Nat.le_of_ble_eq_true rfl) (by omega) rfl (c_refuse2 (by omega)) (Nat.le_refl _) (Nat.le_refl _) ?_
          refine k_ireturn (ty := .int) dX8_move_57 rfl rfl (Nat.le_refl _) (Nat.le_refl _) ?_
          exact ⟨by simp only [z_move, if_pos h4, if_pos h11, kcl (show a < 1000 by omega), kcl (show b < 1000 by omega), if_neg h41, if_pos h49], by simp only [z_move, if_pos h4, if_pos h11, kcl (show a < 1000 by omega), kcl (show b < 1000 by omega), if_neg h41, if_pos h49]⟩
    · refine al0 (n := 15) dX8_move_14 rfl ?_
      refine k_iconst (a := 1) (n := 16) dX8_move_15 rfl rfl ?_
      refine qiX8_69 (n := 19) dX8_move_16 rfl rfl (Nat.le_of_ble_eq_true rfl) (by omega) rfl (c_refuse1 (by omega)) (Nat.le_refl _) (Nat.le_refl _) ?_
      refine k_ireturn (ty := .int) dX8_move_19 rfl rfl (Nat.le_refl _) (Nat.le_refl _) ?_
      exact ⟨by simp only [z_move, if_pos h4, if_neg h11], by simp only [z_move, if_pos h4, if_neg h11]⟩
set_option maxHeartbeats 2000000 in
set_option maxRecDepth 20000 in
theorem c_judge_l (hC : CR I r c t) (hS : SH I) (a : Nat) (ha : a < 4) (e : Nat) (h8 : e ≤ 8) (hec : e ≤ c) (Q : Option Value → kM → Prop) (hY : ∀ i, i < e → i = srF (fun i => ¬ I 89 (40 * a + i) = r (29 + 7 * i + 5)) e 0 → Q (some (.int (nI i))) (kJ I)) (hN : srF (fun i => ¬ I 89 (40 * a + i) = r (29 + 7 * i + 5)) e 0 = e → Wd E d mX8_judge 0 0 0 0 95 [some (.ref 0), some (.int (nI a)), some (.ref (73 + 2 * a)), some (.int (nI e)), some (.int (nI e))] [] (kJ I) Q) (m : Nat) : ∀ (i : Nat), i + m = e → srF (fun i => ¬ I 89 (40 * a + i) = r (29 + 7 * i + 5)) m i = srF (fun i => ¬ I 89 (40 * a + i) = r (29 + 7 * i + 5)) e 0 → Wd E d mX8_judge 0 0 0 0 54 [some (.ref 0), some (.int (nI a)), some (.ref (73 + 2 * a)), some (.int (nI e)), some (.int (nI i))] [] (kJ I) Q := by
  induction m with
  | zero =>
    intro i hi hs
    have e0 : i = e := by omega
    subst e0
    refine il4 (n := 56) dX8_judge_54 rfl ?_
    refine il3 (n := 57) dX8_judge_56 rfl ?_
    refine k_icmp_ge (t := 95) (n := 60) dX8_judge_57 (by decide) rfl (fun h57 => ?_) (fun h57 => ?_)
    · exact hN hs.symm
    · exact absurd (Int32.le_refl _) h57
  | succ m ih =>
    intro i hi hs
    have hb := hC.bl
    have hic : i < c := by omega
    have hc8 := hb.c8
    refine il4 (n := 56) dX8_judge_54 rfl ?_
    refine il3 (n := 57) dX8_judge_56 rfl ?_
    refine k_icmp_ge (t := 95) (n := 60) dX8_judge_57 (by decide) rfl (fun h57 => ?_) (fun h57 => ?_)
    · exact absurd h57 (nI_ge (by omega) (by omega))
    · refine al2 (n := 61) dX8_judge_60 rfl ?_
      refine gX8_320 (n := 64) dX8_judge_61 rfl rfl (hSs ha) (hPs ha) ?_
      refine il4 (n := 66) dX8_judge_64 rfl ?_
      refine j_iald (j := i) (n := 67) dX8_judge_66 rfl (hSn ha) rfl (by omega) (by decide) ?_
      refine k_top ((hS a ha).2.2 i (by omega)) ?_
      refine al0 (n := 68) dX8_judge_67 rfl ?_
      refine gX8_10 (n := 71) dX8_judge_68 rfl rfl rfl rfl ?_
      refine gX8_73 (n := 74) dX8_judge_71 rfl rfl rfl rfl ?_
      refine gX8_139 (n := 77) dX8_judge_74 rfl rfl (hS0 (Or.inl rfl)) (hP4 (Or.inl rfl)) ?_
      refine il4 (n := 79) dX8_judge_77 rfl ?_
      refine j_aald (j := i) (n := 80) dX8_judge_79 rfl (hS3 (Or.inl rfl)) hOC rfl (by omega) (by decide) (hP6 (Or.inl rfl) (by omega)) ?_
      refine gX8_160 (n := 83) dX8_judge_80 rfl rfl (hS8 (Or.inl rfl) (by omega)) ?_
      refine k_top (BL.cr hb hic (j := 5) (by decide)) ?_
      refine k_icmp_eq (t := 89) (n := 86) dX8_judge_83 (by decide) rfl (fun h83 => ?_) (fun h83 => ?_)
      · refine ii4 (n := 92) dX8_judge_89 rfl (ki1 _) trivial ?_
        rw [nI_1]
        refine k_goto (n := 54) dX8_judge_92 (by decide) ?_
        exact ih (i + 1) (by omega) (by rw [← hs, srF, if_neg (show ¬ ¬ I 89 (40 * a + i) = r (29 + 7 * i + 5) from fun z => z h83)])
      · refine il4 (n := 88) dX8_judge_86 rfl ?_
        refine k_ireturn (ty := .int) dX8_judge_88 rfl rfl (Nat.le_refl _) (Nat.le_refl _) ?_
        exact hY i (by omega) (by rw [← hs, srF, if_pos (show ¬ I 89 (40 * a + i) = r (29 + 7 * i + 5) from h83)])
theorem mn_nI {a b : Nat} (ha : a < 1000) (hb : b < 1000) : (if nI b < nI a then nI b else nI a) = nI (min b a) := by
  by_cases h : b < a
  · rw [if_pos (nI_lt h (by omega)), Nat.min_eq_left (by omega)]
  · rw [if_neg (nI_nlt (by omega) (by omega)), Nat.min_eq_right (by omega)]
set_option maxHeartbeats 2000000 in
set_option maxRecDepth 20000 in
theorem c_judge (hd : 2 ≤ d) (hC : CR I r c t) (hR : RI r) (hX : RX r) (v : Int32) (hS : SH I) (hI : SI I) : Ct E d mX8_judge 0 0 [.ref 0, .int v] (kJ I) (kZ I (s_judge I r v)) := by
  have hb := hC.bl
  have hT := hR.TX
  have h8 := hb.c8
  have h4 := hb.t4
  refine Ct.of (L := [some (.ref 0), some (.int v), none, none, none]) rfl rfl (Nat.le_of_ble_eq_true rfl) ?_
  refine il1 (n := 1) dX8_judge_0 rfl ?_
  refine qiX8_277 (n := 4) dX8_judge_1 rfl rfl (Nat.le_of_ble_eq_true rfl) (by omega) (c_isSheet (by omega) _) (Nat.le_refl _) (Nat.le_refl _) ?_
  refine k_ifb_ne (t := 13) (n := 7) dX8_judge_4 (by decide) rfl (fun h4_ => ?_) (fun h4_ => ?_)
  · obtain ⟨a, -, ha, rfl⟩ := kbt (a := 0) (b := 3) h4_ (by decide) (by decide)
    have ha4 : a < 4 := by omega
    obtain ⟨s, hs, hs40⟩ := hI a ha4
    have es : (I 88 a).toNatClampNeg = s := by rw [hs]; exact kcl (by omega)
    refine al0 (n := 14) dX8_judge_13 rfl ?_
    refine gX8_57 (n := 17) dX8_judge_14 rfl rfl rfl rfl ?_
    refine il1 (n := 18) dX8_judge_17 rfl ?_
    refine j_aald (j := a) (n := 19) dX8_judge_18 rfl rfl hOS rfl (by omega) (by decide) (hPS ha4) ?_
    refine as2 (n := 20) dX8_judge_19 rfl trivial ?_
    refine al2 (n := 21) dX8_judge_20 rfl ?_
    refine qiX8_280 (n := 24) dX8_judge_21 rfl rfl (Nat.le_of_ble_eq_true rfl) (by omega) (hSs ha4) (c_isMiss ha4) (Nat.le_refl _) (Nat.le_refl _) ?_
    rw [(hS a ha4).1]
    refine k_ifb_eq (t := 33) (n := 27) dX8_judge_24 (by decide) rfl (fun h24 => ?_) (fun h24 => ?_)
    · refine al2 (n := 34) dX8_judge_33 rfl ?_
      refine gX8_283 (n := 37) dX8_judge_34 rfl rfl (hSs ha4) ?_
      refine k_top ((hS a ha4).2.1.trans hs) ?_
      refine al0 (n := 38) dX8_judge_37 rfl ?_
      refine gX8_10 (n := 41) dX8_judge_38 rfl rfl rfl rfl ?_
      refine gX8_73 (n := 44) dX8_judge_41 rfl rfl rfl rfl ?_
      refine gX8_76 (n := 47) dX8_judge_44 rfl rfl (hS0 (Or.inl rfl)) ?_
      refine k_top ((BL.f11 hb).trans hb.c9) ?_
      refine qX8_329 (n := 50) dX8_judge_47 rfl rfl (Nat.le_of_ble_eq_true rfl) (Nat.le_refl _) (Nat.le_refl _) ?_
      rw [mn_nI (by omega) (by omega)]
      refine is3 (n := 51) dX8_judge_50 rfl trivial ?_
      refine k_iconst (a := 0) (n := 52) dX8_judge_51 rfl rfl ?_
      refine is4 (n := 54) dX8_judge_52 rfl trivial ?_
      refine c_judge_l hC hS a ha4 (min c s) (by omega) (by omega) _ (fun i hi hs2 => ?_) (fun hs2 => ?_) (min c s) 0 (by omega) rfl
      · refine kZ.to ?_ (kZ_x hC (FX.rf _))
        simp only [s_judge, es, hb.eM, if_pos h4_, kcl (show a < 1000 by omega), if_neg h24]
        rw [← hs2, if_neg (by rw [hb.c9]; exact fun z => absurd (congrArg Int32.toNatClampNeg z) (by rw [kcl (by omega), kcl (by omega)]; omega))]
      · refine al2 (n := 96) dX8_judge_95 rfl ?_
        refine gX8_283 (n := 99) dX8_judge_96 rfl rfl (hSs ha4) ?_
        refine k_top ((hS a ha4).2.1.trans hs) ?_
        refine al0 (n := 100) dX8_judge_99 rfl ?_
        refine gX8_10 (n := 103) dX8_judge_100 rfl rfl rfl rfl ?_
        refine gX8_73 (n := 106) dX8_judge_103 rfl rfl rfl rfl ?_
        refine gX8_76 (n := 109) dX8_judge_106 rfl rfl (hS0 (Or.inl rfl)) ?_
        refine k_top ((BL.f11 hb).trans hb.c9) ?_
        refine k_icmp_ne (t := 116) (n := 112) dX8_judge_109 (by decide) rfl (fun h109 => ?_) (fun h109 => ?_)
        · have esc : ¬ s = c := fun z => h109 (by rw [z])
          refine il3 (n := 117) dX8_judge_116 rfl ?_
          refine k_ireturn (ty := .int) dX8_judge_117 rfl rfl (Nat.le_refl _) (Nat.le_refl _) ?_
          refine kZ.to ?_ (kZ_x hC (FX.rf _))
          simp only [s_judge, es, hb.eM, if_pos h4_, kcl (show a < 1000 by omega), if_neg h24]
          rw [hs2]
          first
            | rw [if_pos (by rw [hb.c9, esc, Nat.min_self]), if_pos (by rw [hs, esc, Nat.min_self])]
            | (by_cases hm : min c s = c
               · rw [if_pos (by rw [hb.c9, hm]), if_neg (by rw [hs]; exact fun z => absurd (congrArg Int32.toNatClampNeg z) (by rw [kcl (by omega), kcl (by omega)]; omega))]
               · rw [if_neg (by rw [hb.c9]; exact fun z => absurd (congrArg Int32.toNatClampNeg z) (by rw [kcl (by omega), kcl (by omega)]; omega))])
        · have esc : s = c := by
            have z := congrArg Int32.toNatClampNeg h109
            rwa [kcl (by omega), kcl (by omega)] at z
          refine k_iconst (a := (-1)) (n := 113) dX8_judge_112 rfl rfl ?_
          refine k_goto (n := 117) dX8_judge_113 (by decide) ?_
          refine k_ireturn (ty := .int) dX8_judge_117 rfl rfl (Nat.le_refl _) (Nat.le_refl _) ?_
          refine kZ.to ?_ (kZ_x hC (FX.rf _))
          simp only [s_judge, es, hb.eM, if_pos h4_, kcl (show a < 1000 by omega), if_neg h24]
          rw [hs2]
          first
            | rw [if_pos (by rw [hb.c9, esc, Nat.min_self]), if_pos (by rw [hs, esc, Nat.min_self])]
            | (by_cases hm : min c s = c
               · rw [if_pos (by rw [hb.c9, hm]), if_neg (by rw [hs]; exact fun z => absurd (congrArg Int32.toNatClampNeg z) (by rw [kcl (by omega), kcl (by omega)]; omega))]
               · rw [if_neg (by rw [hb.c9]; exact fun z => absurd (congrArg Int32.toNatClampNeg z) (by rw [kcl (by omega), kcl (by omega)]; omega))])
    · refine al0 (n := 28) dX8_judge_27 rfl ?_
      refine k_iconst (a := 2) (n := 29) dX8_judge_28 rfl rfl ?_
      refine qiX8_69 (n := 32) dX8_judge_29 rfl rfl (Nat.le_of_ble_eq_true rfl) (by omega) rfl (c_refuse2 (by omega)) (Nat.le_refl _) (Nat.le_refl _) ?_
      refine k_ireturn (ty := .int) dX8_judge_32 rfl rfl (Nat.le_refl _) (Nat.le_refl _) ?_
      exact kZ.to (by simp only [s_judge, if_pos h4_, kcl (show a < 1000 by omega), if_pos h24]) (kZ_e2 hC (FX.rf _))
  · refine al0 (n := 8) dX8_judge_7 rfl ?_
    refine k_iconst (a := 1) (n := 9) dX8_judge_8 rfl rfl ?_
    refine qiX8_69 (n := 12) dX8_judge_9 rfl rfl (Nat.le_of_ble_eq_true rfl) (by omega) rfl (c_refuse1 (by omega)) (Nat.le_refl _) (Nat.le_refl _) ?_
    refine k_ireturn (ty := .int) dX8_judge_12 rfl rfl (Nat.le_refl _) (Nat.le_refl _) ?_
    exact kZ.to (by simp only [s_judge, if_neg h4_]) (kZ_e1 hC (FX.rf _))
set_option maxHeartbeats 2000000 in
set_option maxRecDepth 20000 in
theorem c_loads_l (hd : 1 ≤ d) (hR : RI r) (hS : SH I) (a : Nat) (ha : a < 4) (e : Nat) (hec : e ≤ c) (Q : Option Value → kM → Prop) (hY : ∀ K i, i = srF (fun i => ¬ (0 ≤ I 89 (40 * a + i) ∧ I 89 (40 * a + i) ≤ 99)) e 0 → BL 8 K (ldR I r a i) c t → FB 8 I K → Q (some (.int (nI i))) (kJ K)) (m : Nat) : ∀ (i : Nat) (J : Nat → Nat → Int32), BL 8 J (ldR I r a i) c t → FB 8 I J → i + m = e → srF (fun i => ¬ (0 ≤ I 89 (40 * a + i) ∧ I 89 (40 * a + i) ≤ 99)) m i = srF (fun i => ¬ (0 ≤ I 89 (40 * a + i) ∧ I 89 (40 * a + i) ≤ 99)) e 0 → Wd E d mX8_loads 0 0 0 0 54 [some (.ref 0), some (.int (nI a)), some (.ref (73 + 2 * a)), some (.int (nI e)), some (.int (nI i))] [] (kJ J) Q := by
  induction m with
  | zero =>
    intro i J hb hf hi hs
    have e0 : i = e := by omega
    subst e0
    refine il4 (n := 56) dX8_loads_54 rfl ?_
    refine il3 (n := 57) dX8_loads_56 rfl ?_
    refine k_icmp_ge (t := 105) (n := 60) dX8_loads_57 (by decide) rfl (fun h57 => ?_) (fun h57 => ?_)
    · refine il4 (n := 107) dX8_loads_105 rfl ?_
      refine k_ireturn (ty := .int) dX8_loads_107 rfl rfl (Nat.le_refl _) (Nat.le_refl _) ?_
      exact hY J i hs hb hf
    · exact absurd (Int32.le_refl _) h57
  | succ m ih =>
    intro i J hb hf hi hs
    have hic : i < c := by omega
    have hc8 := hb.c8
    have hT := (RI_ld (I := I) (a := a) hR i (by omega)).TX
    have hj : ∀ z, z < 40 → J (74 + 2 * a) z = I 89 (40 * a + z) := fun z hz => by rw [hf _ (by omega) (by omega) (by omega) (by omega) (by omega)]; exact (hS a ha).2.2 z hz
    refine il4 (n := 56) dX8_loads_54 rfl ?_
    refine il3 (n := 57) dX8_loads_56 rfl ?_
    refine k_icmp_ge (t := 105) (n := 60) dX8_loads_57 (by decide) rfl (fun h57 => ?_) (fun h57 => ?_)
    · exact absurd h57 (nI_ge (by omega) (by omega))
    · refine al2 (n := 61) dX8_loads_60 rfl ?_
      refine gX8_320 (n := 64) dX8_loads_61 rfl rfl (hSs ha) (hPs ha) ?_
      refine il4 (n := 66) dX8_loads_64 rfl ?_
      refine j_iald (j := i) (n := 67) dX8_loads_66 rfl (hSn ha) rfl (by omega) (by decide) ?_
      refine k_top (hj i (by omega)) ?_
      refine k_iconst (a := 0) (n := 68) dX8_loads_67 rfl rfl ?_
      refine k_bipush (a := 99) (n := 70) dX8_loads_68 rfl rfl ?_
      refine qiX8_65 (n := 73) dX8_loads_70 rfl rfl (Nat.le_of_ble_eq_true rfl) (by omega) (c_within _ _ _) (Nat.le_refl _) (Nat.le_refl _) ?_
      refine k_ifb_eq (t := 105) (n := 76) dX8_loads_73 (by decide) rfl (fun h73 => ?_) (fun h73 => ?_)
      · refine il4 (n := 107) dX8_loads_105 rfl ?_
        refine k_ireturn (ty := .int) dX8_loads_107 rfl rfl (Nat.le_refl _) (Nat.le_refl _) ?_
        exact hY J i (by rw [← hs, srF, if_pos h73]) hb hf
      · refine al0 (n := 77) dX8_loads_76 rfl ?_
        refine gX8_10 (n := 80) dX8_loads_77 rfl rfl rfl rfl ?_
        refine gX8_73 (n := 83) dX8_loads_80 rfl rfl rfl rfl ?_
        refine gX8_139 (n := 86) dX8_loads_83 rfl rfl (hS0 (Or.inl rfl)) (hP4 (Or.inl rfl)) ?_
        refine il4 (n := 88) dX8_loads_86 rfl ?_
        refine j_aald (j := i) (n := 89) dX8_loads_88 rfl (hS3 (Or.inl rfl)) hOC rfl (by omega) (by decide) (hP6 (Or.inl rfl) (by omega)) ?_
        refine al2 (n := 90) dX8_loads_89 rfl ?_
        refine gX8_320 (n := 93) dX8_loads_90 rfl rfl (hSs ha) (hPs ha) ?_
        refine il4 (n := 95) dX8_loads_93 rfl ?_
        refine j_iald (j := i) (n := 96) dX8_loads_95 rfl (hSn ha) rfl (by omega) (by decide) ?_
        refine k_top (hj i (by omega)) ?_
        refine pX8_154 (n := 99) dX8_loads_96 rfl rfl (hS8 (Or.inl rfl) (by omega)) ?_
        refine k_gen (fun I1 e1 => ?_)
        have hb1 := BL.sc hb (Or.inl rfl) hT hic (by decide) e1
        have hT1 := TX.ob hb1 hT (by omega)
        have hf1 := hf.tr (FB.c (by omega) e1)
        refine ii4 (n := 102) dX8_loads_99 rfl (ki1 _) trivial ?_
        rw [nI_1]
        refine k_goto (n := 54) dX8_loads_102 (by decide) ?_
        exact ih (i + 1) I1 hb1 hf1 (by omega) (by rw [← hs, srF, if_neg (fun z => z h73)])
theorem RO.ld {a n : Nat} (hn : n ≤ 8) : RO (ldR I r a n) r := by
  induction n with
  | zero => exact RO.rf _
  | succ n ih => exact RO.u (ih (by omega)) (by omega)
set_option maxHeartbeats 2000000 in
set_option maxRecDepth 20000 in
theorem c_loads (hd : 2 ≤ d) (hC : CR I r c t) (hR : RI r) (hX : RX r) (v : Int32) (hS : SH I) (hI : SI I) : Ct E d mX8_loads 0 0 [.ref 0, .int v] (kJ I) (kZ I (s_loads I r v)) := by
  have hb := hC.bl
  have hT := hR.TX
  have h8 := hb.c8
  have h4 := hb.t4
  refine Ct.of (L := [some (.ref 0), some (.int v), none, none, none]) rfl rfl (Nat.le_of_ble_eq_true rfl) ?_
  refine il1 (n := 1) dX8_loads_0 rfl ?_
  refine qiX8_277 (n := 4) dX8_loads_1 rfl rfl (Nat.le_of_ble_eq_true rfl) (by omega) (c_isSheet (by omega) _) (Nat.le_refl _) (Nat.le_refl _) ?_
  refine k_ifb_ne (t := 13) (n := 7) dX8_loads_4 (by decide) rfl (fun h4_ => ?_) (fun h4_ => ?_)
  · obtain ⟨a, -, ha, rfl⟩ := kbt (a := 0) (b := 3) h4_ (by decide) (by decide)
    have ha4 : a < 4 := by omega
    obtain ⟨s, hs, hs40⟩ := hI a ha4
    have es : (I 88 a).toNatClampNeg = s := by rw [hs]; exact kcl (by omega)
    refine al0 (n := 14) dX8_loads_13 rfl ?_
    refine gX8_57 (n := 17) dX8_loads_14 rfl rfl rfl rfl ?_
    refine il1 (n := 18) dX8_loads_17 rfl ?_
    refine j_aald (j := a) (n := 19) dX8_loads_18 rfl rfl hOS rfl (by omega) (by decide) (hPS ha4) ?_
    refine as2 (n := 20) dX8_loads_19 rfl trivial ?_
    refine al2 (n := 21) dX8_loads_20 rfl ?_
    refine qiX8_280 (n := 24) dX8_loads_21 rfl rfl (Nat.le_of_ble_eq_true rfl) (by omega) (hSs ha4) (c_isMiss ha4) (Nat.le_refl _) (Nat.le_refl _) ?_
    rw [(hS a ha4).1]
    refine k_ifb_eq (t := 33) (n := 27) dX8_loads_24 (by decide) rfl (fun h24 => ?_) (fun h24 => ?_)
    · refine al2 (n := 34) dX8_loads_33 rfl ?_
      refine gX8_283 (n := 37) dX8_loads_34 rfl rfl (hSs ha4) ?_
      refine k_top ((hS a ha4).2.1.trans hs) ?_
      refine al0 (n := 38) dX8_loads_37 rfl ?_
      refine gX8_10 (n := 41) dX8_loads_38 rfl rfl rfl rfl ?_
      refine gX8_73 (n := 44) dX8_loads_41 rfl rfl rfl rfl ?_
      refine gX8_76 (n := 47) dX8_loads_44 rfl rfl (hS0 (Or.inl rfl)) ?_
      refine k_top ((BL.f11 hb).trans hb.c9) ?_
      refine qX8_329 (n := 50) dX8_loads_47 rfl rfl (Nat.le_of_ble_eq_true rfl) (Nat.le_refl _) (Nat.le_refl _) ?_
      rw [mn_nI (by omega) (by omega)]
      refine is3 (n := 51) dX8_loads_50 rfl trivial ?_
      refine k_iconst (a := 0) (n := 52) dX8_loads_51 rfl rfl ?_
      refine is4 (n := 54) dX8_loads_52 rfl trivial ?_
      refine c_loads_l (by omega) hR hS a ha4 (min c s) (by omega) _ (fun K i hi hK hf => ?_) (min c s) 0 I hb (FB.rf _ _) (by omega) rfl
      refine kZ.to ?_ (kZ_x (hC.bd hK hf (RO.ld (by have := srF_le (fun i => ¬ (0 ≤ I 89 (40 * a + i) ∧ I 89 (40 * a + i) ≤ 99)) (min c s) 0; omega))) (FX.bd hf))
      simp only [s_loads, es, hb.eM, if_pos h4_, kcl (show a < 1000 by omega), if_neg h24]
      rw [show ldN I a (min c s) 0 = i from hi.symm]
    · refine al0 (n := 28) dX8_loads_27 rfl ?_
      refine k_iconst (a := 2) (n := 29) dX8_loads_28 rfl rfl ?_
      refine qiX8_69 (n := 32) dX8_loads_29 rfl rfl (Nat.le_of_ble_eq_true rfl) (by omega) rfl (c_refuse2 (by omega)) (Nat.le_refl _) (Nat.le_refl _) ?_
      refine k_ireturn (ty := .int) dX8_loads_32 rfl rfl (Nat.le_refl _) (Nat.le_refl _) ?_
      exact kZ.to (by simp only [s_loads, if_pos h4_, kcl (show a < 1000 by omega), if_pos h24]) (kZ_e2 hC (FX.rf _))
  · refine al0 (n := 8) dX8_loads_7 rfl ?_
    refine k_iconst (a := 1) (n := 9) dX8_loads_8 rfl rfl ?_
    refine qiX8_69 (n := 12) dX8_loads_9 rfl rfl (Nat.le_of_ble_eq_true rfl) (by omega) rfl (c_refuse1 (by omega)) (Nat.le_refl _) (Nat.le_refl _) ?_
    refine k_ireturn (ty := .int) dX8_loads_12 rfl rfl (Nat.le_refl _) (Nat.le_refl _) ?_
    exact kZ.to (by simp only [s_loads, if_neg h4_]) (kZ_e1 hC (FX.rf _))
end C12

section C1
variable {E : kE} {d : Nat} {I : Nat → Nat → Int32} {r : Nat → Int32}
theorem pc_eq : ∀ k, k < 256 → (let i : Int32 := nI k; let sh := fun (a b : Int32) => (a.toUInt32 >>> (b.toUInt32 &&& Int32.toUInt32 31)).toInt32; let i1 := i - (sh i 1 &&& 1431655765); let i2 := (i1 &&& 858993459) + (sh i1 2 &&& 858993459); let i3 := (i2 + sh i2 4) &&& 252645135; let i4 := i3 + sh i3 8; let i5 := i4 + sh i4 16; i5 &&& 63) = nI (pcN k) := by decide +kernel
set_option maxHeartbeats 2000000 in
set_option maxRecDepth 20000 in
theorem j_bits (k : Nat) (hk : k < 256) : Ct E d mJ6_bitCount_0f7a4 0 0 [.int (nI k)] (kJ I) (kR (nI (pcN k)) I) := by
  refine Ct.of (L := [some (.int (nI k))]) rfl rfl (Nat.le_of_ble_eq_true rfl) ?_
  refine il0 (n := 1) dJ6_bitCount_0f7a4_0 rfl ?_
  refine il0 (n := 2) dJ6_bitCount_0f7a4_1 rfl ?_
  refine k_iconst (a := 1) (n := 3) dJ6_bitCount_0f7a4_2 rfl rfl ?_
  refine k_iushr (n := 4) dJ6_bitCount_0f7a4_3 rfl ?_
  refine cwJ6_265 (n := 7) dJ6_bitCount_0f7a4_4 rfl rfl ?_
  refine k_iand (n := 8) dJ6_bitCount_0f7a4_7 rfl ?_
  refine k_isub (n := 9) dJ6_bitCount_0f7a4_8 rfl ?_
  refine is0 (n := 10) dJ6_bitCount_0f7a4_9 rfl ?_
  refine il0 (n := 11) dJ6_bitCount_0f7a4_10 rfl ?_
  refine cwJ6_266 (n := 14) dJ6_bitCount_0f7a4_11 rfl rfl ?_
  refine k_iand (n := 15) dJ6_bitCount_0f7a4_14 rfl ?_
  refine il0 (n := 16) dJ6_bitCount_0f7a4_15 rfl ?_
  refine k_iconst (a := 2) (n := 17) dJ6_bitCount_0f7a4_16 rfl rfl ?_
  refine k_iushr (n := 18) dJ6_bitCount_0f7a4_17 rfl ?_
  refine cwJ6_266 (n := 21) dJ6_bitCount_0f7a4_18 rfl rfl ?_
  refine k_iand (n := 22) dJ6_bitCount_0f7a4_21 rfl ?_
  refine k_iadd (n := 23) dJ6_bitCount_0f7a4_22 rfl ?_
  refine is0 (n := 24) dJ6_bitCount_0f7a4_23 rfl ?_
  refine il0 (n := 25) dJ6_bitCount_0f7a4_24 rfl ?_
  refine il0 (n := 26) dJ6_bitCount_0f7a4_25 rfl ?_
  refine k_iconst (a := 4) (n := 27) dJ6_bitCount_0f7a4_26 rfl rfl ?_
  refine k_iushr (n := 28) dJ6_bitCount_0f7a4_27 rfl ?_
  refine k_iadd (n := 29) dJ6_bitCount_0f7a4_28 rfl ?_
  refine cwJ6_267 (n := 32) dJ6_bitCount_0f7a4_29 rfl rfl ?_
  refine k_iand (n := 33) dJ6_bitCount_0f7a4_32 rfl ?_
  refine is0 (n := 34) dJ6_bitCount_0f7a4_33 rfl ?_
  refine il0 (n := 35) dJ6_bitCount_0f7a4_34 rfl ?_
  refine il0 (n := 36) dJ6_bitCount_0f7a4_35 rfl ?_
  refine k_bipush (a := 8) (n := 38) dJ6_bitCount_0f7a4_36 rfl rfl ?_
  refine k_iushr (n := 39) dJ6_bitCount_0f7a4_38 rfl ?_
  refine k_iadd (n := 40) dJ6_bitCount_0f7a4_39 rfl ?_
  refine is0 (n := 41) dJ6_bitCount_0f7a4_40 rfl ?_
  refine il0 (n := 42) dJ6_bitCount_0f7a4_41 rfl ?_
  refine il0 (n := 43) dJ6_bitCount_0f7a4_42 rfl ?_
  refine k_bipush (a := 16) (n := 45) dJ6_bitCount_0f7a4_43 rfl rfl ?_
  refine k_iushr (n := 46) dJ6_bitCount_0f7a4_45 rfl ?_
  refine k_iadd (n := 47) dJ6_bitCount_0f7a4_46 rfl ?_
  refine is0 (n := 48) dJ6_bitCount_0f7a4_47 rfl ?_
  refine il0 (n := 49) dJ6_bitCount_0f7a4_48 rfl ?_
  refine k_bipush (a := 63) (n := 51) dJ6_bitCount_0f7a4_49 rfl rfl ?_
  refine k_iand (n := 52) dJ6_bitCount_0f7a4_51 rfl ?_
  refine k_ireturn (ty := .int) dJ6_bitCount_0f7a4_52 rfl rfl (Nat.le_refl _) (Nat.le_refl _) ?_
  exact ⟨congrArg (fun z => some (Value.int z)) (pc_eq k hk), rfl⟩
theorem kj1 {x y : Int32} (h : x = 0) : 0 = kb (¬ x = 0 ∧ ¬ y = 0) := (kb_f (fun q => q.1 h)).symm
theorem kj2 {x y : Int32} (h : y = 0) : 0 = kb (¬ x = 0 ∧ ¬ y = 0) := (kb_f (fun q => q.2 h)).symm
theorem kj3 {x y : Int32} (h : x = 0) (g : y = 0) : 0 = kb (¬ x = 0 ∨ ¬ y = 0) := (kb_f (fun q => q.elim (fun a => a h) (fun a => a g))).symm
theorem kJn {a b : Int32} (h : a = b) : kR b I (some (.int a)) (kJ I) := ⟨by rw [h], rfl⟩
set_option maxHeartbeats 2000000 in
set_option maxRecDepth 20000 in
theorem c_joined (x y : Int32) (s : Nat) (hs : s = 37 ∨ s = 38 ∨ s = 42 ∨ s = 43 ∨ s = 45 ∨ s = 47 ∨ s = 60 ∨ s = 61 ∨ s = 62 ∨ s = 124) : Ct E d mX3_joined 0 0 [.int (nI s), .int x, .int y] (kJ I) (kR (jnF (nI s) x y) I) := by
  refine Ct.of (L := [some (.int (nI s)), some (.int x), some (.int y)]) rfl rfl (Nat.le_of_ble_eq_true rfl) ?_
  refine il0 (n := 1) dX3_joined_0 rfl ?_
  rcases (show s = 37 ∨ s = 38 ∨ s = 42 ∨ s = 43 ∨ s = 45 ∨ s = 47 ∨ s = 60 ∨ s = 61 ∨ s = 62 ∨ s = 124 by omega) with rfl | rfl | rfl | rfl | rfl | rfl | rfl | rfl | rfl | rfl
  · refine k_lookup (t := 169) (off := 168) dX3_joined_1 (by decide) (by decide) (by decide) ?_
    refine il2 (n := 170) dX3_joined_169 rfl ?_
    refine k_if_ne (t := 177) (n := 173) dX3_joined_170 (by decide) rfl (fun h170 => ?_) (fun h170 => ?_)
    · refine il1 (n := 178) dX3_joined_177 rfl ?_
      refine il2 (n := 179) dX3_joined_178 rfl ?_
      refine k_irem (n := 180) dX3_joined_179 rfl h170 ?_
      refine k_ireturn (ty := .int) dX3_joined_180 rfl rfl (Nat.le_refl _) (Nat.le_refl _) ?_
      refine kJn ?_
      first
        | exact (if_pos h170).symm
        | exact (if_neg h170).symm
    · refine k_iconst (a := 0) (n := 174) dX3_joined_173 rfl rfl ?_
      refine k_goto (n := 180) dX3_joined_174 (by decide) ?_
      refine k_ireturn (ty := .int) dX3_joined_180 rfl rfl (Nat.le_refl _) (Nat.le_refl _) ?_
      refine kJn ?_
      first
        | exact (if_pos h170).symm
        | exact (if_neg h170).symm
  · refine k_lookup (t := 98) (off := 97) dX3_joined_1 (by decide) (by decide) (by decide) ?_
    refine il1 (n := 99) dX3_joined_98 rfl ?_
    refine k_if_eq (t := 110) (n := 102) dX3_joined_99 (by decide) rfl (fun h99 => ?_) (fun h99 => ?_)
    · refine k_iconst (a := 0) (n := 111) dX3_joined_110 rfl rfl ?_
      refine k_ireturn (ty := .int) dX3_joined_111 rfl rfl (Nat.le_refl _) (Nat.le_refl _) ?_
      refine kJn ?_
      first
        | exact (kb_t ⟨h99, h103⟩).symm
        | exact kj1 h99
        | exact kj2 h103
    · refine il2 (n := 103) dX3_joined_102 rfl ?_
      refine k_if_eq (t := 110) (n := 106) dX3_joined_103 (by decide) rfl (fun h103 => ?_) (fun h103 => ?_)
      · refine k_iconst (a := 0) (n := 111) dX3_joined_110 rfl rfl ?_
        refine k_ireturn (ty := .int) dX3_joined_111 rfl rfl (Nat.le_refl _) (Nat.le_refl _) ?_
        refine kJn ?_
        first
          | exact (kb_t ⟨h99, h103⟩).symm
          | exact kj1 h99
          | exact kj2 h103
      · refine k_iconst (a := 1) (n := 107) dX3_joined_106 rfl rfl ?_
        refine k_goto (n := 111) dX3_joined_107 (by decide) ?_
        refine k_ireturn (ty := .int) dX3_joined_111 rfl rfl (Nat.le_refl _) (Nat.le_refl _) ?_
        refine kJn ?_
        first
          | exact (kb_t ⟨h99, h103⟩).symm
          | exact kj1 h99
          | exact kj2 h103
  · refine k_lookup (t := 153) (off := 152) dX3_joined_1 (by decide) (by decide) (by decide) ?_
    refine il1 (n := 154) dX3_joined_153 rfl ?_
    refine il2 (n := 155) dX3_joined_154 rfl ?_
    refine k_imul (n := 156) dX3_joined_155 rfl ?_
    refine k_ireturn (ty := .int) dX3_joined_156 rfl rfl (Nat.le_refl _) (Nat.le_refl _) ?_
    exact ⟨rfl, rfl⟩
  · refine k_lookup (t := 145) (off := 144) dX3_joined_1 (by decide) (by decide) (by decide) ?_
    refine il1 (n := 146) dX3_joined_145 rfl ?_
    refine il2 (n := 147) dX3_joined_146 rfl ?_
    refine k_iadd (n := 148) dX3_joined_147 rfl ?_
    refine k_ireturn (ty := .int) dX3_joined_148 rfl rfl (Nat.le_refl _) (Nat.le_refl _) ?_
    exact ⟨rfl, rfl⟩
  · refine k_lookup (t := 149) (off := 148) dX3_joined_1 (by decide) (by decide) (by decide) ?_
    refine il1 (n := 150) dX3_joined_149 rfl ?_
    refine il2 (n := 151) dX3_joined_150 rfl ?_
    refine k_isub (n := 152) dX3_joined_151 rfl ?_
    refine k_ireturn (ty := .int) dX3_joined_152 rfl rfl (Nat.le_refl _) (Nat.le_refl _) ?_
    exact ⟨rfl, rfl⟩
  · refine k_lookup (t := 157) (off := 156) dX3_joined_1 (by decide) (by decide) (by decide) ?_
    refine il2 (n := 158) dX3_joined_157 rfl ?_
    refine k_if_ne (t := 165) (n := 161) dX3_joined_158 (by decide) rfl (fun h158 => ?_) (fun h158 => ?_)
    · refine il1 (n := 166) dX3_joined_165 rfl ?_
      refine il2 (n := 167) dX3_joined_166 rfl ?_
      refine k_idiv (n := 168) dX3_joined_167 rfl h158 ?_
      refine k_ireturn (ty := .int) dX3_joined_168 rfl rfl (Nat.le_refl _) (Nat.le_refl _) ?_
      refine kJn ?_
      first
        | exact (if_pos h158).symm
        | exact (if_neg h158).symm
    · refine k_iconst (a := 0) (n := 162) dX3_joined_161 rfl rfl ?_
      refine k_goto (n := 168) dX3_joined_162 (by decide) ?_
      refine k_ireturn (ty := .int) dX3_joined_168 rfl rfl (Nat.le_refl _) (Nat.le_refl _) ?_
      refine kJn ?_
      first
        | exact (if_pos h158).symm
        | exact (if_neg h158).symm
  · refine k_lookup (t := 112) (off := 111) dX3_joined_1 (by decide) (by decide) (by decide) ?_
    refine il1 (n := 113) dX3_joined_112 rfl ?_
    refine il2 (n := 114) dX3_joined_113 rfl ?_
    refine k_icmp_ge (t := 121) (n := 117) dX3_joined_114 (by decide) rfl (fun h114 => ?_) (fun h114 => ?_)
    · refine k_iconst (a := 0) (n := 122) dX3_joined_121 rfl rfl ?_
      refine k_ireturn (ty := .int) dX3_joined_122 rfl rfl (Nat.le_refl _) (Nat.le_refl _) ?_
      refine kJn ?_
      first
        | exact (kb_f (Int32.not_lt.mpr h114)).symm
        | exact (kb_t (Int32.not_le.mp h114)).symm
    · refine k_iconst (a := 1) (n := 118) dX3_joined_117 rfl rfl ?_
      refine k_goto (n := 122) dX3_joined_118 (by decide) ?_
      refine k_ireturn (ty := .int) dX3_joined_122 rfl rfl (Nat.le_refl _) (Nat.le_refl _) ?_
      refine kJn ?_
      first
        | exact (kb_f (Int32.not_lt.mpr h114)).symm
        | exact (kb_t (Int32.not_le.mp h114)).symm
  · refine k_lookup (t := 123) (off := 122) dX3_joined_1 (by decide) (by decide) (by decide) ?_
    refine il1 (n := 124) dX3_joined_123 rfl ?_
    refine il2 (n := 125) dX3_joined_124 rfl ?_
    refine k_icmp_ne (t := 132) (n := 128) dX3_joined_125 (by decide) rfl (fun h125 => ?_) (fun h125 => ?_)
    · refine k_iconst (a := 0) (n := 133) dX3_joined_132 rfl rfl ?_
      refine k_ireturn (ty := .int) dX3_joined_133 rfl rfl (Nat.le_refl _) (Nat.le_refl _) ?_
      refine kJn ?_
      first
        | exact (kb_t h125).symm
        | exact (kb_f h125).symm
    · refine k_iconst (a := 1) (n := 129) dX3_joined_128 rfl rfl ?_
      refine k_goto (n := 133) dX3_joined_129 (by decide) ?_
      refine k_ireturn (ty := .int) dX3_joined_133 rfl rfl (Nat.le_refl _) (Nat.le_refl _) ?_
      refine kJn ?_
      first
        | exact (kb_t h125).symm
        | exact (kb_f h125).symm
  · refine k_lookup (t := 134) (off := 133) dX3_joined_1 (by decide) (by decide) (by decide) ?_
    refine il1 (n := 135) dX3_joined_134 rfl ?_
    refine il2 (n := 136) dX3_joined_135 rfl ?_
    refine k_icmp_le (t := 143) (n := 139) dX3_joined_136 (by decide) rfl (fun h136 => ?_) (fun h136 => ?_)
    · refine k_iconst (a := 0) (n := 144) dX3_joined_143 rfl rfl ?_
      refine k_ireturn (ty := .int) dX3_joined_144 rfl rfl (Nat.le_refl _) (Nat.le_refl _) ?_
      refine kJn ?_
      first
        | exact (kb_f (Int32.not_lt.mpr h136)).symm
        | exact (kb_t (Int32.not_le.mp h136)).symm
    · refine k_iconst (a := 1) (n := 140) dX3_joined_139 rfl rfl ?_
      refine k_goto (n := 144) dX3_joined_140 (by decide) ?_
      refine k_ireturn (ty := .int) dX3_joined_144 rfl rfl (Nat.le_refl _) (Nat.le_refl _) ?_
      refine kJn ?_
      first
        | exact (kb_f (Int32.not_lt.mpr h136)).symm
        | exact (kb_t (Int32.not_le.mp h136)).symm
  · refine k_lookup (t := 84) (off := 83) dX3_joined_1 (by decide) (by decide) (by decide) ?_
    refine il1 (n := 85) dX3_joined_84 rfl ?_
    refine k_if_ne (t := 92) (n := 88) dX3_joined_85 (by decide) rfl (fun h85 => ?_) (fun h85 => ?_)
    · refine k_iconst (a := 1) (n := 93) dX3_joined_92 rfl rfl ?_
      refine k_goto (n := 97) dX3_joined_93 (by decide) ?_
      refine k_ireturn (ty := .int) dX3_joined_97 rfl rfl (Nat.le_refl _) (Nat.le_refl _) ?_
      refine kJn ?_
      first
        | exact (kb_t (Or.inl h85)).symm
        | exact (kb_t (Or.inr h89)).symm
        | exact kj3 h85 h89
    · refine il2 (n := 89) dX3_joined_88 rfl ?_
      refine k_if_eq (t := 96) (n := 92) dX3_joined_89 (by decide) rfl (fun h89 => ?_) (fun h89 => ?_)
      · refine k_iconst (a := 0) (n := 97) dX3_joined_96 rfl rfl ?_
        refine k_ireturn (ty := .int) dX3_joined_97 rfl rfl (Nat.le_refl _) (Nat.le_refl _) ?_
        refine kJn ?_
        first
          | exact (kb_t (Or.inl h85)).symm
          | exact (kb_t (Or.inr h89)).symm
          | exact kj3 h85 h89
      · refine k_iconst (a := 1) (n := 93) dX3_joined_92 rfl rfl ?_
        refine k_goto (n := 97) dX3_joined_93 (by decide) ?_
        refine k_ireturn (ty := .int) dX3_joined_97 rfl rfl (Nat.le_refl _) (Nat.le_refl _) ?_
        refine kJn ?_
        first
          | exact (kb_t (Or.inl h85)).symm
          | exact (kb_t (Or.inr h89)).symm
          | exact kj3 h85 h89
theorem run_top (g : Nat → Int32) (a b c : Int32) (s : Nat → Int32) : ∀ n, (runF g a b c (s, 0) n).2 ≤ n
  | 0 => Nat.le_refl _
  | n + 1 => by
    have := run_top g a b c s n
    rw [runF]
    unfold stpF
    repeat' split
    all_goals (try dsimp only)
    all_goals omega
set_option maxHeartbeats 2000000 in
set_option maxRecDepth 20000 in
theorem c_gives_l {A C S : Nat} (hd : 1 ≤ d) (hA : SS[A]? = some (3, 5)) (hC : SS[C]? = some (100, 50)) (hS : SS[S]? = some (100, 50)) (h0 : PP A 0 = some C) (h1 : PP A 1 = some S) (hAS : A ≠ S) (hCS : C ≠ S) (a b c : Int32) (n : Nat) (hn : I A 4 = nI n) (h50 : n ≤ 50) (hok : ∀ i, i < n → okI (I C i)) (Q : Option Value → kM → Prop) (hQ : ∀ x6, Wd E d mX3_gives 0 0 0 0 174 [some (.ref A), some (.int a), some (.int b), some (.int c), some (.int (nI (runF (I C) a b c (I S, 0) n).2)), some (.int (nI n)), x6] [] (kJ (kset I S (runF (I C) a b c (I S, 0) n).1)) Q) (m : Nat) : ∀ (i : Nat) (x6 : Option Value), i + m = n → Wd E d mX3_gives 0 0 0 0 6 [some (.ref A), some (.int a), some (.int b), some (.int c), some (.int (nI (runF (I C) a b c (I S, 0) i).2)), some (.int (nI i)), x6] [] (kJ (kset I S (runF (I C) a b c (I S, 0) i).1)) Q := by
  induction m with
  | zero =>
    intro i x6 hi
    have e : i = n := by omega
    subst e
    refine il5 (n := 8) dX3_gives_6 rfl ?_
    refine al0 (n := 9) dX3_gives_8 rfl ?_
    refine gX3_35 (n := 12) dX3_gives_9 rfl rfl hA ?_
    refine k_top ((congrFun (kset_ne I _ hAS) 4).trans hn) ?_
    refine k_icmp_ge (t := 174) (n := 15) dX3_gives_12 (by decide) rfl (fun h12 => ?_) (fun h12 => ?_)
    · exact hQ x6
    · exact absurd (Int32.le_refl _) h12
  | succ m ih =>
    intro i x6 hi
    have htp := run_top (I C) a b c (I S) i
    refine il5 (n := 8) dX3_gives_6 rfl ?_
    refine al0 (n := 9) dX3_gives_8 rfl ?_
    refine gX3_35 (n := 12) dX3_gives_9 rfl rfl hA ?_
    refine k_top ((congrFun (kset_ne I _ hAS) 4).trans hn) ?_
    refine k_icmp_ge (t := 174) (n := 15) dX3_gives_12 (by decide) rfl (fun h12 => ?_) (fun h12 => ?_)
    · exact absurd h12 (nI_ge (by omega) (by omega))
    · refine al0 (n := 16) dX3_gives_15 rfl ?_
      refine gX3_9 (n := 19) dX3_gives_16 rfl rfl hA h0 ?_
      refine il5 (n := 21) dX3_gives_19 rfl ?_
      refine j_iald (j := i) (n := 22) dX3_gives_21 rfl hC rfl (by omega) (by decide) ?_
      refine k_top (congrFun (kset_ne I _ hCS) i) ?_
      refine is6 (n := 24) dX3_gives_22 rfl trivial ?_
      refine il6 (n := 26) dX3_gives_24 rfl ?_
      refine k_bipush (a := (-3)) (n := 28) dX3_gives_26 rfl rfl ?_
      refine k_icmp_lt (t := 86) (n := 31) dX3_gives_28 (by decide) rfl (fun h28 => ?_) (fun h28 => ?_)
      · have hlo : ¬ -3 ≤ I C i := Int32.not_le.mpr h28
        refine il6 (n := 88) dX3_gives_86 rfl ?_
        refine k_bipush (a := (-33)) (n := 90) dX3_gives_88 rfl rfl ?_
        refine k_icmp_ne (t := 128) (n := 93) dX3_gives_90 (by decide) rfl (fun h90 => ?_) (fun h90 => ?_)
        · refine il4 (n := 130) dX3_gives_128 rfl ?_
          refine k_iconst (a := 2) (n := 131) dX3_gives_130 rfl rfl ?_
          refine k_icmp_lt (t := 168) (n := 134) dX3_gives_131 (by decide) rfl (fun h131 => ?_) (fun h131 => ?_)
          · have ht2 : ¬ 2 ≤ (runF (I C) a b c (I S, 0) i).2 := fun q => absurd h131 (nI_nlt q (by omega))
            refine ii5 (n := 171) dX3_gives_168 rfl (ki1 _) trivial ?_
            rw [nI_1]
            refine k_goto (n := 6) dX3_gives_171 (by decide) ?_
            have h := ih (i + 1) (some (.int (I C i))) (by omega)
            first
              | (rw [show runF (I C) a b c (I S, 0) (i + 1) = (upd (runF (I C) a b c (I S, 0) i).1 (runF (I C) a b c (I S, 0) i).2 (if 0 ≤ I C i then I C i else if I C i = -1 then a else if I C i = -2 then b else c), (runF (I C) a b c (I S, 0) i).2 + 1) from by rw [runF]; unfold stpF; exact if_pos ⟨Int32.not_lt.mp h28, htop⟩] at h
                 first
                   | (rw [if_pos (Int32.not_lt.mp h49)] at h; exact h)
                   | (rw [if_neg (Int32.not_le.mpr h49), if_pos h60] at h; exact h)
                   | (rw [if_neg (Int32.not_le.mpr h49), if_neg h60, if_pos h71] at h; exact h)
                   | (rw [if_neg (Int32.not_le.mpr h49), if_neg h60, if_neg h71] at h; exact h))
              | (rw [show runF (I C) a b c (I S, 0) (i + 1) = (upd (runF (I C) a b c (I S, 0) i).1 ((runF (I C) a b c (I S, 0) i).2 - 1) (kb ((runF (I C) a b c (I S, 0) i).1 ((runF (I C) a b c (I S, 0) i).2 - 1) = 0)), (runF (I C) a b c (I S, 0) i).2) from by rw [runF]; unfold stpF; rw [if_neg (fun q => hlo q.1)]; exact if_pos ⟨h90, ht1⟩] at h
                 first
                   | (rw [kb_t h116] at h; exact h)
                   | (rw [kb_f h116] at h; exact h))
              | (rw [show runF (I C) a b c (I S, 0) (i + 1) = (upd (runF (I C) a b c (I S, 0) i).1 ((runF (I C) a b c (I S, 0) i).2 - 2) (jnF (-(I C i)) ((runF (I C) a b c (I S, 0) i).1 ((runF (I C) a b c (I S, 0) i).2 - 2)) ((runF (I C) a b c (I S, 0) i).1 ((runF (I C) a b c (I S, 0) i).2 - 1))), (runF (I C) a b c (I S, 0) i).2 - 1) from by rw [runF]; unfold stpF; rw [if_neg (fun q => hlo q.1), if_neg (fun q => by first | exact h90 q.1 | exact ht1 q.2)]; exact if_pos ht2, hsg] at h
                 exact h)
              | (rw [show runF (I C) a b c (I S, 0) (i + 1) = runF (I C) a b c (I S, 0) i from by rw [runF]; unfold stpF; rw [if_neg (fun q => hlo q.1), if_neg (fun q => by first | exact h90 q.1 | exact ht1 q.2)]; exact if_neg ht2] at h
                 exact h)
          · have ht2 : 2 ≤ (runF (I C) a b c (I S, 0) i).2 := Nat.le_of_not_lt fun q => h131 (nI_lt q (by decide))
            refine ii4 (n := 137) dX3_gives_134 rfl (kim1 _) trivial ?_
            rw [show nI (runF (I C) a b c (I S, 0) i).2 + -1 = nI ((runF (I C) a b c (I S, 0) i).2 - 1) by rw [← xm1]; exact pk_sub (b := 1) (by omega)]
            refine al0 (n := 138) dX3_gives_137 rfl ?_
            refine gX3_15 (n := 141) dX3_gives_138 rfl rfl hA h1 ?_
            refine il4 (n := 143) dX3_gives_141 rfl ?_
            refine k_iconst (a := 1) (n := 144) dX3_gives_143 rfl rfl ?_
            refine k_isub (n := 145) dX3_gives_144 rfl ?_
            rw [show nI ((runF (I C) a b c (I S, 0) i).2 - 1) - 1 = nI ((runF (I C) a b c (I S, 0) i).2 - 2) from (pk_sub (b := 1) (by omega)).trans (by rw [Nat.sub_sub])]
            refine il6 (n := 147) dX3_gives_145 rfl ?_
            refine k_ineg (n := 148) dX3_gives_147 rfl ?_
            refine al0 (n := 149) dX3_gives_148 rfl ?_
            refine gX3_15 (n := 152) dX3_gives_149 rfl rfl hA h1 ?_
            refine il4 (n := 154) dX3_gives_152 rfl ?_
            refine k_iconst (a := 1) (n := 155) dX3_gives_154 rfl rfl ?_
            refine k_isub (n := 156) dX3_gives_155 rfl ?_
            rw [show nI ((runF (I C) a b c (I S, 0) i).2 - 1) - 1 = nI ((runF (I C) a b c (I S, 0) i).2 - 2) from (pk_sub (b := 1) (by omega)).trans (by rw [Nat.sub_sub])]
            refine js_iald (j := (runF (I C) a b c (I S, 0) i).2 - 2) (n := 157) dX3_gives_156 rfl hS rfl (by omega) (by decide) ?_
            refine al0 (n := 158) dX3_gives_157 rfl ?_
            refine gX3_15 (n := 161) dX3_gives_158 rfl rfl hA h1 ?_
            refine il4 (n := 163) dX3_gives_161 rfl ?_
            refine js_iald (j := (runF (I C) a b c (I S, 0) i).2 - 1) (n := 164) dX3_gives_163 rfl hS rfl (by omega) (by decide) ?_
            have hsg : ∃ s, -(I C i) = nI s ∧ (s = 37 ∨ s = 38 ∨ s = 42 ∨ s = 43 ∨ s = 45 ∨ s = 47 ∨ s = 60 ∨ s = 61 ∨ s = 62 ∨ s = 124) := (hok i (by omega)).elim (fun q => absurd q hlo) (fun q => q.elim (fun q => by first | exact absurd q h90 | exact absurd (Nat.le_trans (by decide) ht2) ht1) id)
            obtain ⟨sg, hsg, hsg2⟩ := hsg
            rw [hsg]
            refine qiX3_44 (n := 167) dX3_gives_164 rfl rfl (Nat.le_of_ble_eq_true rfl) (by omega) (c_joined _ _ sg hsg2) (Nat.le_refl _) (Nat.le_refl _) ?_
            refine js_iast (j := (runF (I C) a b c (I S, 0) i).2 - 2) (n := 168) dX3_gives_167 rfl hS rfl (by omega) (by decide) ?_
            refine ii5 (n := 171) dX3_gives_168 rfl (ki1 _) trivial ?_
            rw [nI_1]
            refine k_goto (n := 6) dX3_gives_171 (by decide) ?_
            have h := ih (i + 1) (some (.int (I C i))) (by omega)
            first
              | (rw [show runF (I C) a b c (I S, 0) (i + 1) = (upd (runF (I C) a b c (I S, 0) i).1 (runF (I C) a b c (I S, 0) i).2 (if 0 ≤ I C i then I C i else if I C i = -1 then a else if I C i = -2 then b else c), (runF (I C) a b c (I S, 0) i).2 + 1) from by rw [runF]; unfold stpF; exact if_pos ⟨Int32.not_lt.mp h28, htop⟩] at h
                 first
                   | (rw [if_pos (Int32.not_lt.mp h49)] at h; exact h)
                   | (rw [if_neg (Int32.not_le.mpr h49), if_pos h60] at h; exact h)
                   | (rw [if_neg (Int32.not_le.mpr h49), if_neg h60, if_pos h71] at h; exact h)
                   | (rw [if_neg (Int32.not_le.mpr h49), if_neg h60, if_neg h71] at h; exact h))
              | (rw [show runF (I C) a b c (I S, 0) (i + 1) = (upd (runF (I C) a b c (I S, 0) i).1 ((runF (I C) a b c (I S, 0) i).2 - 1) (kb ((runF (I C) a b c (I S, 0) i).1 ((runF (I C) a b c (I S, 0) i).2 - 1) = 0)), (runF (I C) a b c (I S, 0) i).2) from by rw [runF]; unfold stpF; rw [if_neg (fun q => hlo q.1)]; exact if_pos ⟨h90, ht1⟩] at h
                 first
                   | (rw [kb_t h116] at h; exact h)
                   | (rw [kb_f h116] at h; exact h))
              | (rw [show runF (I C) a b c (I S, 0) (i + 1) = (upd (runF (I C) a b c (I S, 0) i).1 ((runF (I C) a b c (I S, 0) i).2 - 2) (jnF (-(I C i)) ((runF (I C) a b c (I S, 0) i).1 ((runF (I C) a b c (I S, 0) i).2 - 2)) ((runF (I C) a b c (I S, 0) i).1 ((runF (I C) a b c (I S, 0) i).2 - 1))), (runF (I C) a b c (I S, 0) i).2 - 1) from by rw [runF]; unfold stpF; rw [if_neg (fun q => hlo q.1), if_neg (fun q => by first | exact h90 q.1 | exact ht1 q.2)]; exact if_pos ht2, hsg] at h
                 exact h)
              | (rw [show runF (I C) a b c (I S, 0) (i + 1) = runF (I C) a b c (I S, 0) i from by rw [runF]; unfold stpF; rw [if_neg (fun q => hlo q.1), if_neg (fun q => by first | exact h90 q.1 | exact ht1 q.2)]; exact if_neg ht2] at h
                 exact h)
        · refine il4 (n := 95) dX3_gives_93 rfl ?_
          refine k_iconst (a := 1) (n := 96) dX3_gives_95 rfl rfl ?_
          refine k_icmp_lt (t := 128) (n := 99) dX3_gives_96 (by decide) rfl (fun h96 => ?_) (fun h96 => ?_)
          · have ht1 : ¬ 1 ≤ (runF (I C) a b c (I S, 0) i).2 := fun q => absurd h96 (nI_nlt q (by omega))
            refine il4 (n := 130) dX3_gives_128 rfl ?_
            refine k_iconst (a := 2) (n := 131) dX3_gives_130 rfl rfl ?_
            refine k_icmp_lt (t := 168) (n := 134) dX3_gives_131 (by decide) rfl (fun h131 => ?_) (fun h131 => ?_)
            · have ht2 : ¬ 2 ≤ (runF (I C) a b c (I S, 0) i).2 := fun q => absurd h131 (nI_nlt q (by omega))
              refine ii5 (n := 171) dX3_gives_168 rfl (ki1 _) trivial ?_
              rw [nI_1]
              refine k_goto (n := 6) dX3_gives_171 (by decide) ?_
              have h := ih (i + 1) (some (.int (I C i))) (by omega)
              first
                | (rw [show runF (I C) a b c (I S, 0) (i + 1) = (upd (runF (I C) a b c (I S, 0) i).1 (runF (I C) a b c (I S, 0) i).2 (if 0 ≤ I C i then I C i else if I C i = -1 then a else if I C i = -2 then b else c), (runF (I C) a b c (I S, 0) i).2 + 1) from by rw [runF]; unfold stpF; exact if_pos ⟨Int32.not_lt.mp h28, htop⟩] at h
                   first
                     | (rw [if_pos (Int32.not_lt.mp h49)] at h; exact h)
                     | (rw [if_neg (Int32.not_le.mpr h49), if_pos h60] at h; exact h)
                     | (rw [if_neg (Int32.not_le.mpr h49), if_neg h60, if_pos h71] at h; exact h)
                     | (rw [if_neg (Int32.not_le.mpr h49), if_neg h60, if_neg h71] at h; exact h))
                | (rw [show runF (I C) a b c (I S, 0) (i + 1) = (upd (runF (I C) a b c (I S, 0) i).1 ((runF (I C) a b c (I S, 0) i).2 - 1) (kb ((runF (I C) a b c (I S, 0) i).1 ((runF (I C) a b c (I S, 0) i).2 - 1) = 0)), (runF (I C) a b c (I S, 0) i).2) from by rw [runF]; unfold stpF; rw [if_neg (fun q => hlo q.1)]; exact if_pos ⟨h90, ht1⟩] at h
                   first
                     | (rw [kb_t h116] at h; exact h)
                     | (rw [kb_f h116] at h; exact h))
                | (rw [show runF (I C) a b c (I S, 0) (i + 1) = (upd (runF (I C) a b c (I S, 0) i).1 ((runF (I C) a b c (I S, 0) i).2 - 2) (jnF (-(I C i)) ((runF (I C) a b c (I S, 0) i).1 ((runF (I C) a b c (I S, 0) i).2 - 2)) ((runF (I C) a b c (I S, 0) i).1 ((runF (I C) a b c (I S, 0) i).2 - 1))), (runF (I C) a b c (I S, 0) i).2 - 1) from by rw [runF]; unfold stpF; rw [if_neg (fun q => hlo q.1), if_neg (fun q => by first | exact h90 q.1 | exact ht1 q.2)]; exact if_pos ht2, hsg] at h
                   exact h)
                | (rw [show runF (I C) a b c (I S, 0) (i + 1) = runF (I C) a b c (I S, 0) i from by rw [runF]; unfold stpF; rw [if_neg (fun q => hlo q.1), if_neg (fun q => by first | exact h90 q.1 | exact ht1 q.2)]; exact if_neg ht2] at h
                   exact h)
            · have ht2 : 2 ≤ (runF (I C) a b c (I S, 0) i).2 := Nat.le_of_not_lt fun q => h131 (nI_lt q (by decide))
              refine ii4 (n := 137) dX3_gives_134 rfl (kim1 _) trivial ?_
              rw [show nI (runF (I C) a b c (I S, 0) i).2 + -1 = nI ((runF (I C) a b c (I S, 0) i).2 - 1) by rw [← xm1]; exact pk_sub (b := 1) (by omega)]
              refine al0 (n := 138) dX3_gives_137 rfl ?_
              refine gX3_15 (n := 141) dX3_gives_138 rfl rfl hA h1 ?_
              refine il4 (n := 143) dX3_gives_141 rfl ?_
              refine k_iconst (a := 1) (n := 144) dX3_gives_143 rfl rfl ?_
              refine k_isub (n := 145) dX3_gives_144 rfl ?_
              rw [show nI ((runF (I C) a b c (I S, 0) i).2 - 1) - 1 = nI ((runF (I C) a b c (I S, 0) i).2 - 2) from (pk_sub (b := 1) (by omega)).trans (by rw [Nat.sub_sub])]
              refine il6 (n := 147) dX3_gives_145 rfl ?_
              refine k_ineg (n := 148) dX3_gives_147 rfl ?_
              refine al0 (n := 149) dX3_gives_148 rfl ?_
              refine gX3_15 (n := 152) dX3_gives_149 rfl rfl hA h1 ?_
              refine il4 (n := 154) dX3_gives_152 rfl ?_
              refine k_iconst (a := 1) (n := 155) dX3_gives_154 rfl rfl ?_
              refine k_isub (n := 156) dX3_gives_155 rfl ?_
              rw [show nI ((runF (I C) a b c (I S, 0) i).2 - 1) - 1 = nI ((runF (I C) a b c (I S, 0) i).2 - 2) from (pk_sub (b := 1) (by omega)).trans (by rw [Nat.sub_sub])]
              refine js_iald (j := (runF (I C) a b c (I S, 0) i).2 - 2) (n := 157) dX3_gives_156 rfl hS rfl (by omega) (by decide) ?_
              refine al0 (n := 158) dX3_gives_157 rfl ?_
              refine gX3_15 (n := 161) dX3_gives_158 rfl rfl hA h1 ?_
              refine il4 (n := 163) dX3_gives_161 rfl ?_
              refine js_iald (j := (runF (I C) a b c (I S, 0) i).2 - 1) (n := 164) dX3_gives_163 rfl hS rfl (by omega) (by decide) ?_
              have hsg : ∃ s, -(I C i) = nI s ∧ (s = 37 ∨ s = 38 ∨ s = 42 ∨ s = 43 ∨ s = 45 ∨ s = 47 ∨ s = 60 ∨ s = 61 ∨ s = 62 ∨ s = 124) := (hok i (by omega)).elim (fun q => absurd q hlo) (fun q => q.elim (fun q => by first | exact absurd q h90 | exact absurd (Nat.le_trans (by decide) ht2) ht1) id)
              obtain ⟨sg, hsg, hsg2⟩ := hsg
              rw [hsg]
              refine qiX3_44 (n := 167) dX3_gives_164 rfl rfl (Nat.le_of_ble_eq_true rfl) (by omega) (c_joined _ _ sg hsg2) (Nat.le_refl _) (Nat.le_refl _) ?_
              refine js_iast (j := (runF (I C) a b c (I S, 0) i).2 - 2) (n := 168) dX3_gives_167 rfl hS rfl (by omega) (by decide) ?_
              refine ii5 (n := 171) dX3_gives_168 rfl (ki1 _) trivial ?_
              rw [nI_1]
              refine k_goto (n := 6) dX3_gives_171 (by decide) ?_
              have h := ih (i + 1) (some (.int (I C i))) (by omega)
              first
                | (rw [show runF (I C) a b c (I S, 0) (i + 1) = (upd (runF (I C) a b c (I S, 0) i).1 (runF (I C) a b c (I S, 0) i).2 (if 0 ≤ I C i then I C i else if I C i = -1 then a else if I C i = -2 then b else c), (runF (I C) a b c (I S, 0) i).2 + 1) from by rw [runF]; unfold stpF; exact if_pos ⟨Int32.not_lt.mp h28, htop⟩] at h
                   first
                     | (rw [if_pos (Int32.not_lt.mp h49)] at h; exact h)
                     | (rw [if_neg (Int32.not_le.mpr h49), if_pos h60] at h; exact h)
                     | (rw [if_neg (Int32.not_le.mpr h49), if_neg h60, if_pos h71] at h; exact h)
                     | (rw [if_neg (Int32.not_le.mpr h49), if_neg h60, if_neg h71] at h; exact h))
                | (rw [show runF (I C) a b c (I S, 0) (i + 1) = (upd (runF (I C) a b c (I S, 0) i).1 ((runF (I C) a b c (I S, 0) i).2 - 1) (kb ((runF (I C) a b c (I S, 0) i).1 ((runF (I C) a b c (I S, 0) i).2 - 1) = 0)), (runF (I C) a b c (I S, 0) i).2) from by rw [runF]; unfold stpF; rw [if_neg (fun q => hlo q.1)]; exact if_pos ⟨h90, ht1⟩] at h
                   first
                     | (rw [kb_t h116] at h; exact h)
                     | (rw [kb_f h116] at h; exact h))
                | (rw [show runF (I C) a b c (I S, 0) (i + 1) = (upd (runF (I C) a b c (I S, 0) i).1 ((runF (I C) a b c (I S, 0) i).2 - 2) (jnF (-(I C i)) ((runF (I C) a b c (I S, 0) i).1 ((runF (I C) a b c (I S, 0) i).2 - 2)) ((runF (I C) a b c (I S, 0) i).1 ((runF (I C) a b c (I S, 0) i).2 - 1))), (runF (I C) a b c (I S, 0) i).2 - 1) from by rw [runF]; unfold stpF; rw [if_neg (fun q => hlo q.1), if_neg (fun q => by first | exact h90 q.1 | exact ht1 q.2)]; exact if_pos ht2, hsg] at h
                   exact h)
                | (rw [show runF (I C) a b c (I S, 0) (i + 1) = runF (I C) a b c (I S, 0) i from by rw [runF]; unfold stpF; rw [if_neg (fun q => hlo q.1), if_neg (fun q => by first | exact h90 q.1 | exact ht1 q.2)]; exact if_neg ht2] at h
                   exact h)
          · have ht1 : 1 ≤ (runF (I C) a b c (I S, 0) i).2 := Nat.le_of_not_lt fun q => h96 (nI_lt q (by decide))
            refine al0 (n := 100) dX3_gives_99 rfl ?_
            refine gX3_15 (n := 103) dX3_gives_100 rfl rfl hA h1 ?_
            refine il4 (n := 105) dX3_gives_103 rfl ?_
            refine k_iconst (a := 1) (n := 106) dX3_gives_105 rfl rfl ?_
            refine k_isub (n := 107) dX3_gives_106 rfl ?_
            rw [show nI (runF (I C) a b c (I S, 0) i).2 - 1 = nI ((runF (I C) a b c (I S, 0) i).2 - 1) from pk_sub (b := 1) ht1]
            refine al0 (n := 108) dX3_gives_107 rfl ?_
            refine gX3_15 (n := 111) dX3_gives_108 rfl rfl hA h1 ?_
            refine il4 (n := 113) dX3_gives_111 rfl ?_
            refine k_iconst (a := 1) (n := 114) dX3_gives_113 rfl rfl ?_
            refine k_isub (n := 115) dX3_gives_114 rfl ?_
            rw [show nI (runF (I C) a b c (I S, 0) i).2 - 1 = nI ((runF (I C) a b c (I S, 0) i).2 - 1) from pk_sub (b := 1) ht1]
            refine js_iald (j := (runF (I C) a b c (I S, 0) i).2 - 1) (n := 116) dX3_gives_115 rfl hS rfl (by omega) (by decide) ?_
            refine k_if_ne (t := 123) (n := 119) dX3_gives_116 (by decide) rfl (fun h116 => ?_) (fun h116 => ?_)
            · refine k_iconst (a := 0) (n := 124) dX3_gives_123 rfl rfl ?_
              refine js_iast (j := (runF (I C) a b c (I S, 0) i).2 - 1) (n := 125) dX3_gives_124 rfl hS rfl (by omega) (by decide) ?_
              refine k_goto (n := 168) dX3_gives_125 (by decide) ?_
              refine ii5 (n := 171) dX3_gives_168 rfl (ki1 _) trivial ?_
              rw [nI_1]
              refine k_goto (n := 6) dX3_gives_171 (by decide) ?_
              have h := ih (i + 1) (some (.int (I C i))) (by omega)
              first
                | (rw [show runF (I C) a b c (I S, 0) (i + 1) = (upd (runF (I C) a b c (I S, 0) i).1 (runF (I C) a b c (I S, 0) i).2 (if 0 ≤ I C i then I C i else if I C i = -1 then a else if I C i = -2 then b else c), (runF (I C) a b c (I S, 0) i).2 + 1) from by rw [runF]; unfold stpF; exact if_pos ⟨Int32.not_lt.mp h28, htop⟩] at h
                   first
                     | (rw [if_pos (Int32.not_lt.mp h49)] at h; exact h)
                     | (rw [if_neg (Int32.not_le.mpr h49), if_pos h60] at h; exact h)
                     | (rw [if_neg (Int32.not_le.mpr h49), if_neg h60, if_pos h71] at h; exact h)
                     | (rw [if_neg (Int32.not_le.mpr h49), if_neg h60, if_neg h71] at h; exact h))
                | (rw [show runF (I C) a b c (I S, 0) (i + 1) = (upd (runF (I C) a b c (I S, 0) i).1 ((runF (I C) a b c (I S, 0) i).2 - 1) (kb ((runF (I C) a b c (I S, 0) i).1 ((runF (I C) a b c (I S, 0) i).2 - 1) = 0)), (runF (I C) a b c (I S, 0) i).2) from by rw [runF]; unfold stpF; rw [if_neg (fun q => hlo q.1)]; exact if_pos ⟨h90, ht1⟩] at h
                   first
                     | (rw [kb_t h116] at h; exact h)
                     | (rw [kb_f h116] at h; exact h))
                | (rw [show runF (I C) a b c (I S, 0) (i + 1) = (upd (runF (I C) a b c (I S, 0) i).1 ((runF (I C) a b c (I S, 0) i).2 - 2) (jnF (-(I C i)) ((runF (I C) a b c (I S, 0) i).1 ((runF (I C) a b c (I S, 0) i).2 - 2)) ((runF (I C) a b c (I S, 0) i).1 ((runF (I C) a b c (I S, 0) i).2 - 1))), (runF (I C) a b c (I S, 0) i).2 - 1) from by rw [runF]; unfold stpF; rw [if_neg (fun q => hlo q.1), if_neg (fun q => by first | exact h90 q.1 | exact ht1 q.2)]; exact if_pos ht2, hsg] at h
                   exact h)
                | (rw [show runF (I C) a b c (I S, 0) (i + 1) = runF (I C) a b c (I S, 0) i from by rw [runF]; unfold stpF; rw [if_neg (fun q => hlo q.1), if_neg (fun q => by first | exact h90 q.1 | exact ht1 q.2)]; exact if_neg ht2] at h
                   exact h)
            · refine k_iconst (a := 1) (n := 120) dX3_gives_119 rfl rfl ?_
              refine k_goto (n := 124) dX3_gives_120 (by decide) ?_
              refine js_iast (j := (runF (I C) a b c (I S, 0) i).2 - 1) (n := 125) dX3_gives_124 rfl hS rfl (by omega) (by decide) ?_
              refine k_goto (n := 168) dX3_gives_125 (by decide) ?_
              refine ii5 (n := 171) dX3_gives_168 rfl (ki1 _) trivial ?_
              rw [nI_1]
              refine k_goto (n := 6) dX3_gives_171 (by decide) ?_
              have h := ih (i + 1) (some (.int (I C i))) (by omega)
              first
                | (rw [show runF (I C) a b c (I S, 0) (i + 1) = (upd (runF (I C) a b c (I S, 0) i).1 (runF (I C) a b c (I S, 0) i).2 (if 0 ≤ I C i then I C i else if I C i = -1 then a else if I C i = -2 then b else c), (runF (I C) a b c (I S, 0) i).2 + 1) from by rw [runF]; unfold stpF; exact if_pos ⟨Int32.not_lt.mp h28, htop⟩] at h
                   first
                     | (rw [if_pos (Int32.not_lt.mp h49)] at h; exact h)
                     | (rw [if_neg (Int32.not_le.mpr h49), if_pos h60] at h; exact h)
                     | (rw [if_neg (Int32.not_le.mpr h49), if_neg h60, if_pos h71] at h; exact h)
                     | (rw [if_neg (Int32.not_le.mpr h49), if_neg h60, if_neg h71] at h; exact h))
                | (rw [show runF (I C) a b c (I S, 0) (i + 1) = (upd (runF (I C) a b c (I S, 0) i).1 ((runF (I C) a b c (I S, 0) i).2 - 1) (kb ((runF (I C) a b c (I S, 0) i).1 ((runF (I C) a b c (I S, 0) i).2 - 1) = 0)), (runF (I C) a b c (I S, 0) i).2) from by rw [runF]; unfold stpF; rw [if_neg (fun q => hlo q.1)]; exact if_pos ⟨h90, ht1⟩] at h
                   first
                     | (rw [kb_t h116] at h; exact h)
                     | (rw [kb_f h116] at h; exact h))
                | (rw [show runF (I C) a b c (I S, 0) (i + 1) = (upd (runF (I C) a b c (I S, 0) i).1 ((runF (I C) a b c (I S, 0) i).2 - 2) (jnF (-(I C i)) ((runF (I C) a b c (I S, 0) i).1 ((runF (I C) a b c (I S, 0) i).2 - 2)) ((runF (I C) a b c (I S, 0) i).1 ((runF (I C) a b c (I S, 0) i).2 - 1))), (runF (I C) a b c (I S, 0) i).2 - 1) from by rw [runF]; unfold stpF; rw [if_neg (fun q => hlo q.1), if_neg (fun q => by first | exact h90 q.1 | exact ht1 q.2)]; exact if_pos ht2, hsg] at h
                   exact h)
                | (rw [show runF (I C) a b c (I S, 0) (i + 1) = runF (I C) a b c (I S, 0) i from by rw [runF]; unfold stpF; rw [if_neg (fun q => hlo q.1), if_neg (fun q => by first | exact h90 q.1 | exact ht1 q.2)]; exact if_neg ht2] at h
                   exact h)
      · refine il4 (n := 33) dX3_gives_31 rfl ?_
        refine al0 (n := 34) dX3_gives_33 rfl ?_
        refine gX3_15 (n := 37) dX3_gives_34 rfl rfl hA h1 ?_
        refine k_alen (n := 38) dX3_gives_37 rfl (jR hS) ?_
        refine k_icmp_ge (t := 86) (n := 41) dX3_gives_38 (by decide) rfl (fun h38 => ?_) (fun h38 => ?_)
        · exact absurd h38 (nI_ge (by omega) (by decide))
        · have htop : (runF (I C) a b c (I S, 0) i).2 < 50 := by omega
          refine al0 (n := 42) dX3_gives_41 rfl ?_
          refine gX3_15 (n := 45) dX3_gives_42 rfl rfl hA h1 ?_
          refine il4 (n := 47) dX3_gives_45 rfl ?_
          refine il6 (n := 49) dX3_gives_47 rfl ?_
          refine k_if_lt (t := 57) (n := 52) dX3_gives_49 (by decide) rfl (fun h49 => ?_) (fun h49 => ?_)
          · refine il6 (n := 59) dX3_gives_57 rfl ?_
            refine k_iconst (a := (-1)) (n := 60) dX3_gives_59 rfl rfl ?_
            refine k_icmp_ne (t := 67) (n := 63) dX3_gives_60 (by decide) rfl (fun h60 => ?_) (fun h60 => ?_)
            · refine il6 (n := 69) dX3_gives_67 rfl ?_
              refine k_bipush (a := (-2)) (n := 71) dX3_gives_69 rfl rfl ?_
              refine k_icmp_ne (t := 78) (n := 74) dX3_gives_71 (by decide) rfl (fun h71 => ?_) (fun h71 => ?_)
              · refine il3 (n := 79) dX3_gives_78 rfl ?_
                refine js_iast (j := (runF (I C) a b c (I S, 0) i).2) (n := 80) dX3_gives_79 rfl hS rfl (by omega) (by decide) ?_
                refine ii4 (n := 83) dX3_gives_80 rfl (ki1 _) trivial ?_
                rw [nI_1]
                refine k_goto (n := 168) dX3_gives_83 (by decide) ?_
                refine ii5 (n := 171) dX3_gives_168 rfl (ki1 _) trivial ?_
                rw [nI_1]
                refine k_goto (n := 6) dX3_gives_171 (by decide) ?_
                have h := ih (i + 1) (some (.int (I C i))) (by omega)
                first
                  | (rw [show runF (I C) a b c (I S, 0) (i + 1) = (upd (runF (I C) a b c (I S, 0) i).1 (runF (I C) a b c (I S, 0) i).2 (if 0 ≤ I C i then I C i else if I C i = -1 then a else if I C i = -2 then b else c), (runF (I C) a b c (I S, 0) i).2 + 1) from by rw [runF]; unfold stpF; exact if_pos ⟨Int32.not_lt.mp h28, htop⟩] at h
                     first
                       | (rw [if_pos (Int32.not_lt.mp h49)] at h; exact h)
                       | (rw [if_neg (Int32.not_le.mpr h49), if_pos h60] at h; exact h)
                       | (rw [if_neg (Int32.not_le.mpr h49), if_neg h60, if_pos h71] at h; exact h)
                       | (rw [if_neg (Int32.not_le.mpr h49), if_neg h60, if_neg h71] at h; exact h))
                  | (rw [show runF (I C) a b c (I S, 0) (i + 1) = (upd (runF (I C) a b c (I S, 0) i).1 ((runF (I C) a b c (I S, 0) i).2 - 1) (kb ((runF (I C) a b c (I S, 0) i).1 ((runF (I C) a b c (I S, 0) i).2 - 1) = 0)), (runF (I C) a b c (I S, 0) i).2) from by rw [runF]; unfold stpF; rw [if_neg (fun q => hlo q.1)]; exact if_pos ⟨h90, ht1⟩] at h
                     first
                       | (rw [kb_t h116] at h; exact h)
                       | (rw [kb_f h116] at h; exact h))
                  | (rw [show runF (I C) a b c (I S, 0) (i + 1) = (upd (runF (I C) a b c (I S, 0) i).1 ((runF (I C) a b c (I S, 0) i).2 - 2) (jnF (-(I C i)) ((runF (I C) a b c (I S, 0) i).1 ((runF (I C) a b c (I S, 0) i).2 - 2)) ((runF (I C) a b c (I S, 0) i).1 ((runF (I C) a b c (I S, 0) i).2 - 1))), (runF (I C) a b c (I S, 0) i).2 - 1) from by rw [runF]; unfold stpF; rw [if_neg (fun q => hlo q.1), if_neg (fun q => by first | exact h90 q.1 | exact ht1 q.2)]; exact if_pos ht2, hsg] at h
                     exact h)
                  | (rw [show runF (I C) a b c (I S, 0) (i + 1) = runF (I C) a b c (I S, 0) i from by rw [runF]; unfold stpF; rw [if_neg (fun q => hlo q.1), if_neg (fun q => by first | exact h90 q.1 | exact ht1 q.2)]; exact if_neg ht2] at h
                     exact h)
              · refine il2 (n := 75) dX3_gives_74 rfl ?_
                refine k_goto (n := 79) dX3_gives_75 (by decide) ?_
                refine js_iast (j := (runF (I C) a b c (I S, 0) i).2) (n := 80) dX3_gives_79 rfl hS rfl (by omega) (by decide) ?_
                refine ii4 (n := 83) dX3_gives_80 rfl (ki1 _) trivial ?_
                rw [nI_1]
                refine k_goto (n := 168) dX3_gives_83 (by decide) ?_
                refine ii5 (n := 171) dX3_gives_168 rfl (ki1 _) trivial ?_
                rw [nI_1]
                refine k_goto (n := 6) dX3_gives_171 (by decide) ?_
                have h := ih (i + 1) (some (.int (I C i))) (by omega)
                first
                  | (rw [show runF (I C) a b c (I S, 0) (i + 1) = (upd (runF (I C) a b c (I S, 0) i).1 (runF (I C) a b c (I S, 0) i).2 (if 0 ≤ I C i then I C i else if I C i = -1 then a else if I C i = -2 then b else c), (runF (I C) a b c (I S, 0) i).2 + 1) from by rw [runF]; unfold stpF; exact if_pos ⟨Int32.not_lt.mp h28, htop⟩] at h
                     first
                       | (rw [if_pos (Int32.not_lt.mp h49)] at h; exact h)
                       | (rw [if_neg (Int32.not_le.mpr h49), if_pos h60] at h; exact h)
                       | (rw [if_neg (Int32.not_le.mpr h49), if_neg h60, if_pos h71] at h; exact h)
                       | (rw [if_neg (Int32.not_le.mpr h49), if_neg h60, if_neg h71] at h; exact h))
                  | (rw [show runF (I C) a b c (I S, 0) (i + 1) = (upd (runF (I C) a b c (I S, 0) i).1 ((runF (I C) a b c (I S, 0) i).2 - 1) (kb ((runF (I C) a b c (I S, 0) i).1 ((runF (I C) a b c (I S, 0) i).2 - 1) = 0)), (runF (I C) a b c (I S, 0) i).2) from by rw [runF]; unfold stpF; rw [if_neg (fun q => hlo q.1)]; exact if_pos ⟨h90, ht1⟩] at h
                     first
                       | (rw [kb_t h116] at h; exact h)
                       | (rw [kb_f h116] at h; exact h))
                  | (rw [show runF (I C) a b c (I S, 0) (i + 1) = (upd (runF (I C) a b c (I S, 0) i).1 ((runF (I C) a b c (I S, 0) i).2 - 2) (jnF (-(I C i)) ((runF (I C) a b c (I S, 0) i).1 ((runF (I C) a b c (I S, 0) i).2 - 2)) ((runF (I C) a b c (I S, 0) i).1 ((runF (I C) a b c (I S, 0) i).2 - 1))), (runF (I C) a b c (I S, 0) i).2 - 1) from by rw [runF]; unfold stpF; rw [if_neg (fun q => hlo q.1), if_neg (fun q => by first | exact h90 q.1 | exact ht1 q.2)]; exact if_pos ht2, hsg] at h
                     exact h)
                  | (rw [show runF (I C) a b c (I S, 0) (i + 1) = runF (I C) a b c (I S, 0) i from by rw [runF]; unfold stpF; rw [if_neg (fun q => hlo q.1), if_neg (fun q => by first | exact h90 q.1 | exact ht1 q.2)]; exact if_neg ht2] at h
                     exact h)
            · refine il1 (n := 64) dX3_gives_63 rfl ?_
              refine k_goto (n := 79) dX3_gives_64 (by decide) ?_
              refine js_iast (j := (runF (I C) a b c (I S, 0) i).2) (n := 80) dX3_gives_79 rfl hS rfl (by omega) (by decide) ?_
              refine ii4 (n := 83) dX3_gives_80 rfl (ki1 _) trivial ?_
              rw [nI_1]
              refine k_goto (n := 168) dX3_gives_83 (by decide) ?_
              refine ii5 (n := 171) dX3_gives_168 rfl (ki1 _) trivial ?_
              rw [nI_1]
              refine k_goto (n := 6) dX3_gives_171 (by decide) ?_
              have h := ih (i + 1) (some (.int (I C i))) (by omega)
              first
                | (rw [show runF (I C) a b c (I S, 0) (i + 1) = (upd (runF (I C) a b c (I S, 0) i).1 (runF (I C) a b c (I S, 0) i).2 (if 0 ≤ I C i then I C i else if I C i = -1 then a else if I C i = -2 then b else c), (runF (I C) a b c (I S, 0) i).2 + 1) from by rw [runF]; unfold stpF; exact if_pos ⟨Int32.not_lt.mp h28, htop⟩] at h
                   first
                     | (rw [if_pos (Int32.not_lt.mp h49)] at h; exact h)
                     | (rw [if_neg (Int32.not_le.mpr h49), if_pos h60] at h; exact h)
                     | (rw [if_neg (Int32.not_le.mpr h49), if_neg h60, if_pos h71] at h; exact h)
                     | (rw [if_neg (Int32.not_le.mpr h49), if_neg h60, if_neg h71] at h; exact h))
                | (rw [show runF (I C) a b c (I S, 0) (i + 1) = (upd (runF (I C) a b c (I S, 0) i).1 ((runF (I C) a b c (I S, 0) i).2 - 1) (kb ((runF (I C) a b c (I S, 0) i).1 ((runF (I C) a b c (I S, 0) i).2 - 1) = 0)), (runF (I C) a b c (I S, 0) i).2) from by rw [runF]; unfold stpF; rw [if_neg (fun q => hlo q.1)]; exact if_pos ⟨h90, ht1⟩] at h
                   first
                     | (rw [kb_t h116] at h; exact h)
                     | (rw [kb_f h116] at h; exact h))
                | (rw [show runF (I C) a b c (I S, 0) (i + 1) = (upd (runF (I C) a b c (I S, 0) i).1 ((runF (I C) a b c (I S, 0) i).2 - 2) (jnF (-(I C i)) ((runF (I C) a b c (I S, 0) i).1 ((runF (I C) a b c (I S, 0) i).2 - 2)) ((runF (I C) a b c (I S, 0) i).1 ((runF (I C) a b c (I S, 0) i).2 - 1))), (runF (I C) a b c (I S, 0) i).2 - 1) from by rw [runF]; unfold stpF; rw [if_neg (fun q => hlo q.1), if_neg (fun q => by first | exact h90 q.1 | exact ht1 q.2)]; exact if_pos ht2, hsg] at h
                   exact h)
                | (rw [show runF (I C) a b c (I S, 0) (i + 1) = runF (I C) a b c (I S, 0) i from by rw [runF]; unfold stpF; rw [if_neg (fun q => hlo q.1), if_neg (fun q => by first | exact h90 q.1 | exact ht1 q.2)]; exact if_neg ht2] at h
                   exact h)
          · refine il6 (n := 54) dX3_gives_52 rfl ?_
            refine k_goto (n := 79) dX3_gives_54 (by decide) ?_
            refine js_iast (j := (runF (I C) a b c (I S, 0) i).2) (n := 80) dX3_gives_79 rfl hS rfl (by omega) (by decide) ?_
            refine ii4 (n := 83) dX3_gives_80 rfl (ki1 _) trivial ?_
            rw [nI_1]
            refine k_goto (n := 168) dX3_gives_83 (by decide) ?_
            refine ii5 (n := 171) dX3_gives_168 rfl (ki1 _) trivial ?_
            rw [nI_1]
            refine k_goto (n := 6) dX3_gives_171 (by decide) ?_
            have h := ih (i + 1) (some (.int (I C i))) (by omega)
            first
              | (rw [show runF (I C) a b c (I S, 0) (i + 1) = (upd (runF (I C) a b c (I S, 0) i).1 (runF (I C) a b c (I S, 0) i).2 (if 0 ≤ I C i then I C i else if I C i = -1 then a else if I C i = -2 then b else c), (runF (I C) a b c (I S, 0) i).2 + 1) from by rw [runF]; unfold stpF; exact if_pos ⟨Int32.not_lt.mp h28, htop⟩] at h
                 first
                   | (rw [if_pos (Int32.not_lt.mp h49)] at h; exact h)
                   | (rw [if_neg (Int32.not_le.mpr h49), if_pos h60] at h; exact h)
                   | (rw [if_neg (Int32.not_le.mpr h49), if_neg h60, if_pos h71] at h; exact h)
                   | (rw [if_neg (Int32.not_le.mpr h49), if_neg h60, if_neg h71] at h; exact h))
              | (rw [show runF (I C) a b c (I S, 0) (i + 1) = (upd (runF (I C) a b c (I S, 0) i).1 ((runF (I C) a b c (I S, 0) i).2 - 1) (kb ((runF (I C) a b c (I S, 0) i).1 ((runF (I C) a b c (I S, 0) i).2 - 1) = 0)), (runF (I C) a b c (I S, 0) i).2) from by rw [runF]; unfold stpF; rw [if_neg (fun q => hlo q.1)]; exact if_pos ⟨h90, ht1⟩] at h
                 first
                   | (rw [kb_t h116] at h; exact h)
                   | (rw [kb_f h116] at h; exact h))
              | (rw [show runF (I C) a b c (I S, 0) (i + 1) = (upd (runF (I C) a b c (I S, 0) i).1 ((runF (I C) a b c (I S, 0) i).2 - 2) (jnF (-(I C i)) ((runF (I C) a b c (I S, 0) i).1 ((runF (I C) a b c (I S, 0) i).2 - 2)) ((runF (I C) a b c (I S, 0) i).1 ((runF (I C) a b c (I S, 0) i).2 - 1))), (runF (I C) a b c (I S, 0) i).2 - 1) from by rw [runF]; unfold stpF; rw [if_neg (fun q => hlo q.1), if_neg (fun q => by first | exact h90 q.1 | exact ht1 q.2)]; exact if_pos ht2, hsg] at h
                 exact h)
              | (rw [show runF (I C) a b c (I S, 0) (i + 1) = runF (I C) a b c (I S, 0) i from by rw [runF]; unfold stpF; rw [if_neg (fun q => hlo q.1), if_neg (fun q => by first | exact h90 q.1 | exact ht1 q.2)]; exact if_neg ht2] at h
                 exact h)
theorem heldF_mm (s lo hi : Int32) (h : lo ≤ hi) : (if lo < (if s < hi then s else hi) then (if s < hi then s else hi) else lo) = heldF s lo hi := by
  unfold heldF
  by_cases h1 : s < hi
  · rw [if_pos h1]
    by_cases h2 : s < lo
    · rw [if_pos h2, if_neg (Int32.not_lt.mpr (Int32.le_of_lt h2))]
    · rw [if_neg h2, if_neg (Int32.not_lt.mpr (Int32.le_of_lt h1))]
      by_cases h3 : lo < s
      · rw [if_pos h3]
      · rw [if_neg h3]; exact Int32.le_antisymm (Int32.not_lt.mp h2) (Int32.not_lt.mp h3)
  · rw [if_neg h1]
    by_cases h2 : s < lo
    · exact absurd (Int32.lt_of_lt_of_le h2 h) h1
    · rw [if_neg h2]
      by_cases h3 : lo < hi
      · rw [if_pos h3]
        by_cases h4 : hi < s
        · rw [if_pos h4]
        · rw [if_neg h4]; exact Int32.le_antisymm (Int32.not_lt.mp h1) (Int32.not_lt.mp h4)
      · rw [if_neg h3]
        have e : lo = hi := Int32.le_antisymm h (Int32.not_lt.mp h3)
        by_cases h4 : hi < s
        · rw [if_pos h4, e]
        · rw [if_neg h4, e]; exact Int32.le_antisymm (Int32.not_lt.mp h1) (Int32.not_lt.mp h4)
set_option maxHeartbeats 2000000 in
set_option maxRecDepth 20000 in
theorem c_gives_g {A C S : Nat} (hd : 1 ≤ d) (hA : SS[A]? = some (3, 5)) (hC : SS[C]? = some (100, 50)) (hS : SS[S]? = some (100, 50)) (h0 : PP A 0 = some C) (h1 : PP A 1 = some S) (hAS : A ≠ S) (hCS : C ≠ S) (a b c : Int32) (n : Nat) (hn : I A 4 = nI n) (h50 : n ≤ 50) (hok : ∀ i, i < n → okI (I C i)) (hm : I A 2 ≤ I A 3) (Q : Option Value → kM → Prop) (hQ : Q (some (.int (heldF ((runF (I C) a b c (I S, 0) n).1 0) (I A 2) (I A 3)))) (kJ (kset I S (runF (I C) a b c (I S, 0) n).1))) : Ct E d mX3_gives 0 0 [.ref A, .int a, .int b, .int c] (kJ I) (Q) := by
  refine Ct.of (L := [some (.ref A), some (.int a), some (.int b), some (.int c), none, none, none]) rfl rfl (Nat.le_of_ble_eq_true rfl) ?_
  refine k_iconst (a := 0) (n := 1) dX3_gives_0 rfl rfl ?_
  refine is4 (n := 3) dX3_gives_1 rfl trivial ?_
  refine k_iconst (a := 0) (n := 4) dX3_gives_3 rfl rfl ?_
  refine is5 (n := 6) dX3_gives_4 rfl trivial ?_
  have h := c_gives_l (E := E) (d := d) (I := I) hd hA hC hS h0 h1 hAS hCS a b c n hn h50 hok Q (fun x6 => ?_) n 0 none (by omega)
  · rw [show (runF (I C) a b c (I S, 0) 0).1 = I S from rfl, kset_self] at h
    exact h
  refine al0 (n := 175) dX3_gives_174 rfl ?_
  refine gX3_18 (n := 178) dX3_gives_175 rfl rfl hA ?_
  refine k_top (congrFun (kset_ne I _ hAS) 2) ?_
  refine al0 (n := 179) dX3_gives_178 rfl ?_
  refine gX3_22 (n := 182) dX3_gives_179 rfl rfl hA ?_
  refine k_top (congrFun (kset_ne I _ hAS) 3) ?_
  refine al0 (n := 183) dX3_gives_182 rfl ?_
  refine gX3_15 (n := 186) dX3_gives_183 rfl rfl hA h1 ?_
  refine k_iconst (a := 0) (n := 187) dX3_gives_186 rfl rfl ?_
  refine js_iald (j := 0) (n := 188) dX3_gives_187 rfl hS rfl (by decide) (by decide) ?_
  refine qX3_29 (n := 191) dX3_gives_188 rfl rfl (Nat.le_of_ble_eq_true rfl) (Nat.le_refl _) (Nat.le_refl _) ?_
  refine qX3_48 (n := 194) dX3_gives_191 rfl rfl (Nat.le_of_ble_eq_true rfl) (Nat.le_refl _) (Nat.le_refl _) ?_
  refine k_ireturn (ty := .int) dX3_gives_194 rfl rfl (Nat.le_refl _) (Nat.le_refl _) ?_
  rw [heldF_mm _ _ _ hm]
  exact hQ
end C1

section C8
variable {E : kE} {d B c t : Nat} {I J : Nat → Nat → Int32} {r : Nat → Int32}
theorem clr_0 (r : Nat → Int32) : clearF r 0 = r := by
  funext j
  exact if_neg (by omega)
theorem clr_s (r : Nat → Int32) (i : Nat) : upd (clearF r i) (13 + i) 0 = clearF r (i + 1) := by
  funext j
  by_cases h : j = 13 + i
  · subst h; rw [pk_us]; exact (if_pos (by omega)).symm
  · rw [pk_un h]
    unfold clearF
    by_cases h2 : 13 ≤ j ∧ j < 13 + i
    · rw [if_pos h2, if_pos (by omega)]
    · rw [if_neg h2, if_neg (by omega)]
theorem TX.clr (h : TX r) (i : Nat) (hi : i ≤ 8) : TX (clearF r i) := fun u hu => by rw [show clearF r i (6 + u) = r (6 + u) from if_neg (by omega)]; exact h u hu
set_option maxHeartbeats 2000000 in
set_option maxRecDepth 20000 in
theorem c_lay_l (hT : TX r) (v : Int32) (Q : Option Value → kM → Prop) (hQ : ∀ K, BL 8 K (clearF r 8) c t → FB 8 I K → Q none (kJ K)) (m : Nat) : ∀ (i : Nat) (J : Nat → Nat → Int32), BL 8 J (clearF r i) c t → FB 8 I J → i + m = 8 → Wd E d mX0_layRope 0 0 0 0 7 [some (.ref 8), some (.int v), some (.int (nI i))] [] (kJ J) Q := by
  induction m with
  | zero =>
    intro i J hb hf hi
    have e : i = 8 := by omega
    subst e
    refine il2 (n := 8) dX0_layRope_7 rfl ?_
    refine k_bipush (a := 8) (n := 10) dX0_layRope_8 rfl rfl ?_
    refine k_icmp_ge (t := 26) (n := 13) dX0_layRope_10 (by decide) rfl (fun h10 => ?_) (fun h10 => ?_)
    · refine k_return dX0_layRope_26 rfl (Nat.le_refl _) (Nat.le_refl _) ?_
      exact hQ J hb hf
    · exact absurd (Int32.le_refl _) h10
  | succ m ih =>
    intro i J hb hf hi
    have hi8 : i < 8 := by omega
    have hT := hT.clr i (by omega)
    refine il2 (n := 8) dX0_layRope_7 rfl ?_
    refine k_bipush (a := 8) (n := 10) dX0_layRope_8 rfl rfl ?_
    refine k_icmp_ge (t := 26) (n := 13) dX0_layRope_10 (by decide) rfl (fun h10 => ?_) (fun h10 => ?_)
    · exact absurd h10 (nI_ge (by omega) (by decide))
    · refine al0 (n := 14) dX0_layRope_13 rfl ?_
      refine gX0_9 (n := 17) dX0_layRope_14 rfl rfl (hS0 (Or.inl rfl)) (hP2 (Or.inl rfl)) ?_
      refine il2 (n := 18) dX0_layRope_17 rfl ?_
      refine k_iconst (a := 0) (n := 19) dX0_layRope_18 rfl rfl ?_
      refine j_iast (j := i) (n := 20) dX0_layRope_19 rfl (hS1 (Or.inl rfl)) rfl (by omega) (by decide) ?_
      refine k_gen (fun I1 e1 => ?_)
      have hb1 := BL.sw hb (Or.inl rfl) hT hi8 e1
      have hT1 := TX.ob hb1 hT (by omega)
      have hf1 := hf.tr (FB.w e1)
      refine ii2 (n := 23) dX0_layRope_20 rfl (ki1 _) trivial ?_
      rw [nI_1]
      refine k_goto (n := 7) dX0_layRope_23 (by decide) ?_
      rw [clr_s] at hb1
      exact ih (i + 1) I1 hb1 hf1 (by omega)
set_option maxHeartbeats 2000000 in
set_option maxRecDepth 20000 in
theorem c_lay (hb : BL 8 I r c t) (hT : TX r) (v : Int32) : Ct E d mX0_layRope 0 0 [.ref 8, .int v] (kJ I) (kBv 8 I (clearF (upd r 3 v) 8) c t) := by
  refine Ct.of (L := [some (.ref 8), some (.int v), none]) rfl rfl (Nat.le_of_ble_eq_true rfl) ?_
  refine al0 (n := 1) dX0_layRope_0 rfl ?_
  refine il1 (n := 2) dX0_layRope_1 rfl ?_
  refine pX0_27 (n := 5) dX0_layRope_2 rfl rfl (hS0 (Or.inl rfl)) ?_
  refine k_gen (fun I1 e1 => ?_)
  have hb1 := BL.sf5 hb (Or.inl rfl) hT e1
  have hT1 := TX.ob hb1 hT (by omega)
  have hf1 := (FB.b e1)
  refine k_iconst (a := 0) (n := 6) dX0_layRope_5 rfl rfl ?_
  refine is2 (n := 7) dX0_layRope_6 rfl trivial ?_
  exact c_lay_l hT1 v _ (fun K hK hf => ⟨K, rfl, rfl, hK, hf1.tr hf⟩) 8 0 I1 (by rw [clr_0]; exact hb1) (FB.rf _ _) (by omega)
theorem clr_3 (r : Nat → Int32) (v : Int32) : clearF (upd r 3 v) 8 = upd (clearF r 8) 3 v := by
  funext j
  unfold clearF
  by_cases h : j = 3
  · subst h; rw [if_neg (by omega), pk_us, pk_us]
  · by_cases h2 : 13 ≤ j ∧ j < 13 + 8
    · rw [if_pos h2, pk_un h, if_pos h2]
    · rw [if_neg h2, pk_un h, pk_un h, if_neg h2]
theorem RO.clr (r : Nat → Int32) (v : Int32) : RO (upd (clearF r 8) 3 v) r := fun k hk => by rw [pk_un (by omega)]; exact if_neg (by omega)
set_option maxHeartbeats 2000000 in
set_option maxRecDepth 20000 in
theorem c_rope (hd : 2 ≤ d) (hC : CR I r c t) (hR : RI r) (hX : RX r) (v : Int32) : Ct E d mX8_rope 0 0 [.ref 0, .int v] (kJ I) (kZ I (s_rope r v)) := by
  have hb := hC.bl
  have hT := hR.TX
  have h8 := hb.c8
  have h4 := hb.t4
  refine Ct.of (L := [some (.ref 0), some (.int v), none]) rfl rfl (Nat.le_of_ble_eq_true rfl) ?_
  refine il1 (n := 1) dX8_rope_0 rfl ?_
  refine k_iconst (a := 2) (n := 2) dX8_rope_1 rfl rfl ?_
  refine k_bipush (a := 8) (n := 4) dX8_rope_2 rfl rfl ?_
  refine qiX8_65 (n := 7) dX8_rope_4 rfl rfl (Nat.le_of_ble_eq_true rfl) (by omega) (c_within _ _ _) (Nat.le_refl _) (Nat.le_refl _) ?_
  refine k_ifb_ne (t := 16) (n := 10) dX8_rope_7 (by decide) rfl (fun h7 => ?_) (fun h7 => ?_)
  · refine al0 (n := 17) dX8_rope_16 rfl ?_
    refine gX8_10 (n := 20) dX8_rope_17 rfl rfl rfl rfl ?_
    refine gX8_73 (n := 23) dX8_rope_20 rfl rfl rfl rfl ?_
    refine gX8_76 (n := 26) dX8_rope_23 rfl rfl (hS0 (Or.inl rfl)) ?_
    refine k_top (BL.f11 hb) ?_
    refine k_if_le (t := 35) (n := 29) dX8_rope_26 (by decide) rfl (fun h26 => ?_) (fun h26 => ?_)
    · skip
      refine al0 (n := 36) dX8_rope_35 rfl ?_
      refine gX8_10 (n := 39) dX8_rope_36 rfl rfl rfl rfl ?_
      refine gX8_73 (n := 42) dX8_rope_39 rfl rfl rfl rfl ?_
      refine gX8_80 (n := 45) dX8_rope_42 rfl rfl (hS0 (Or.inl rfl)) ?_
      refine k_top (BL.f5 hb) ?_
      refine is2 (n := 46) dX8_rope_45 rfl trivial ?_
      refine al0 (n := 47) dX8_rope_46 rfl ?_
      refine gX8_10 (n := 50) dX8_rope_47 rfl rfl rfl rfl ?_
      refine gX8_73 (n := 53) dX8_rope_50 rfl rfl rfl rfl ?_
      refine il1 (n := 54) dX8_rope_53 rfl ?_
      refine qX8_83 (n := 57) dX8_rope_54 rfl rfl (Nat.le_of_ble_eq_true rfl) (by omega) (Nat.le_refl _) (Nat.le_refl _) (hS0 (Or.inl rfl)) (c_lay hb hT _) ?_
      rintro _ _ ⟨I1, rfl, rfl, hb1, hg1⟩
      dsimp only [Option.toList, List.cons_append, List.nil_append, Nat.add_zero]
      have hf1 := hg1
      rw [clr_3] at hb1
      refine il2 (n := 58) dX8_rope_57 rfl ?_
      refine k_ireturn (ty := .int) dX8_rope_58 rfl rfl (Nat.le_refl _) (Nat.le_refl _) ?_
      exact kZ.to (by simp only [s_rope, if_pos h7, if_pos h26]) (kZ_x (hC.bd hb1 hf1 (RO.clr _ _)) (FX.bd hf1))
    · skip
      refine al0 (n := 30) dX8_rope_29 rfl ?_
      refine k_iconst (a := 3) (n := 31) dX8_rope_30 rfl rfl ?_
      refine qiX8_69 (n := 34) dX8_rope_31 rfl rfl (Nat.le_of_ble_eq_true rfl) (by omega) rfl (c_refuse3 (by omega)) (Nat.le_refl _) (Nat.le_refl _) ?_
      refine k_ireturn (ty := .int) dX8_rope_34 rfl rfl (Nat.le_refl _) (Nat.le_refl _) ?_
      exact kZ.to (by simp only [s_rope, if_pos h7, if_neg h26]) (kZ_e3 hC (FX.rf _))
  · refine al0 (n := 11) dX8_rope_10 rfl ?_
    refine k_iconst (a := 1) (n := 12) dX8_rope_11 rfl rfl ?_
    refine qiX8_69 (n := 15) dX8_rope_12 rfl rfl (Nat.le_of_ble_eq_true rfl) (by omega) rfl (c_refuse1 (by omega)) (Nat.le_refl _) (Nat.le_refl _) ?_
    refine k_ireturn (ty := .int) dX8_rope_15 rfl rfl (Nat.le_refl _) (Nat.le_refl _) ?_
    exact kZ.to (by simp only [s_rope, if_neg h7]) (kZ_e1 hC (FX.rf _))
set_option maxHeartbeats 2000000 in
set_option maxRecDepth 20000 in
theorem c_rhyme (hd : 2 ≤ d) (hC : CR I r c t) (hR : RI r) (hX : RX r) (p q : Int32) : Ct E d mX8_rhyme 0 0 [.ref 0, .int p, .int q] (kJ I) (kZ I (s_rhyme r p q)) := by
  have hb := hC.bl
  have hT := hR.TX
  have h8 := hb.c8
  have h4 := hb.t4
  refine Ct.of (L := [some (.ref 0), some (.int p), some (.int q), none]) rfl rfl (Nat.le_of_ble_eq_true rfl) ?_
  refine il1 (n := 1) dX8_rhyme_0 rfl ?_
  refine k_iconst (a := 1) (n := 2) dX8_rhyme_1 rfl rfl ?_
  refine k_bipush (a := 16) (n := 4) dX8_rhyme_2 rfl rfl ?_
  refine qiX8_65 (n := 7) dX8_rhyme_4 rfl rfl (Nat.le_of_ble_eq_true rfl) (by omega) (c_within _ _ _) (Nat.le_refl _) (Nat.le_refl _) ?_
  refine k_ifb_eq (t := 18) (n := 10) dX8_rhyme_7 (by decide) rfl (fun h7 => ?_) (fun h7 => ?_)
  · refine al0 (n := 19) dX8_rhyme_18 rfl ?_
    refine k_iconst (a := 1) (n := 20) dX8_rhyme_19 rfl rfl ?_
    refine qiX8_69 (n := 23) dX8_rhyme_20 rfl rfl (Nat.le_of_ble_eq_true rfl) (by omega) rfl (c_refuse1 (by omega)) (Nat.le_refl _) (Nat.le_refl _) ?_
    refine k_ireturn (ty := .int) dX8_rhyme_23 rfl rfl (Nat.le_refl _) (Nat.le_refl _) ?_
    exact kZ.to (by simp only [s_rhyme, if_neg h7]) (kZ_e1 hC (FX.rf _))
  · obtain ⟨n, hn1, hn2, rfl⟩ := kbt (a := 1) (b := 16) h7 (by decide) (by decide)
    refine il2 (n := 11) dX8_rhyme_10 rfl ?_
    refine il1 (n := 12) dX8_rhyme_11 rfl ?_
    refine qiX8_87 (n := 15) dX8_rhyme_12 rfl rfl (Nat.le_of_ble_eq_true rfl) (by omega) (c_isSetOf _ n hn2) (Nat.le_refl _) (Nat.le_refl _) ?_
    refine k_ifb_ne (t := 24) (n := 18) dX8_rhyme_15 (by decide) rfl (fun h15 => ?_) (fun h15 => ?_)
    · refine al0 (n := 25) dX8_rhyme_24 rfl ?_
      refine gX8_10 (n := 28) dX8_rhyme_25 rfl rfl rfl rfl ?_
      refine gX8_73 (n := 31) dX8_rhyme_28 rfl rfl rfl rfl ?_
      refine gX8_91 (n := 34) dX8_rhyme_31 rfl rfl (hS0 (Or.inl rfl)) ?_
      refine k_top (BL.f6 hb) ?_
      refine is3 (n := 35) dX8_rhyme_34 rfl trivial ?_
      refine al0 (n := 36) dX8_rhyme_35 rfl ?_
      refine gX8_10 (n := 39) dX8_rhyme_36 rfl rfl rfl rfl ?_
      refine gX8_73 (n := 42) dX8_rhyme_39 rfl rfl rfl rfl ?_
      refine il1 (n := 43) dX8_rhyme_42 rfl ?_
      refine pX8_91 (n := 46) dX8_rhyme_43 rfl rfl (hS0 (Or.inl rfl)) ?_
      refine k_gen (fun I1 e1 => ?_)
      have hb1 := BL.sf6 hb (Or.inl rfl) hT e1
      have hT1 := TX.ob hb1 hT (by omega)
      have hf1 := (FB.b e1)
      refine al0 (n := 47) dX8_rhyme_46 rfl ?_
      refine gX8_10 (n := 50) dX8_rhyme_47 rfl rfl rfl rfl ?_
      refine gX8_73 (n := 53) dX8_rhyme_50 rfl rfl rfl rfl ?_
      refine il2 (n := 54) dX8_rhyme_53 rfl ?_
      refine pX8_94 (n := 57) dX8_rhyme_54 rfl rfl (hS0 (Or.inl rfl)) ?_
      refine k_gen (fun I2 e2 => ?_)
      have hb2 := BL.sf7 hb1 (Or.inl rfl) hT1 e2
      have hT2 := TX.ob hb2 hT1 (by omega)
      have hf2 := hf1.tr (FB.b e2)
      refine il3 (n := 58) dX8_rhyme_57 rfl ?_
      refine k_ireturn (ty := .int) dX8_rhyme_58 rfl rfl (Nat.le_refl _) (Nat.le_refl _) ?_
      exact kZ.to (by simp only [s_rhyme, if_pos h7, kcl (show n < 1000 by omega), if_pos h15]; rw [upd_cm (by decide)]) (kZ_x (hC.bd hb2 hf2 (by repeat' first | exact RO.rf _ | refine RO.u ?_ (by omega))) (FX.bd hf2))
    · refine al0 (n := 19) dX8_rhyme_18 rfl ?_
      refine k_iconst (a := 1) (n := 20) dX8_rhyme_19 rfl rfl ?_
      refine qiX8_69 (n := 23) dX8_rhyme_20 rfl rfl (Nat.le_of_ble_eq_true rfl) (by omega) rfl (c_refuse1 (by omega)) (Nat.le_refl _) (Nat.le_refl _) ?_
      refine k_ireturn (ty := .int) dX8_rhyme_23 rfl rfl (Nat.le_refl _) (Nat.le_refl _) ?_
      exact kZ.to (by simp only [s_rhyme, if_pos h7, kcl (show n < 1000 by omega), if_neg h15]) (kZ_e1 hC (FX.rf _))
set_option maxHeartbeats 2000000 in
set_option maxRecDepth 20000 in
theorem c_relieve (hd : 2 ≤ d) (hC : CR I r c t) (hR : RI r) (hX : RX r) (v : Int32) : Ct E d mX8_relieve 0 0 [.ref 0, .int v] (kJ I) (kZ I (s_relieve r v)) := by
  have hb := hC.bl
  have hT := hR.TX
  have h8 := hb.c8
  have h4 := hb.t4
  refine Ct.of (L := [some (.ref 0), some (.int v), none]) rfl rfl (Nat.le_of_ble_eq_true rfl) ?_
  refine al0 (n := 1) dX8_relieve_0 rfl ?_
  refine il1 (n := 2) dX8_relieve_1 rfl ?_
  refine qiX8_103 (n := 5) dX8_relieve_2 rfl rfl (Nat.le_of_ble_eq_true rfl) (by omega) rfl (c_isTurner (by omega) hb _) (Nat.le_refl _) (Nat.le_refl _) ?_
  refine k_ifb_ne (t := 14) (n := 8) dX8_relieve_5 (by decide) rfl (fun h5 => ?_) (fun h5 => ?_)
  · refine al0 (n := 15) dX8_relieve_14 rfl ?_
    refine gX8_10 (n := 18) dX8_relieve_15 rfl rfl rfl rfl ?_
    refine gX8_73 (n := 21) dX8_relieve_18 rfl rfl rfl rfl ?_
    refine gX8_119 (n := 24) dX8_relieve_21 rfl rfl (hS0 (Or.inl rfl)) ?_
    refine k_top (BL.f10 hb) ?_
    refine is2 (n := 25) dX8_relieve_24 rfl trivial ?_
    refine al0 (n := 26) dX8_relieve_25 rfl ?_
    refine gX8_10 (n := 29) dX8_relieve_26 rfl rfl rfl rfl ?_
    refine gX8_73 (n := 32) dX8_relieve_29 rfl rfl rfl rfl ?_
    refine il1 (n := 33) dX8_relieve_32 rfl ?_
    refine pX8_119 (n := 36) dX8_relieve_33 rfl rfl (hS0 (Or.inl rfl)) ?_
    refine k_gen (fun I1 e1 => ?_)
    have hb1 := BL.sf10 hb (Or.inl rfl) hT e1
    have hT1 := TX.ob hb1 hT (by omega)
    have hf1 := (FB.b e1)
    refine il2 (n := 37) dX8_relieve_36 rfl ?_
    refine k_ireturn (ty := .int) dX8_relieve_37 rfl rfl (Nat.le_refl _) (Nat.le_refl _) ?_
    exact kZ.to (by simp only [s_relieve, if_pos h5]) (kZ_x (hC.bd hb1 hf1 (by repeat' first | exact RO.rf _ | refine RO.u ?_ (by omega))) (FX.bd hf1))
  · refine al0 (n := 9) dX8_relieve_8 rfl ?_
    refine k_iconst (a := 1) (n := 10) dX8_relieve_9 rfl rfl ?_
    refine qiX8_69 (n := 13) dX8_relieve_10 rfl rfl (Nat.le_of_ble_eq_true rfl) (by omega) rfl (c_refuse1 (by omega)) (Nat.le_refl _) (Nat.le_refl _) ?_
    refine k_ireturn (ty := .int) dX8_relieve_13 rfl rfl (Nat.le_refl _) (Nat.le_refl _) ?_
    exact kZ.to (by simp only [s_relieve, if_neg h5]) (kZ_e1 hC (FX.rf _))
set_option maxHeartbeats 2000000 in
set_option maxRecDepth 20000 in
theorem c_go (hd : 2 ≤ d) (hC : CR I r c t) (hR : RI r) (hX : RX r) (v : Int32) : Ct E d mX8_go 0 0 [.ref 0, .int v] (kJ I) (kZ I (s_go r v)) := by
  have hb := hC.bl
  have hT := hR.TX
  have h8 := hb.c8
  have h4 := hb.t4
  refine Ct.of (L := [some (.ref 0), some (.int v), none]) rfl rfl (Nat.le_of_ble_eq_true rfl) ?_
  refine il1 (n := 1) dX8_go_0 rfl ?_
  refine al0 (n := 2) dX8_go_1 rfl ?_
  refine gX8_10 (n := 5) dX8_go_2 rfl rfl rfl rfl ?_
  refine gX8_73 (n := 8) dX8_go_5 rfl rfl rfl rfl ?_
  refine gX8_76 (n := 11) dX8_go_8 rfl rfl (hS0 (Or.inl rfl)) ?_
  refine k_top ((BL.f11 hb).trans hb.c9) ?_
  refine qiX8_87 (n := 14) dX8_go_11 rfl rfl (Nat.le_of_ble_eq_true rfl) (by omega) (c_isSetOf _ c (by omega)) (Nat.le_refl _) (Nat.le_refl _) ?_
  refine k_ifb_ne (t := 23) (n := 17) dX8_go_14 (by decide) rfl (fun h14 => ?_) (fun h14 => ?_)
  · refine al0 (n := 24) dX8_go_23 rfl ?_
    refine gX8_10 (n := 27) dX8_go_24 rfl rfl rfl rfl ?_
    refine gX8_73 (n := 30) dX8_go_27 rfl rfl rfl rfl ?_
    refine gX8_190 (n := 33) dX8_go_30 rfl rfl (hS0 (Or.inl rfl)) ?_
    refine k_top (BL.f12 hb) ?_
    refine is2 (n := 34) dX8_go_33 rfl trivial ?_
    refine al0 (n := 35) dX8_go_34 rfl ?_
    refine gX8_10 (n := 38) dX8_go_35 rfl rfl rfl rfl ?_
    refine gX8_73 (n := 41) dX8_go_38 rfl rfl rfl rfl ?_
    refine il1 (n := 42) dX8_go_41 rfl ?_
    refine pX8_190 (n := 45) dX8_go_42 rfl rfl (hS0 (Or.inl rfl)) ?_
    refine k_gen (fun I1 e1 => ?_)
    have hb1 := BL.sf12 hb (Or.inl rfl) hT e1
    have hT1 := TX.ob hb1 hT (by omega)
    have hf1 := (FB.b e1)
    refine il2 (n := 46) dX8_go_45 rfl ?_
    refine k_ireturn (ty := .int) dX8_go_46 rfl rfl (Nat.le_refl _) (Nat.le_refl _) ?_
    exact kZ.to (by simp only [s_go, hb.c9, if_pos h14]) (kZ_x (hC.bd hb1 hf1 (by repeat' first | exact RO.rf _ | refine RO.u ?_ (by omega))) (FX.bd hf1))
  · refine al0 (n := 18) dX8_go_17 rfl ?_
    refine k_iconst (a := 1) (n := 19) dX8_go_18 rfl rfl ?_
    refine qiX8_69 (n := 22) dX8_go_19 rfl rfl (Nat.le_of_ble_eq_true rfl) (by omega) rfl (c_refuse1 (by omega)) (Nat.le_refl _) (Nat.le_refl _) ?_
    refine k_ireturn (ty := .int) dX8_go_22 rfl rfl (Nat.le_refl _) (Nat.le_refl _) ?_
    exact kZ.to (by simp only [s_go, hb.c9, if_neg h14]) (kZ_e1 hC (FX.rf _))
set_option maxHeartbeats 2000000 in
set_option maxRecDepth 20000 in
theorem c_wear (hd : 2 ≤ d) (hC : CR I r c t) (hR : RI r) (hX : RX r) (v : Int32) : Ct E d mX8_wear 0 0 [.ref 0, .int v] (kJ I) (kZ I (s_wear r v)) := by
  have hb := hC.bl
  have hT := hR.TX
  have h8 := hb.c8
  have h4 := hb.t4
  refine Ct.of (L := [some (.ref 0), some (.int v)]) rfl rfl (Nat.le_of_ble_eq_true rfl) ?_
  refine al0 (n := 1) dX8_wear_0 rfl ?_
  refine il1 (n := 2) dX8_wear_1 rfl ?_
  refine qiX8_129 (n := 5) dX8_wear_2 rfl rfl (Nat.le_of_ble_eq_true rfl) (by omega) rfl (c_isPlace (by omega) hb _) (Nat.le_refl _) (Nat.le_refl _) ?_
  refine k_ifb_eq (t := 23) (n := 8) dX8_wear_5 (by decide) rfl (fun h5 => ?_) (fun h5 => ?_)
  · refine al0 (n := 24) dX8_wear_23 rfl ?_
    refine k_iconst (a := 1) (n := 25) dX8_wear_24 rfl rfl ?_
    refine qiX8_69 (n := 28) dX8_wear_25 rfl rfl (Nat.le_of_ble_eq_true rfl) (by omega) rfl (c_refuse1 (by omega)) (Nat.le_refl _) (Nat.le_refl _) ?_
    refine k_ireturn (ty := .int) dX8_wear_28 rfl rfl (Nat.le_refl _) (Nat.le_refl _) ?_
    exact kZ.to (by simp only [s_wear, if_neg h5]) (kZ_e1 hC (FX.rf _))
  · obtain ⟨j, hj, rfl⟩ := kixP hR h5
    refine al0 (n := 9) dX8_wear_8 rfl ?_
    refine gX8_10 (n := 12) dX8_wear_9 rfl rfl rfl rfl ?_
    refine gX8_73 (n := 15) dX8_wear_12 rfl rfl rfl rfl ?_
    refine gX8_193 (n := 18) dX8_wear_15 rfl rfl (hS0 (Or.inl rfl)) (hP2 (Or.inl rfl)) ?_
    refine il1 (n := 19) dX8_wear_18 rfl ?_
    refine j_iald (j := j) (n := 20) dX8_wear_19 rfl (hS1 (Or.inl rfl)) rfl (by omega) (by decide) ?_
    refine k_top (BL.we hb hj) ?_
    refine k_goto (n := 28) dX8_wear_20 (by decide) ?_
    refine k_ireturn (ty := .int) dX8_wear_28 rfl rfl (Nat.le_refl _) (Nat.le_refl _) ?_
    exact kZ.to (by simp only [s_wear, if_pos h5, kcl (show j < 1000 by omega)]) (kZ_x hC (FX.rf _))
set_option maxHeartbeats 2000000 in
set_option maxRecDepth 20000 in
theorem c_splice (hd : 2 ≤ d) (hC : CR I r c t) (hR : RI r) (hX : RX r) (v q : Int32) : Ct E d mX8_splice 0 0 [.ref 0, .int v, .int q] (kJ I) (kZ I (s_splice r v q)) := by
  have hb := hC.bl
  have hT := hR.TX
  have h8 := hb.c8
  have h4 := hb.t4
  refine Ct.of (L := [some (.ref 0), some (.int v), some (.int q), none]) rfl rfl (Nat.le_of_ble_eq_true rfl) ?_
  refine al0 (n := 1) dX8_splice_0 rfl ?_
  refine il1 (n := 2) dX8_splice_1 rfl ?_
  refine qiX8_129 (n := 5) dX8_splice_2 rfl rfl (Nat.le_of_ble_eq_true rfl) (by omega) rfl (c_isPlace (by omega) hb _) (Nat.le_refl _) (Nat.le_refl _) ?_
  refine k_ifb_eq (t := 19) (n := 8) dX8_splice_5 (by decide) rfl (fun h5 => ?_) (fun h5 => ?_)
  · refine al0 (n := 20) dX8_splice_19 rfl ?_
    refine k_iconst (a := 1) (n := 21) dX8_splice_20 rfl rfl ?_
    refine qiX8_69 (n := 24) dX8_splice_21 rfl rfl (Nat.le_of_ble_eq_true rfl) (by omega) rfl (c_refuse1 (by omega)) (Nat.le_refl _) (Nat.le_refl _) ?_
    refine k_ireturn (ty := .int) dX8_splice_24 rfl rfl (Nat.le_refl _) (Nat.le_refl _) ?_
    exact kZ.to (by simp only [s_splice, if_neg h5]) (kZ_e1 hC (FX.rf _))
  · obtain ⟨j, hj, rfl⟩ := kixP hR h5
    refine il2 (n := 9) dX8_splice_8 rfl ?_
    refine k_iconst (a := 0) (n := 10) dX8_splice_9 rfl rfl ?_
    refine k_sipush (a := 999) (n := 13) dX8_splice_10 rfl rfl ?_
    refine qiX8_65 (n := 16) dX8_splice_13 rfl rfl (Nat.le_of_ble_eq_true rfl) (by omega) (c_within _ _ _) (Nat.le_refl _) (Nat.le_refl _) ?_
    refine k_ifb_ne (t := 25) (n := 19) dX8_splice_16 (by decide) rfl (fun h16 => ?_) (fun h16 => ?_)
    · refine al0 (n := 26) dX8_splice_25 rfl ?_
      refine gX8_10 (n := 29) dX8_splice_26 rfl rfl rfl rfl ?_
      refine gX8_73 (n := 32) dX8_splice_29 rfl rfl rfl rfl ?_
      refine gX8_193 (n := 35) dX8_splice_32 rfl rfl (hS0 (Or.inl rfl)) (hP2 (Or.inl rfl)) ?_
      refine il1 (n := 36) dX8_splice_35 rfl ?_
      refine j_iald (j := j) (n := 37) dX8_splice_36 rfl (hS1 (Or.inl rfl)) rfl (by omega) (by decide) ?_
      refine k_top (BL.we hb hj) ?_
      refine is3 (n := 38) dX8_splice_37 rfl trivial ?_
      refine al0 (n := 39) dX8_splice_38 rfl ?_
      refine gX8_10 (n := 42) dX8_splice_39 rfl rfl rfl rfl ?_
      refine gX8_73 (n := 45) dX8_splice_42 rfl rfl rfl rfl ?_
      refine gX8_193 (n := 48) dX8_splice_45 rfl rfl (hS0 (Or.inl rfl)) (hP2 (Or.inl rfl)) ?_
      refine il1 (n := 49) dX8_splice_48 rfl ?_
      refine il2 (n := 50) dX8_splice_49 rfl ?_
      refine j_iast (j := j) (n := 51) dX8_splice_50 rfl (hS1 (Or.inl rfl)) rfl (by omega) (by decide) ?_
      refine k_gen (fun I1 e1 => ?_)
      have hb1 := BL.sw hb (Or.inl rfl) hT hj e1
      have hT1 := TX.ob hb1 hT (by omega)
      have hf1 := (FB.w e1)
      refine il3 (n := 52) dX8_splice_51 rfl ?_
      refine k_ireturn (ty := .int) dX8_splice_52 rfl rfl (Nat.le_refl _) (Nat.le_refl _) ?_
      exact kZ.to (by simp only [s_splice, if_pos h5, kcl (show j < 1000 by omega), if_pos h16]) (kZ_x (hC.bd hb1 hf1 (by repeat' first | exact RO.rf _ | refine RO.u ?_ (by omega))) (FX.bd hf1))
    · refine al0 (n := 20) dX8_splice_19 rfl ?_
      refine k_iconst (a := 1) (n := 21) dX8_splice_20 rfl rfl ?_
      refine qiX8_69 (n := 24) dX8_splice_21 rfl rfl (Nat.le_of_ble_eq_true rfl) (by omega) rfl (c_refuse1 (by omega)) (Nat.le_refl _) (Nat.le_refl _) ?_
      refine k_ireturn (ty := .int) dX8_splice_24 rfl rfl (Nat.le_refl _) (Nat.le_refl _) ?_
      exact kZ.to (by simp only [s_splice, if_pos h5, kcl (show j < 1000 by omega), if_neg h16]) (kZ_e1 hC (FX.rf _))
set_option maxHeartbeats 2000000 in
set_option maxRecDepth 20000 in
theorem c_seed (hd : 2 ≤ d) (hC : CR I r c t) (hR : RI r) (hX : RX r) (v : Int32) : Ct E d mX8_seed 0 0 [.ref 0, .int v] (kJ I) (kZ I (s_seed r v)) := by
  have hb := hC.bl
  have hT := hR.TX
  have h8 := hb.c8
  have h4 := hb.t4
  refine Ct.of (L := [some (.ref 0), some (.int v), none]) rfl rfl (Nat.le_of_ble_eq_true rfl) ?_
  refine al0 (n := 1) dX8_seed_0 rfl ?_
  refine gX8_10 (n := 4) dX8_seed_1 rfl rfl rfl rfl ?_
  refine gX8_294 (n := 7) dX8_seed_4 rfl rfl rfl ?_
  refine k_top (CR.g7 hC) ?_
  refine is2 (n := 8) dX8_seed_7 rfl trivial ?_
  refine al0 (n := 9) dX8_seed_8 rfl ?_
  refine gX8_10 (n := 12) dX8_seed_9 rfl rfl rfl rfl ?_
  refine il1 (n := 13) dX8_seed_12 rfl ?_
  refine pX8_294 (n := 16) dX8_seed_13 rfl rfl rfl ?_
  refine k_gen (fun I1 e1 => ?_)
  have hC1 := hC.p7 hT e1
  refine il2 (n := 17) dX8_seed_16 rfl ?_
  refine k_ireturn (ty := .int) dX8_seed_17 rfl rfl (Nat.le_refl _) (Nat.le_refl _) ?_
  exact kZ.to (by simp only [s_seed]) (kZ_x hC1 (FX.k1 e1 (by decide)))
set_option maxHeartbeats 2000000 in
set_option maxRecDepth 20000 in
theorem c_tell (hd : 2 ≤ d) (hC : CR I r c t) (hR : RI r) (hX : RX r) (v : Int32) : Ct E d mX8_tell 0 0 [.ref 0, .int v] (kJ I) (kZ I (s_tell r v)) := by
  have hb := hC.bl
  have hT := hR.TX
  have h8 := hb.c8
  have h4 := hb.t4
  obtain ⟨-, -, -, -, -, ⟨n, hn, h20⟩, -⟩ := id hR
  have en : (r 5).toNatClampNeg = n := by rw [hn]; exact kcl (by omega)
  refine Ct.of (L := [some (.ref 0), some (.int v)]) rfl rfl (Nat.le_of_ble_eq_true rfl) ?_
  refine al0 (n := 1) dX8_tell_0 rfl ?_
  refine gX8_10 (n := 4) dX8_tell_1 rfl rfl rfl rfl ?_
  refine gX8_341 (n := 7) dX8_tell_4 rfl rfl rfl ?_
  refine k_top (hC.g6.trans hn) ?_
  refine k_bipush (a := 20) (n := 9) dX8_tell_7 rfl rfl ?_
  refine k_icmp_lt (t := 18) (n := 12) dX8_tell_9 (by decide) rfl (fun h9 => ?_) (fun h9 => ?_)
  · have hlt : n < 20 := Nat.lt_of_not_le fun q => absurd h9 (nI_nlt (a := n) (b := 20) q (by omega))
    have hne : ¬ r 5 = 20 := by rw [hn]; exact fun q => absurd (q ▸ h9 : (20 : Int32) < 20) (by decide)
    refine al0 (n := 19) dX8_tell_18 rfl ?_
    refine gX8_10 (n := 22) dX8_tell_19 rfl rfl rfl rfl ?_
    refine gX8_344 (n := 25) dX8_tell_22 rfl rfl rfl rfl ?_
    refine al0 (n := 26) dX8_tell_25 rfl ?_
    refine gX8_10 (n := 29) dX8_tell_26 rfl rfl rfl rfl ?_
    refine gX8_341 (n := 32) dX8_tell_29 rfl rfl rfl ?_
    refine k_top (hC.g6.trans hn) ?_
    refine il1 (n := 33) dX8_tell_32 rfl ?_
    refine j_iast (j := n) (n := 34) dX8_tell_33 rfl rfl rfl hlt (by decide) ?_
    refine k_gen (fun I1 e1 => ?_)
    have hC1 := hC.pw hT hlt e1
    have hT1 : TX (upd r (135 + n) v) := hT.u (by omega)
    refine al0 (n := 35) dX8_tell_34 rfl ?_
    refine gX8_10 (n := 38) dX8_tell_35 rfl rfl rfl rfl ?_
    refine k_dup (n := 39) dX8_tell_38 rfl rfl ?_
    refine gX8_341 (n := 42) dX8_tell_39 rfl rfl rfl ?_
    refine k_top (hC1.g6.trans ((pk_un (by omega)).trans hn)) ?_
    refine k_iconst (a := 1) (n := 43) dX8_tell_42 rfl rfl ?_
    refine k_iadd (n := 44) dX8_tell_43 rfl ?_
    refine pX8_341 (n := 47) dX8_tell_44 rfl rfl rfl ?_
    refine k_gen (fun I2 e2 => ?_)
    have hC2 := hC1.p6 hT1 e2
    refine al0 (n := 48) dX8_tell_47 rfl ?_
    refine gX8_10 (n := 51) dX8_tell_48 rfl rfl rfl rfl ?_
    refine gX8_341 (n := 54) dX8_tell_51 rfl rfl rfl ?_
    refine k_top (hC2.g6.trans pk_us) ?_
    refine k_ireturn (ty := .int) dX8_tell_54 rfl rfl (Nat.le_refl _) (Nat.le_refl _) ?_
    exact kZ.to (by simp only [s_tell, en, if_neg hne]; rw [hn]) (kZ_x hC2 ((FX.k1 e1 (by decide)).tr (FX.k1 e2 (by decide))))
  · have hne : r 5 = 20 := by rw [hn, show n = 20 from Nat.le_antisymm h20 (Nat.le_of_not_lt fun q => h9 (nI_lt q (by decide)))]; rfl
    refine al0 (n := 13) dX8_tell_12 rfl ?_
    refine k_iconst (a := 4) (n := 14) dX8_tell_13 rfl rfl ?_
    refine qiX8_69 (n := 17) dX8_tell_14 rfl rfl (Nat.le_of_ble_eq_true rfl) (by omega) rfl (c_refuse4 (by omega)) (Nat.le_refl _) (Nat.le_refl _) ?_
    refine k_ireturn (ty := .int) dX8_tell_17 rfl rfl (Nat.le_refl _) (Nat.le_refl _) ?_
    exact kZ.to (by simp only [s_tell, if_pos hne]) (kZ_e4 hC (FX.rf _))
set_option maxHeartbeats 2000000 in
set_option maxRecDepth 20000 in
theorem c_told (hd : 2 ≤ d) (hC : CR I r c t) (hR : RI r) (hX : RX r) (v : Int32) (h72 : ∀ k, k < 6 → I 72 k = I 86 k) : Ct E d mX8_told 0 0 [.ref 0, .int v] (kJ I) (kZ I (s_told I r v)) := by
  have hb := hC.bl
  have hT := hR.TX
  have h8 := hb.c8
  have h4 := hb.t4
  refine Ct.of (L := [some (.ref 0), some (.int v)]) rfl rfl (Nat.le_of_ble_eq_true rfl) ?_
  refine il1 (n := 1) dX8_told_0 rfl ?_
  refine k_iconst (a := 1) (n := 2) dX8_told_1 rfl rfl ?_
  refine k_iconst (a := 5) (n := 3) dX8_told_2 rfl rfl ?_
  refine qiX8_65 (n := 6) dX8_told_3 rfl rfl (Nat.le_of_ble_eq_true rfl) (by omega) (c_within _ _ _) (Nat.le_refl _) (Nat.le_refl _) ?_
  refine k_ifb_eq (t := 18) (n := 9) dX8_told_6 (by decide) rfl (fun h6 => ?_) (fun h6 => ?_)
  · refine al0 (n := 19) dX8_told_18 rfl ?_
    refine k_iconst (a := 1) (n := 20) dX8_told_19 rfl rfl ?_
    refine qiX8_69 (n := 23) dX8_told_20 rfl rfl (Nat.le_of_ble_eq_true rfl) (by omega) rfl (c_refuse1 (by omega)) (Nat.le_refl _) (Nat.le_refl _) ?_
    refine k_ireturn (ty := .int) dX8_told_23 rfl rfl (Nat.le_refl _) (Nat.le_refl _) ?_
    exact kZ.to (by simp only [s_told, if_neg h6]) (kZ_e1 hC (FX.rf _))
  · obtain ⟨k, hk1, hk, rfl⟩ := kbt (a := 1) (b := 5) h6 (by decide) (by decide)
    refine al0 (n := 10) dX8_told_9 rfl ?_
    refine gX8_61 (n := 13) dX8_told_10 rfl rfl rfl rfl ?_
    refine il1 (n := 14) dX8_told_13 rfl ?_
    refine j_iald (j := k) (n := 15) dX8_told_14 rfl rfl rfl (by omega) (by decide) ?_
    refine k_top (h72 k (by omega)) ?_
    refine k_goto (n := 23) dX8_told_15 (by decide) ?_
    refine k_ireturn (ty := .int) dX8_told_23 rfl rfl (Nat.le_refl _) (Nat.le_refl _) ?_
    exact kZ.to (by simp only [s_told, if_pos h6, kcl (show k < 1000 by omega)]) (kZ_x hC (FX.rf _))
set_option maxHeartbeats 2000000 in
set_option maxRecDepth 20000 in
theorem c_trace (hd : 2 ≤ d) (hC : CR I r c t) (hR : RI r) (hX : RX r) (v : Int32) (hv : ∃ n, I 81 20 = nI n ∧ n ≤ 40) (h20 : I 69 1 = I 81 20) (h91 : ∀ k, k < 40 → I 70 k = I 91 k) : Ct E d mX8_trace 0 0 [.ref 0, .int v] (kJ I) (kZ I (s_trace I r v)) := by
  have hb := hC.bl
  have hT := hR.TX
  have h8 := hb.c8
  have h4 := hb.t4
  obtain ⟨n, hn, hn40⟩ := hv
  refine Ct.of (L := [some (.ref 0), some (.int v)]) rfl rfl (Nat.le_of_ble_eq_true rfl) ?_
  refine il1 (n := 1) dX8_trace_0 rfl ?_
  refine k_iconst (a := 0) (n := 2) dX8_trace_1 rfl rfl ?_
  refine al0 (n := 3) dX8_trace_2 rfl ?_
  refine gX8_51 (n := 6) dX8_trace_3 rfl rfl rfl rfl ?_
  refine gX8_301 (n := 9) dX8_trace_6 rfl rfl rfl ?_
  refine k_top h20 ?_
  refine k_iconst (a := 1) (n := 10) dX8_trace_9 rfl rfl ?_
  refine k_isub (n := 11) dX8_trace_10 rfl ?_
  refine qiX8_65 (n := 14) dX8_trace_11 rfl rfl (Nat.le_of_ble_eq_true rfl) (by omega) (c_within _ _ _) (Nat.le_refl _) (Nat.le_refl _) ?_
  refine k_ifb_eq (t := 29) (n := 17) dX8_trace_14 (by decide) rfl (fun h14 => ?_) (fun h14 => ?_)
  · refine al0 (n := 30) dX8_trace_29 rfl ?_
    refine k_iconst (a := 2) (n := 31) dX8_trace_30 rfl rfl ?_
    refine qiX8_69 (n := 34) dX8_trace_31 rfl rfl (Nat.le_of_ble_eq_true rfl) (by omega) rfl (c_refuse2 (by omega)) (Nat.le_refl _) (Nat.le_refl _) ?_
    refine k_ireturn (ty := .int) dX8_trace_34 rfl rfl (Nat.le_refl _) (Nat.le_refl _) ?_
    exact kZ.to (by simp only [s_trace, if_neg h14]) (kZ_e2 hC (FX.rf _))
  · have g14 : 0 ≤ v ∧ v ≤ nI n - 1 := hn ▸ h14
    obtain ⟨k, hk, rfl⟩ := kix g14 (by omega)
    refine al0 (n := 18) dX8_trace_17 rfl ?_
    refine gX8_51 (n := 21) dX8_trace_18 rfl rfl rfl rfl ?_
    refine gX8_304 (n := 24) dX8_trace_21 rfl rfl rfl rfl ?_
    refine il1 (n := 25) dX8_trace_24 rfl ?_
    refine j_iald (j := k) (n := 26) dX8_trace_25 rfl rfl rfl (by omega) (by decide) ?_
    refine k_top (h91 k (by omega)) ?_
    refine k_goto (n := 34) dX8_trace_26 (by decide) ?_
    refine k_ireturn (ty := .int) dX8_trace_34 rfl rfl (Nat.le_refl _) (Nat.le_refl _) ?_
    exact kZ.to (by simp only [s_trace, if_pos h14, kcl (show k < 1000 by omega)]) (kZ_x hC (FX.rf _))
set_option maxHeartbeats 2000000 in
set_option maxRecDepth 20000 in
theorem c_ofTurner (hd : 2 ≤ d) (hC : CR I r c t) (hR : RI r) (hX : RX r) (v q : Int32) : Ct E d mX8_ofTurner 0 0 [.ref 0, .int v, .int q] (kJ I) (kZ I (s_ofTurner r v q)) := by
  have hb := hC.bl
  have hT := hR.TX
  have h8 := hb.c8
  have h4 := hb.t4
  refine Ct.of (L := [some (.ref 0), some (.int v), some (.int q), none]) rfl rfl (Nat.le_of_ble_eq_true rfl) ?_
  refine al0 (n := 1) dX8_ofTurner_0 rfl ?_
  refine il1 (n := 2) dX8_ofTurner_1 rfl ?_
  refine qiX8_103 (n := 5) dX8_ofTurner_2 rfl rfl (Nat.le_of_ble_eq_true rfl) (by omega) rfl (c_isTurner (by omega) hb _) (Nat.le_refl _) (Nat.le_refl _) ?_
  refine k_ifb_eq (t := 17) (n := 8) dX8_ofTurner_5 (by decide) rfl (fun h5 => ?_) (fun h5 => ?_)
  · refine al0 (n := 18) dX8_ofTurner_17 rfl ?_
    refine k_iconst (a := 1) (n := 19) dX8_ofTurner_18 rfl rfl ?_
    refine qiX8_69 (n := 22) dX8_ofTurner_19 rfl rfl (Nat.le_of_ble_eq_true rfl) (by omega) rfl (c_refuse1 (by omega)) (Nat.le_refl _) (Nat.le_refl _) ?_
    refine k_ireturn (ty := .int) dX8_ofTurner_22 rfl rfl (Nat.le_refl _) (Nat.le_refl _) ?_
    exact kZ.to (by simp only [s_ofTurner, if_neg h5]) (kZ_e1 hC (FX.rf _))
  · obtain ⟨j, hj, rfl⟩ := kixt hb h5
    refine il2 (n := 9) dX8_ofTurner_8 rfl ?_
    refine k_iconst (a := 0) (n := 10) dX8_ofTurner_9 rfl rfl ?_
    refine k_iconst (a := 2) (n := 11) dX8_ofTurner_10 rfl rfl ?_
    refine qiX8_65 (n := 14) dX8_ofTurner_11 rfl rfl (Nat.le_of_ble_eq_true rfl) (by omega) (c_within _ _ _) (Nat.le_refl _) (Nat.le_refl _) ?_
    refine k_ifb_ne (t := 23) (n := 17) dX8_ofTurner_14 (by decide) rfl (fun h14 => ?_) (fun h14 => ?_)
    · refine al0 (n := 24) dX8_ofTurner_23 rfl ?_
      refine gX8_10 (n := 27) dX8_ofTurner_24 rfl rfl rfl rfl ?_
      refine gX8_73 (n := 30) dX8_ofTurner_27 rfl rfl rfl rfl ?_
      refine gX8_107 (n := 33) dX8_ofTurner_30 rfl rfl (hS0 (Or.inl rfl)) (hP3 (Or.inl rfl)) ?_
      refine il1 (n := 34) dX8_ofTurner_33 rfl ?_
      refine j_aald (j := j) (n := 35) dX8_ofTurner_34 rfl (hS2 (Or.inl rfl)) hOT rfl (by omega) (by decide) (hP5 (Or.inl rfl) (by omega)) ?_
      refine as3 (n := 36) dX8_ofTurner_35 rfl trivial ?_
      refine il2 (n := 37) dX8_ofTurner_36 rfl ?_
      refine k_if_ne (t := 45) (n := 40) dX8_ofTurner_37 (by decide) rfl (fun h37 => ?_) (fun h37 => ?_)
      · refine il2 (n := 46) dX8_ofTurner_45 rfl ?_
        refine k_iconst (a := 1) (n := 47) dX8_ofTurner_46 rfl rfl ?_
        refine k_icmp_ne (t := 57) (n := 50) dX8_ofTurner_47 (by decide) rfl (fun h47 => ?_) (fun h47 => ?_)
        · have hq2 : q = 2 := by
            rcases kbt (a := 0) (b := 2) h14 (by decide) (by decide) with ⟨k, -, hk, rfl⟩
            rcases (show k = 0 ∨ k = 1 ∨ k = 2 by omega) with rfl | rfl | rfl
            · exact absurd rfl h37
            · exact absurd rfl h47
            · rfl
          subst hq2
          refine al0 (n := 58) dX8_ofTurner_57 rfl ?_
          refine gX8_10 (n := 61) dX8_ofTurner_58 rfl rfl rfl rfl ?_
          refine gX8_73 (n := 64) dX8_ofTurner_61 rfl rfl rfl rfl ?_
          refine gX8_119 (n := 67) dX8_ofTurner_64 rfl rfl (hS0 (Or.inl rfl)) ?_
          refine k_top (BL.f10 hb) ?_
          refine il1 (n := 68) dX8_ofTurner_67 rfl ?_
          refine k_icmp_ne (t := 75) (n := 71) dX8_ofTurner_68 (by decide) rfl (fun h68 => ?_) (fun h68 => ?_)
          · refine k_iconst (a := 0) (n := 76) dX8_ofTurner_75 rfl rfl ?_
            refine qiX8_122 (n := 79) dX8_ofTurner_76 rfl rfl (Nat.le_of_ble_eq_true rfl) (by omega) (c_asN _ (by first | exact Or.inl rfl | exact Or.inr rfl | exact kb_01 _)) (Nat.le_refl _) (Nat.le_refl _) ?_
            refine k_ireturn (ty := .int) dX8_ofTurner_79 rfl rfl (Nat.le_refl _) (Nat.le_refl _) ?_
            first
              | exact kZ.to (by simp only [s_ofTurner, if_pos h5, kcl (show j < 1000 by omega), if_pos h14, if_neg h37, if_neg h47, if_neg h68, if_neg (show ¬ (2 : Int32) ≤ 1 by decide)]; rfl) (kZ_x hC (FX.rf _))
              | exact kZ.to (by simp only [s_ofTurner, if_pos h5, kcl (show j < 1000 by omega), if_pos h14, if_neg h37, if_neg h47, if_neg h68, if_pos (show (2 : Int32) ≤ 2 by decide)]) (kZ_x hC (FX.rf _))
          · refine k_iconst (a := 1) (n := 72) dX8_ofTurner_71 rfl rfl ?_
            refine k_goto (n := 76) dX8_ofTurner_72 (by decide) ?_
            refine qiX8_122 (n := 79) dX8_ofTurner_76 rfl rfl (Nat.le_of_ble_eq_true rfl) (by omega) (c_asN _ (by first | exact Or.inl rfl | exact Or.inr rfl | exact kb_01 _)) (Nat.le_refl _) (Nat.le_refl _) ?_
            refine k_ireturn (ty := .int) dX8_ofTurner_79 rfl rfl (Nat.le_refl _) (Nat.le_refl _) ?_
            first
              | exact kZ.to (by simp only [s_ofTurner, if_pos h5, kcl (show j < 1000 by omega), if_pos h14, if_neg h37, if_neg h47, if_pos h68, if_neg (show ¬ (2 : Int32) ≤ 1 by decide)]; rfl) (kZ_x hC (FX.rf _))
              | exact kZ.to (by simp only [s_ofTurner, if_pos h5, kcl (show j < 1000 by omega), if_pos h14, if_neg h37, if_neg h47, if_pos h68, if_pos (show (2 : Int32) ≤ 2 by decide)]) (kZ_x hC (FX.rf _))
        · subst h47
          refine al3 (n := 51) dX8_ofTurner_50 rfl ?_
          refine gX8_116 (n := 54) dX8_ofTurner_51 rfl rfl (hS4 (Or.inl rfl) (by omega)) ?_
          refine k_top (BL.tu1 hb hj) ?_
          refine k_goto (n := 79) dX8_ofTurner_54 (by decide) ?_
          refine k_ireturn (ty := .int) dX8_ofTurner_79 rfl rfl (Nat.le_refl _) (Nat.le_refl _) ?_
          first
            | exact kZ.to (by simp only [s_ofTurner, if_pos h5, kcl (show j < 1000 by omega), if_pos h14, if_neg h37, if_neg (show ¬ (2 : Int32) ≤ 1 by decide)]; rfl) (kZ_x hC (FX.rf _))
            | exact kZ.to (by simp only [s_ofTurner, if_pos h5, kcl (show j < 1000 by omega), if_pos h14, if_neg h37, if_pos (show (2 : Int32) ≤ 2 by decide)]) (kZ_x hC (FX.rf _))
      · subst h37
        refine al3 (n := 41) dX8_ofTurner_40 rfl ?_
        refine gX8_111 (n := 44) dX8_ofTurner_41 rfl rfl (hS4 (Or.inl rfl) (by omega)) ?_
        refine k_top (BL.tu0 hb hj) ?_
        refine k_ireturn (ty := .int) dX8_ofTurner_44 rfl rfl (Nat.le_refl _) (Nat.le_refl _) ?_
        exact kZ.to (by simp only [s_ofTurner, if_pos h5, kcl (show j < 1000 by omega), if_pos h14, if_neg (show ¬ (2 : Int32) ≤ 0 by decide)]; rfl) (kZ_x hC (FX.rf _))
    · refine al0 (n := 18) dX8_ofTurner_17 rfl ?_
      refine k_iconst (a := 1) (n := 19) dX8_ofTurner_18 rfl rfl ?_
      refine qiX8_69 (n := 22) dX8_ofTurner_19 rfl rfl (Nat.le_of_ble_eq_true rfl) (by omega) rfl (c_refuse1 (by omega)) (Nat.le_refl _) (Nat.le_refl _) ?_
      refine k_ireturn (ty := .int) dX8_ofTurner_22 rfl rfl (Nat.le_refl _) (Nat.le_refl _) ?_
      exact kZ.to (by simp only [s_ofTurner, if_pos h5, kcl (show j < 1000 by omega), if_neg h14]) (kZ_e1 hC (FX.rf _))
theorem rel_le {r : Nat → Int32} (hX : RX r) : ∀ n, n + 1 ≤ 4 → ∃ b, b ≤ n ∧ relF r (n + 1) = (nI b, r (21 + 2 * b) - r (21 + 2 * b + 1))
  | 0, _ => by
    obtain ⟨s1, hs1, hs2⟩ := hX.s (p := 0) (by decide)
    obtain ⟨t1, ht1, ht2⟩ := hX.t (p := 0) (by decide)
    refine ⟨0, Nat.le_refl _, ?_⟩
    have e : ∀ a, a < 100 → ∀ b, b < 100 → ¬ nI a - nI b ≤ -200 := by decide +kernel
    have := e s1 (by omega) t1 (by omega)
    rw [← hs1, ← ht1] at this
    rw [show relF r (0 + 1) = (if r (21 + 2 * 0) - r (21 + 2 * 0 + 1) ≤ -200 then 0 else nI 0, if r (21 + 2 * 0) - r (21 + 2 * 0 + 1) ≤ -200 then -200 else r (21 + 2 * 0) - r (21 + 2 * 0 + 1)) from rfl, if_neg this, if_neg this]
  | n + 1, h => by
    obtain ⟨b, hb, e⟩ := rel_le hX n (by omega)
    rw [relF, e]
    by_cases q : r (21 + 2 * (n + 1)) - r (21 + 2 * (n + 1) + 1) ≤ r (21 + 2 * b) - r (21 + 2 * b + 1)
    · exact ⟨b, by omega, by simp only [if_pos q]⟩
    · exact ⟨n + 1, Nat.le_refl _, by simp only [if_neg q]⟩
set_option maxHeartbeats 2000000 in
set_option maxRecDepth 20000 in
theorem c_relief_l (hd : 1 ≤ d) (hC : CR I r c t) (hX : RX r) (Q : Option Value → kM → Prop) (hQ : Q (some (.int (relF r t).1)) (kJ I)) (m : Nat) : ∀ (i b : Nat), i + m = t → 1 ≤ i → b < i → relF r i = (nI b, r (21 + 2 * b) - r (21 + 2 * b + 1)) → Wd E d mX8_relief 0 0 0 0 23 [some (.ref 0), some (.int (nI b)), some (.int (nI i))] [] (kJ I) Q := by
  induction m with
  | zero =>
    intro i b hi h1 hbi hre
    have hb := hC.bl
    have h4 := hb.t4
    have e : i = t := by omega
    subst e
    refine il2 (n := 24) dX8_relief_23 rfl ?_
    refine al0 (n := 25) dX8_relief_24 rfl ?_
    refine gX8_10 (n := 28) dX8_relief_25 rfl rfl rfl rfl ?_
    refine gX8_73 (n := 31) dX8_relief_28 rfl rfl rfl rfl ?_
    refine gX8_97 (n := 34) dX8_relief_31 rfl rfl (hS0 (Or.inl rfl)) ?_
    refine k_top ((BL.f9 hb).trans hb.t8) ?_
    refine k_icmp_ge (t := 78) (n := 37) dX8_relief_34 (by decide) rfl (fun h34 => ?_) (fun h34 => ?_)
    · refine il1 (n := 79) dX8_relief_78 rfl ?_
      refine k_ireturn (ty := .int) dX8_relief_79 rfl rfl (Nat.le_refl _) (Nat.le_refl _) ?_
      rw [hre] at hQ
      exact hQ
    · exact absurd (Int32.le_refl _) h34
  | succ m ih =>
    intro i b hi h1 hbi hre
    have hb := hC.bl
    have h4 := hb.t4
    have hit : i < t := by omega
    have hbt : b < t := by omega
    refine il2 (n := 24) dX8_relief_23 rfl ?_
    refine al0 (n := 25) dX8_relief_24 rfl ?_
    refine gX8_10 (n := 28) dX8_relief_25 rfl rfl rfl rfl ?_
    refine gX8_73 (n := 31) dX8_relief_28 rfl rfl rfl rfl ?_
    refine gX8_97 (n := 34) dX8_relief_31 rfl rfl (hS0 (Or.inl rfl)) ?_
    refine k_top ((BL.f9 hb).trans hb.t8) ?_
    refine k_icmp_ge (t := 78) (n := 37) dX8_relief_34 (by decide) rfl (fun h34 => ?_) (fun h34 => ?_)
    · exact absurd h34 (nI_ge (by omega) (by omega))
    · refine al0 (n := 38) dX8_relief_37 rfl ?_
      refine gX8_10 (n := 41) dX8_relief_38 rfl rfl rfl rfl ?_
      refine gX8_73 (n := 44) dX8_relief_41 rfl rfl rfl rfl ?_
      refine gX8_107 (n := 47) dX8_relief_44 rfl rfl (hS0 (Or.inl rfl)) (hP3 (Or.inl rfl)) ?_
      refine il2 (n := 48) dX8_relief_47 rfl ?_
      refine j_aald (j := i) (n := 49) dX8_relief_48 rfl (hS2 (Or.inl rfl)) hOT rfl (by omega) (by decide) (hP5 (Or.inl rfl) (by omega)) ?_
      refine qiX8_267 (n := 52) dX8_relief_49 rfl rfl (Nat.le_of_ble_eq_true rfl) (by omega) (hS4 (Or.inl rfl) (by omega)) (c_left (Or.inl rfl) hb i hit) (Nat.le_refl _) (Nat.le_refl _) ?_
      refine al0 (n := 53) dX8_relief_52 rfl ?_
      refine gX8_10 (n := 56) dX8_relief_53 rfl rfl rfl rfl ?_
      refine gX8_73 (n := 59) dX8_relief_56 rfl rfl rfl rfl ?_
      refine gX8_107 (n := 62) dX8_relief_59 rfl rfl (hS0 (Or.inl rfl)) (hP3 (Or.inl rfl)) ?_
      refine il1 (n := 63) dX8_relief_62 rfl ?_
      refine j_aald (j := b) (n := 64) dX8_relief_63 rfl (hS2 (Or.inl rfl)) hOT rfl (by omega) (by decide) (hP5 (Or.inl rfl) (by omega)) ?_
      refine qiX8_267 (n := 67) dX8_relief_64 rfl rfl (Nat.le_of_ble_eq_true rfl) (by omega) (hS4 (Or.inl rfl) (by omega)) (c_left (Or.inl rfl) hb b hbt) (Nat.le_refl _) (Nat.le_refl _) ?_
      refine k_icmp_le (t := 72) (n := 70) dX8_relief_67 (by decide) rfl (fun h67 => ?_) (fun h67 => ?_)
      · refine ii2 (n := 75) dX8_relief_72 rfl (ki1 _) trivial ?_
        rw [nI_1]
        refine k_goto (n := 23) dX8_relief_75 (by decide) ?_
        first
          | exact ih (i + 1) b (by omega) (by omega) (by omega) (by rw [relF, hre]; simp only [if_pos h67])
          | exact ih (i + 1) i (by omega) (by omega) (by omega) (by rw [relF, hre]; simp only [if_neg h67])
      · refine il2 (n := 71) dX8_relief_70 rfl ?_
        refine is1 (n := 72) dX8_relief_71 rfl trivial ?_
        refine ii2 (n := 75) dX8_relief_72 rfl (ki1 _) trivial ?_
        rw [nI_1]
        refine k_goto (n := 23) dX8_relief_75 (by decide) ?_
        first
          | exact ih (i + 1) b (by omega) (by omega) (by omega) (by rw [relF, hre]; simp only [if_pos h67])
          | exact ih (i + 1) i (by omega) (by omega) (by omega) (by rw [relF, hre]; simp only [if_neg h67])
set_option maxHeartbeats 2000000 in
set_option maxRecDepth 20000 in
theorem c_relief (hd : 2 ≤ d) (hC : CR I r c t) (hR : RI r) (hX : RX r)  : Ct E d mX8_relief 0 0 [.ref 0] (kJ I) (kZ I (s_relief r)) := by
  have hb := hC.bl
  have hT := hR.TX
  have h8 := hb.c8
  have h4 := hb.t4
  refine Ct.of (L := [some (.ref 0), none, none]) rfl rfl (Nat.le_of_ble_eq_true rfl) ?_
  refine al0 (n := 1) dX8_relief_0 rfl ?_
  refine gX8_10 (n := 4) dX8_relief_1 rfl rfl rfl rfl ?_
  refine gX8_73 (n := 7) dX8_relief_4 rfl rfl rfl rfl ?_
  refine gX8_97 (n := 10) dX8_relief_7 rfl rfl (hS0 (Or.inl rfl)) ?_
  refine k_top ((BL.f9 hb).trans hb.t8) ?_
  refine k_if_ne (t := 19) (n := 13) dX8_relief_10 (by decide) rfl (fun h10 => ?_) (fun h10 => ?_)
  · have e0 : ¬ r 8 = 0 := by rw [hb.t8]; exact h10
    have ht0 : 1 ≤ t := Nat.pos_of_ne_zero fun q => h10 (by rw [q]; rfl)
    have et : (r 8).toNatClampNeg = t := by rw [hb.t8]; exact kcl (by omega)
    refine k_iconst (a := 0) (n := 20) dX8_relief_19 rfl rfl ?_
    refine is1 (n := 21) dX8_relief_20 rfl trivial ?_
    refine k_iconst (a := 1) (n := 22) dX8_relief_21 rfl rfl ?_
    refine is2 (n := 23) dX8_relief_22 rfl trivial ?_
    refine c_relief_l (by omega) hC hX _ ?_ (t - 1) 1 0 (by omega) (by omega) (by omega) ?_
    · exact kZ.to (by simp only [s_relief, if_neg e0, et]) (kZ_x hC (FX.rf _))
    · obtain ⟨b, hb0, e⟩ := rel_le hX 0 (by omega)
      rw [show b = 0 by omega] at e
      exact e
  · have e0 : r 8 = 0 := hb.t8.trans h10
    refine al0 (n := 14) dX8_relief_13 rfl ?_
    refine k_iconst (a := 2) (n := 15) dX8_relief_14 rfl rfl ?_
    refine qiX8_69 (n := 18) dX8_relief_15 rfl rfl (Nat.le_of_ble_eq_true rfl) (by omega) rfl (c_refuse2 (by omega)) (Nat.le_refl _) (Nat.le_refl _) ?_
    refine k_ireturn (ty := .int) dX8_relief_18 rfl rfl (Nat.le_refl _) (Nat.le_refl _) ?_
    exact kZ.to (by simp only [s_relief, if_pos e0]) (kZ_e2 hC (FX.rf _))
theorem s_count_out (I : Nat → Nat → Int32) (r : Nat → Int32) (v : Int32) (h : ¬ (0 ≤ v ∧ v ≤ 13)) : s_count I r v = sB r := by
  have e : ∀ k : Nat, k ≤ 13 → ¬ v = nI k := fun k hk q => h (q ▸ ⟨Int32.not_lt.mp (nI_nlt (a := k) (b := 0) (by omega) (by omega)), Int32.not_lt.mp (nI_nlt (a := 13) (b := k) hk (by omega))⟩)
  unfold s_count
  rw [if_neg (show ¬ v = 0 from e 0 (by decide)), if_neg (show ¬ v = 1 from e 1 (by decide)), if_neg (show ¬ v = 2 from e 2 (by decide)), if_neg (show ¬ v = 3 from e 3 (by decide)), if_neg (show ¬ v = 4 from e 4 (by decide)), if_neg (show ¬ v = 5 from e 5 (by decide)), if_neg (show ¬ v = 6 from e 6 (by decide)), if_neg (show ¬ v = 7 from e 7 (by decide)), if_neg (show ¬ v = 8 from e 8 (by decide)), if_neg (show ¬ v = 9 from e 9 (by decide)), if_neg (show ¬ v = 10 from e 10 (by decide)), if_neg (show ¬ v = 11 from e 11 (by decide)), if_neg (show ¬ v = 12 from e 12 (by decide)), if_neg (show ¬ v = 13 from e 13 (by decide))]
set_option maxHeartbeats 2000000 in
set_option maxRecDepth 20000 in
theorem c_count (hd : 2 ≤ d) (hC : CR I r c t) (hR : RI r) (hX : RX r) (v : Int32) (h20 : I 69 1 = I 81 20) : Ct E d mX8_count 0 0 [.ref 0, .int v] (kJ I) (kZ I (s_count I r v)) := by
  have hb := hC.bl
  have hT := hR.TX
  have h8 := hb.c8
  have h4 := hb.t4
  refine Ct.of (L := [some (.ref 0), some (.int v)]) rfl rfl (Nat.le_of_ble_eq_true rfl) ?_
  refine il1 (n := 1) dX8_count_0 rfl ?_
  by_cases hin : 0 ≤ v ∧ v ≤ 13
  · obtain ⟨k, -, hk, rfl⟩ := kbt (a := 0) (b := 13) hin (by decide) (by decide)
    rcases (show k = 0 ∨ k = 1 ∨ k = 2 ∨ k = 3 ∨ k = 4 ∨ k = 5 ∨ k = 6 ∨ k = 7 ∨ k = 8 ∨ k = 9 ∨ k = 10 ∨ k = 11 ∨ k = 12 ∨ k = 13 by omega) with rfl | rfl | rfl | rfl | rfl | rfl | rfl | rfl | rfl | rfl | rfl | rfl | rfl | rfl
    · refine k_swIn (t := 72) (off := 71) dX8_count_1 (by decide) (by decide) (by decide) (by decide) ?_
      refine al0 (n := 73) dX8_count_72 rfl ?_
      refine gX8_10 (n := 76) dX8_count_73 rfl rfl rfl rfl ?_
      refine gX8_73 (n := 79) dX8_count_76 rfl rfl rfl rfl ?_
      refine gX8_80 (n := 82) dX8_count_79 rfl rfl (hS0 (Or.inl rfl)) ?_
      refine k_top (BL.f5 hb) ?_
      refine k_ireturn (ty := .int) dX8_count_82 rfl rfl (Nat.le_refl _) (Nat.le_refl _) ?_
      exact kZ.to (by unfold s_count; rw [if_pos (show nI 0 = 0 from rfl)]) (kZ_x hC (FX.rf _))
    · refine k_swIn (t := 83) (off := 82) dX8_count_1 (by decide) (by decide) (by decide) (by decide) ?_
      refine al0 (n := 84) dX8_count_83 rfl ?_
      refine gX8_10 (n := 87) dX8_count_84 rfl rfl rfl rfl ?_
      refine gX8_73 (n := 90) dX8_count_87 rfl rfl rfl rfl ?_
      refine gX8_91 (n := 93) dX8_count_90 rfl rfl (hS0 (Or.inl rfl)) ?_
      refine k_top (BL.f6 hb) ?_
      refine k_ireturn (ty := .int) dX8_count_93 rfl rfl (Nat.le_refl _) (Nat.le_refl _) ?_
      exact kZ.to (by unfold s_count; rw [if_neg (show ¬ nI 1 = 0 by decide), if_pos (show nI 1 = 1 from rfl)]) (kZ_x hC (FX.rf _))
    · refine k_swIn (t := 94) (off := 93) dX8_count_1 (by decide) (by decide) (by decide) (by decide) ?_
      refine al0 (n := 95) dX8_count_94 rfl ?_
      refine gX8_10 (n := 98) dX8_count_95 rfl rfl rfl rfl ?_
      refine gX8_73 (n := 101) dX8_count_98 rfl rfl rfl rfl ?_
      refine gX8_94 (n := 104) dX8_count_101 rfl rfl (hS0 (Or.inl rfl)) ?_
      refine k_top (BL.f7 hb) ?_
      refine k_ireturn (ty := .int) dX8_count_104 rfl rfl (Nat.le_refl _) (Nat.le_refl _) ?_
      exact kZ.to (by unfold s_count; rw [if_neg (show ¬ nI 2 = 0 by decide), if_neg (show ¬ nI 2 = 1 by decide), if_pos (show nI 2 = 2 from rfl)]) (kZ_x hC (FX.rf _))
    · refine k_swIn (t := 105) (off := 104) dX8_count_1 (by decide) (by decide) (by decide) (by decide) ?_
      refine al0 (n := 106) dX8_count_105 rfl ?_
      refine gX8_10 (n := 109) dX8_count_106 rfl rfl rfl rfl ?_
      refine gX8_73 (n := 112) dX8_count_109 rfl rfl rfl rfl ?_
      refine gX8_227 (n := 115) dX8_count_112 rfl rfl (hS0 (Or.inl rfl)) ?_
      refine k_top (BL.f8 hb) ?_
      refine k_ireturn (ty := .int) dX8_count_115 rfl rfl (Nat.le_refl _) (Nat.le_refl _) ?_
      exact kZ.to (by unfold s_count; rw [if_neg (show ¬ nI 3 = 0 by decide), if_neg (show ¬ nI 3 = 1 by decide), if_neg (show ¬ nI 3 = 2 by decide), if_pos (show nI 3 = 3 from rfl)]) (kZ_x hC (FX.rf _))
    · refine k_swIn (t := 116) (off := 115) dX8_count_1 (by decide) (by decide) (by decide) (by decide) ?_
      refine al0 (n := 117) dX8_count_116 rfl ?_
      refine gX8_10 (n := 120) dX8_count_117 rfl rfl rfl rfl ?_
      refine gX8_73 (n := 123) dX8_count_120 rfl rfl rfl rfl ?_
      refine gX8_97 (n := 126) dX8_count_123 rfl rfl (hS0 (Or.inl rfl)) ?_
      refine k_top (BL.f9 hb) ?_
      refine k_ireturn (ty := .int) dX8_count_126 rfl rfl (Nat.le_refl _) (Nat.le_refl _) ?_
      exact kZ.to (by unfold s_count; rw [if_neg (show ¬ nI 4 = 0 by decide), if_neg (show ¬ nI 4 = 1 by decide), if_neg (show ¬ nI 4 = 2 by decide), if_neg (show ¬ nI 4 = 3 by decide), if_pos (show nI 4 = 4 from rfl)]) (kZ_x hC (FX.rf _))
    · refine k_swIn (t := 127) (off := 126) dX8_count_1 (by decide) (by decide) (by decide) (by decide) ?_
      refine al0 (n := 128) dX8_count_127 rfl ?_
      refine gX8_10 (n := 131) dX8_count_128 rfl rfl rfl rfl ?_
      refine gX8_73 (n := 134) dX8_count_131 rfl rfl rfl rfl ?_
      refine gX8_119 (n := 137) dX8_count_134 rfl rfl (hS0 (Or.inl rfl)) ?_
      refine k_top (BL.f10 hb) ?_
      refine k_ireturn (ty := .int) dX8_count_137 rfl rfl (Nat.le_refl _) (Nat.le_refl _) ?_
      exact kZ.to (by unfold s_count; rw [if_neg (show ¬ nI 5 = 0 by decide), if_neg (show ¬ nI 5 = 1 by decide), if_neg (show ¬ nI 5 = 2 by decide), if_neg (show ¬ nI 5 = 3 by decide), if_neg (show ¬ nI 5 = 4 by decide), if_pos (show nI 5 = 5 from rfl)]) (kZ_x hC (FX.rf _))
    · refine k_swIn (t := 138) (off := 137) dX8_count_1 (by decide) (by decide) (by decide) (by decide) ?_
      refine al0 (n := 139) dX8_count_138 rfl ?_
      refine gX8_10 (n := 142) dX8_count_139 rfl rfl rfl rfl ?_
      refine gX8_73 (n := 145) dX8_count_142 rfl rfl rfl rfl ?_
      refine gX8_76 (n := 148) dX8_count_145 rfl rfl (hS0 (Or.inl rfl)) ?_
      refine k_top (BL.f11 hb) ?_
      refine k_ireturn (ty := .int) dX8_count_148 rfl rfl (Nat.le_refl _) (Nat.le_refl _) ?_
      exact kZ.to (by unfold s_count; rw [if_neg (show ¬ nI 6 = 0 by decide), if_neg (show ¬ nI 6 = 1 by decide), if_neg (show ¬ nI 6 = 2 by decide), if_neg (show ¬ nI 6 = 3 by decide), if_neg (show ¬ nI 6 = 4 by decide), if_neg (show ¬ nI 6 = 5 by decide), if_pos (show nI 6 = 6 from rfl)]) (kZ_x hC (FX.rf _))
    · refine k_swIn (t := 149) (off := 148) dX8_count_1 (by decide) (by decide) (by decide) (by decide) ?_
      refine al0 (n := 150) dX8_count_149 rfl ?_
      refine gX8_10 (n := 153) dX8_count_150 rfl rfl rfl rfl ?_
      refine gX8_73 (n := 156) dX8_count_153 rfl rfl rfl rfl ?_
      refine gX8_190 (n := 159) dX8_count_156 rfl rfl (hS0 (Or.inl rfl)) ?_
      refine k_top (BL.f12 hb) ?_
      refine k_ireturn (ty := .int) dX8_count_159 rfl rfl (Nat.le_refl _) (Nat.le_refl _) ?_
      exact kZ.to (by unfold s_count; rw [if_neg (show ¬ nI 7 = 0 by decide), if_neg (show ¬ nI 7 = 1 by decide), if_neg (show ¬ nI 7 = 2 by decide), if_neg (show ¬ nI 7 = 3 by decide), if_neg (show ¬ nI 7 = 4 by decide), if_neg (show ¬ nI 7 = 5 by decide), if_neg (show ¬ nI 7 = 6 by decide), if_pos (show nI 7 = 7 from rfl)]) (kZ_x hC (FX.rf _))
    · refine k_swIn (t := 160) (off := 159) dX8_count_1 (by decide) (by decide) (by decide) (by decide) ?_
      refine al0 (n := 161) dX8_count_160 rfl ?_
      refine gX8_10 (n := 164) dX8_count_161 rfl rfl rfl rfl ?_
      refine gX8_73 (n := 167) dX8_count_164 rfl rfl rfl rfl ?_
      refine k_iconst (a := 2) (n := 168) dX8_count_167 rfl rfl ?_
      refine qiX8_256 (n := 171) dX8_count_168 rfl rfl (Nat.le_of_ble_eq_true rfl) (by omega) (hS0 (Or.inl rfl)) (c_setOf (Or.inl rfl) hb 2) (Nat.le_refl _) (Nat.le_refl _) ?_
      refine k_ireturn (ty := .int) dX8_count_171 rfl rfl (Nat.le_refl _) (Nat.le_refl _) ?_
      exact kZ.to (by unfold s_count; rw [if_neg (show ¬ nI 8 = 0 by decide), if_neg (show ¬ nI 8 = 1 by decide), if_neg (show ¬ nI 8 = 2 by decide), if_neg (show ¬ nI 8 = 3 by decide), if_neg (show ¬ nI 8 = 4 by decide), if_neg (show ¬ nI 8 = 5 by decide), if_neg (show ¬ nI 8 = 6 by decide), if_neg (show ¬ nI 8 = 7 by decide), if_pos (show nI 8 = 8 from rfl)]) (kZ_x hC (FX.rf _))
    · refine k_swIn (t := 172) (off := 171) dX8_count_1 (by decide) (by decide) (by decide) (by decide) ?_
      refine al0 (n := 173) dX8_count_172 rfl ?_
      refine gX8_10 (n := 176) dX8_count_173 rfl rfl rfl rfl ?_
      refine gX8_73 (n := 179) dX8_count_176 rfl rfl rfl rfl ?_
      refine k_iconst (a := 3) (n := 180) dX8_count_179 rfl rfl ?_
      refine qiX8_256 (n := 183) dX8_count_180 rfl rfl (Nat.le_of_ble_eq_true rfl) (by omega) (hS0 (Or.inl rfl)) (c_setOf (Or.inl rfl) hb 3) (Nat.le_refl _) (Nat.le_refl _) ?_
      refine k_ireturn (ty := .int) dX8_count_183 rfl rfl (Nat.le_refl _) (Nat.le_refl _) ?_
      exact kZ.to (by unfold s_count; rw [if_neg (show ¬ nI 9 = 0 by decide), if_neg (show ¬ nI 9 = 1 by decide), if_neg (show ¬ nI 9 = 2 by decide), if_neg (show ¬ nI 9 = 3 by decide), if_neg (show ¬ nI 9 = 4 by decide), if_neg (show ¬ nI 9 = 5 by decide), if_neg (show ¬ nI 9 = 6 by decide), if_neg (show ¬ nI 9 = 7 by decide), if_neg (show ¬ nI 9 = 8 by decide), if_pos (show nI 9 = 9 from rfl)]) (kZ_x hC (FX.rf _))
    · refine k_swIn (t := 184) (off := 183) dX8_count_1 (by decide) (by decide) (by decide) (by decide) ?_
      refine al0 (n := 185) dX8_count_184 rfl ?_
      refine gX8_10 (n := 188) dX8_count_185 rfl rfl rfl rfl ?_
      refine gX8_196 (n := 191) dX8_count_188 rfl rfl rfl ?_
      refine k_top (CR.g5 hC) ?_
      refine k_ireturn (ty := .int) dX8_count_191 rfl rfl (Nat.le_refl _) (Nat.le_refl _) ?_
      exact kZ.to (by unfold s_count; rw [if_neg (show ¬ nI 10 = 0 by decide), if_neg (show ¬ nI 10 = 1 by decide), if_neg (show ¬ nI 10 = 2 by decide), if_neg (show ¬ nI 10 = 3 by decide), if_neg (show ¬ nI 10 = 4 by decide), if_neg (show ¬ nI 10 = 5 by decide), if_neg (show ¬ nI 10 = 6 by decide), if_neg (show ¬ nI 10 = 7 by decide), if_neg (show ¬ nI 10 = 8 by decide), if_neg (show ¬ nI 10 = 9 by decide), if_pos (show nI 10 = 10 from rfl)]) (kZ_x hC (FX.rf _))
    · refine k_swIn (t := 192) (off := 191) dX8_count_1 (by decide) (by decide) (by decide) (by decide) ?_
      refine al0 (n := 193) dX8_count_192 rfl ?_
      refine gX8_10 (n := 196) dX8_count_193 rfl rfl rfl rfl ?_
      refine gX8_341 (n := 199) dX8_count_196 rfl rfl rfl ?_
      refine k_top (CR.g6 hC) ?_
      refine k_ireturn (ty := .int) dX8_count_199 rfl rfl (Nat.le_refl _) (Nat.le_refl _) ?_
      exact kZ.to (by unfold s_count; rw [if_neg (show ¬ nI 11 = 0 by decide), if_neg (show ¬ nI 11 = 1 by decide), if_neg (show ¬ nI 11 = 2 by decide), if_neg (show ¬ nI 11 = 3 by decide), if_neg (show ¬ nI 11 = 4 by decide), if_neg (show ¬ nI 11 = 5 by decide), if_neg (show ¬ nI 11 = 6 by decide), if_neg (show ¬ nI 11 = 7 by decide), if_neg (show ¬ nI 11 = 8 by decide), if_neg (show ¬ nI 11 = 9 by decide), if_neg (show ¬ nI 11 = 10 by decide), if_pos (show nI 11 = 11 from rfl)]) (kZ_x hC (FX.rf _))
    · refine k_swIn (t := 200) (off := 199) dX8_count_1 (by decide) (by decide) (by decide) (by decide) ?_
      refine al0 (n := 201) dX8_count_200 rfl ?_
      refine gX8_51 (n := 204) dX8_count_201 rfl rfl rfl rfl ?_
      refine gX8_301 (n := 207) dX8_count_204 rfl rfl rfl ?_
      refine k_top h20 ?_
      refine k_ireturn (ty := .int) dX8_count_207 rfl rfl (Nat.le_refl _) (Nat.le_refl _) ?_
      exact kZ.to (by unfold s_count; rw [if_neg (show ¬ nI 12 = 0 by decide), if_neg (show ¬ nI 12 = 1 by decide), if_neg (show ¬ nI 12 = 2 by decide), if_neg (show ¬ nI 12 = 3 by decide), if_neg (show ¬ nI 12 = 4 by decide), if_neg (show ¬ nI 12 = 5 by decide), if_neg (show ¬ nI 12 = 6 by decide), if_neg (show ¬ nI 12 = 7 by decide), if_neg (show ¬ nI 12 = 8 by decide), if_neg (show ¬ nI 12 = 9 by decide), if_neg (show ¬ nI 12 = 10 by decide), if_neg (show ¬ nI 12 = 11 by decide), if_pos (show nI 12 = 12 from rfl)]) (kZ_x hC (FX.rf _))
    · refine k_swIn (t := 208) (off := 207) dX8_count_1 (by decide) (by decide) (by decide) (by decide) ?_
      refine al0 (n := 209) dX8_count_208 rfl ?_
      refine gX8_10 (n := 212) dX8_count_209 rfl rfl rfl rfl ?_
      refine gX8_294 (n := 215) dX8_count_212 rfl rfl rfl ?_
      refine k_top (CR.g7 hC) ?_
      refine k_ireturn (ty := .int) dX8_count_215 rfl rfl (Nat.le_refl _) (Nat.le_refl _) ?_
      exact kZ.to (by unfold s_count; rw [if_neg (show ¬ nI 13 = 0 by decide), if_neg (show ¬ nI 13 = 1 by decide), if_neg (show ¬ nI 13 = 2 by decide), if_neg (show ¬ nI 13 = 3 by decide), if_neg (show ¬ nI 13 = 4 by decide), if_neg (show ¬ nI 13 = 5 by decide), if_neg (show ¬ nI 13 = 6 by decide), if_neg (show ¬ nI 13 = 7 by decide), if_neg (show ¬ nI 13 = 8 by decide), if_neg (show ¬ nI 13 = 9 by decide), if_neg (show ¬ nI 13 = 10 by decide), if_neg (show ¬ nI 13 = 11 by decide), if_neg (show ¬ nI 13 = 12 by decide), if_pos (show nI 13 = 13 from rfl)]) (kZ_x hC (FX.rf _))
  · refine k_swOut (t := 216) dX8_count_1 ?_ (by decide) ?_
    · by_cases h0 : 0 ≤ v
      · refine Or.inr ?_
        have h1 : ¬ v ≤ 13 := fun q => hin ⟨h0, q⟩
        rw [Int32.le_iff_toInt_le] at h1
        exact Int.not_le.mp h1
      · refine Or.inl ?_
        rw [Int32.le_iff_toInt_le] at h0
        exact Int.not_le.mp h0
    refine al0 (n := 217) dX8_count_216 rfl ?_
    refine k_iconst (a := 1) (n := 218) dX8_count_217 rfl rfl ?_
    refine qiX8_69 (n := 221) dX8_count_218 rfl rfl (Nat.le_of_ble_eq_true rfl) (by omega) rfl (c_refuse1 (by omega)) (Nat.le_refl _) (Nat.le_refl _) ?_
    refine k_ireturn (ty := .int) dX8_count_221 rfl rfl (Nat.le_refl _) (Nat.le_refl _) ?_
    exact kZ.to (s_count_out I r v hin) (kZ_e1 hC (FX.rf _))
end C8

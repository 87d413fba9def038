section C10
variable {E : kE} {d c t : Nat} {I J : Nat → Nat → Int32} {r : Nat → Int32}
/-- an answer after which only what is thought has changed -/
def kTh (a : Int32) (I : Nat → Nat → Int32) : Option Value → kM → Prop := fun v M => ∃ J, v = some (.int a) ∧ M = kJ J ∧ FB 51 I J
set_option maxHeartbeats 2000000 in
set_option maxRecDepth 20000 in
theorem c_then (hd : 8 ≤ d) (hC : CR I r c t) (hR : RI r) (hX : RX r) (n v q : Int32) : Ct E d mX8_then 0 0 [.ref 0, .int n, .int v, .int q] (kJ I) (kZ I (s_then r n v q)) := by
  have hb := hC.bl
  have hT := hR.TX
  have h8 := hb.c8
  have h4 := hb.t4
  refine Ct.of (L := [some (.ref 0), some (.int n), some (.int v), some (.int q), none]) rfl rfl (Nat.le_of_ble_eq_true rfl) ?_
  refine il1 (n := 1) dX8_then_0 rfl ?_
  refine k_iconst (a := 0) (n := 2) dX8_then_1 rfl rfl ?_
  refine k_sipush (a := 200) (n := 5) dX8_then_2 rfl rfl ?_
  refine qiX8_65 (n := 8) dX8_then_5 rfl rfl (Nat.le_of_ble_eq_true rfl) (by omega) (c_within _ _ _) (Nat.le_refl _) (Nat.le_refl _) ?_
  refine k_ifb_eq (t := 28) (n := 11) dX8_then_8 (by decide) rfl (fun h8_ => ?_) (fun h8_ => ?_)
  · refine al0 (n := 29) dX8_then_28 rfl ?_
    refine k_iconst (a := 1) (n := 30) dX8_then_29 rfl rfl ?_
    refine qiX8_69 (n := 33) dX8_then_30 rfl rfl (Nat.le_of_ble_eq_true rfl) (by omega) rfl (c_refuse1 (by omega)) (Nat.le_refl _) (Nat.le_refl _) ?_
    refine k_ireturn (ty := .int) dX8_then_33 rfl rfl (Nat.le_refl _) (Nat.le_refl _) ?_
    exact kZ.to (by simp only [s_then, if_neg h8_]) (kZ_e1 hC (FX.rf _))
  · obtain ⟨k, -, hk, rfl⟩ := kbt (a := 0) (b := 200) h8_ (by decide) (by decide)
    refine al0 (n := 12) dX8_then_11 rfl ?_
    refine il2 (n := 13) dX8_then_12 rfl ?_
    refine qiX8_136 (n := 16) dX8_then_13 rfl rfl (Nat.le_of_ble_eq_true rfl) (by omega) rfl (c_isCrosser (by omega) hb _) (Nat.le_refl _) (Nat.le_refl _) ?_
    refine k_ifb_eq (t := 28) (n := 19) dX8_then_16 (by decide) rfl (fun h16 => ?_) (fun h16 => ?_)
    · refine al0 (n := 29) dX8_then_28 rfl ?_
      refine k_iconst (a := 1) (n := 30) dX8_then_29 rfl rfl ?_
      refine qiX8_69 (n := 33) dX8_then_30 rfl rfl (Nat.le_of_ble_eq_true rfl) (by omega) rfl (c_refuse1 (by omega)) (Nat.le_refl _) (Nat.le_refl _) ?_
      refine k_ireturn (ty := .int) dX8_then_33 rfl rfl (Nat.le_refl _) (Nat.le_refl _) ?_
      exact kZ.to (by simp only [s_then, if_pos h8_, kcl (show k < 1000 by omega), if_neg h16]) (kZ_e1 hC (FX.rf _))
    · obtain ⟨j, hj, rfl⟩ := kixc hb h16
      refine il3 (n := 20) dX8_then_19 rfl ?_
      refine k_iconst (a := 0) (n := 21) dX8_then_20 rfl rfl ?_
      refine k_iconst (a := 1) (n := 22) dX8_then_21 rfl rfl ?_
      refine qiX8_65 (n := 25) dX8_then_22 rfl rfl (Nat.le_of_ble_eq_true rfl) (by omega) (c_within _ _ _) (Nat.le_refl _) (Nat.le_refl _) ?_
      refine k_ifb_ne (t := 34) (n := 28) dX8_then_25 (by decide) rfl (fun h25 => ?_) (fun h25 => ?_)
      · obtain ⟨w, -, hw, rfl⟩ := kbt (a := 0) (b := 1) h25 (by decide) (by decide)
        refine al0 (n := 35) dX8_then_34 rfl ?_
        refine qX8_243 (n := 38) dX8_then_35 rfl rfl (Nat.le_of_ble_eq_true rfl) (by omega) (Nat.le_refl _) (Nat.le_refl _) rfl (c_think (by omega) hC) ?_
        rintro _ _ ⟨I1, rfl, rfl, hb1, hg1⟩
        dsimp only [Option.toList, List.cons_append, List.nil_append, Nat.add_zero]
        have hf1 := hg1
        refine al0 (n := 39) dX8_then_38 rfl ?_
        refine gX8_31 (n := 42) dX8_then_39 rfl rfl rfl rfl ?_
        refine il1 (n := 43) dX8_then_42 rfl ?_
        refine qX8_246 (n := 46) dX8_then_43 rfl rfl (Nat.le_of_ble_eq_true rfl) (by omega) (Nat.le_refl _) (Nat.le_refl _) (hS0 (Or.inr rfl)) (c_settle (by omega) (Or.inr rfl) hb1 hR hX k (by omega)) ?_
        rintro _ _ ⟨S, q, rfl, rfl, hbS, hgS, hqS⟩
        dsimp only [Option.toList, List.nil_append, Nat.add_zero]
        have hfS := hf1.tr hgS
        refine al0 (n := 47) dX8_then_46 rfl ?_
        refine gX8_31 (n := 50) dX8_then_47 rfl rfl rfl rfl ?_
        refine gX8_139 (n := 53) dX8_then_50 rfl rfl (hS0 (Or.inr rfl)) (hP4 (Or.inr rfl)) ?_
        refine il2 (n := 54) dX8_then_53 rfl ?_
        refine j_aald (j := j) (n := 55) dX8_then_54 rfl (hS3 (Or.inr rfl)) hOC rfl (by omega) (by decide) (hP6 (Or.inr rfl) (by omega)) ?_
        refine as4 (n := 57) dX8_then_55 rfl trivial ?_
        refine il3 (n := 58) dX8_then_57 rfl ?_
        refine k_if_ne (t := 69) (n := 61) dX8_then_58 (by decide) rfl (fun h58 => ?_) (fun h58 => ?_)
        · have e_w : w = 1 := by
            rcases (show w = 0 ∨ w = 1 by omega) with rfl | rfl
            · exact absurd rfl h58
            · rfl
          subst e_w
          refine al4 (n := 71) dX8_then_69 rfl ?_
          refine gX8_163 (n := 74) dX8_then_71 rfl rfl (hS8 (Or.inr rfl) (by omega)) ?_
          refine k_top ((BL.cr hbS hj (j := 6) (by decide)).trans (hqS _ (by omega) (by omega))) ?_
          refine k_ireturn (ty := .int) dX8_then_74 rfl rfl (Nat.le_refl _) (Nat.le_refl _) ?_
          exact kZ.to (by simp only [s_then, if_pos h8_, kcl (show k < 1000 by omega), if_pos h16, kcl (show j < 1000 by omega), if_pos h25, kcl (show 1 < 1000 by omega), if_neg h58] <;> rfl) (kZ_x (hC.th hfS) (FX.th hfS))
        · have e_w : w = 0 := by
            rcases (show w = 0 ∨ w = 1 by omega) with rfl | rfl
            · rfl
            · exact absurd h58 (by decide)
          subst e_w
          refine al4 (n := 63) dX8_then_61 rfl ?_
          refine gX8_160 (n := 66) dX8_then_63 rfl rfl (hS8 (Or.inr rfl) (by omega)) ?_
          refine k_top ((BL.cr hbS hj (j := 5) (by decide)).trans (hqS _ (by omega) (by omega))) ?_
          refine k_goto (n := 74) dX8_then_66 (by decide) ?_
          refine k_ireturn (ty := .int) dX8_then_74 rfl rfl (Nat.le_refl _) (Nat.le_refl _) ?_
          exact kZ.to (by simp only [s_then, if_pos h8_, kcl (show k < 1000 by omega), if_pos h16, kcl (show j < 1000 by omega), if_pos h25, kcl (show 0 < 1000 by omega), if_pos h58] <;> rfl) (kZ_x (hC.th hfS) (FX.th hfS))
      · refine al0 (n := 29) dX8_then_28 rfl ?_
        refine k_iconst (a := 1) (n := 30) dX8_then_29 rfl rfl ?_
        refine qiX8_69 (n := 33) dX8_then_30 rfl rfl (Nat.le_of_ble_eq_true rfl) (by omega) rfl (c_refuse1 (by omega)) (Nat.le_refl _) (Nat.le_refl _) ?_
        refine k_ireturn (ty := .int) dX8_then_33 rfl rfl (Nat.le_refl _) (Nat.le_refl _) ?_
        exact kZ.to (by simp only [s_then, if_pos h8_, kcl (show k < 1000 by omega), if_pos h16, kcl (show j < 1000 by omega), if_neg h25]) (kZ_e1 hC (FX.rf _))
set_option maxHeartbeats 2000000 in
set_option maxRecDepth 20000 in
theorem c_over_l (hd : 6 ≤ d) (hR : RI r) (hX : RX r) (j : Nat) (hj : j < c) (Q : Option Value → kM → Prop) (hY : ∀ K i, FB 51 I K → i ≤ 200 → i = srF (fun i => passF i r (29 + 7 * j + 5) = 2) 201 0 → Q (some (.int (nI i))) (kJ K)) (hN : ∀ K, FB 51 I K → srF (fun i => passF i r (29 + 7 * j + 5) = 2) 201 0 = 201 → Q (some (.int (-1000000002))) (kJ (kerC K 2))) (m : Nat) : ∀ (i : Nat) (J : Nat → Nat → Int32), BL 51 J (passF i r) c t → FB 51 I J → i + m = 201 → srF (fun i => passF i r (29 + 7 * j + 5) = 2) m i = srF (fun i => passF i r (29 + 7 * j + 5) = 2) 201 0 → Wd E d mX8_over 0 0 0 0 30 [some (.ref 0), some (.int (nI j)), some (.ref (51 + 8 + j)), some (.int (nI i))] [] (kJ J) Q := by
  induction m with
  | zero =>
    intro i J hb hf hi hs
    have e : i = 201 := by omega
    subst e
    refine il3 (n := 31) dX8_over_30 rfl ?_
    refine k_sipush (a := 200) (n := 34) dX8_over_31 rfl rfl ?_
    refine k_icmp_gt (t := 60) (n := 37) dX8_over_34 (by decide) rfl (fun h34 => ?_) (fun h34 => ?_)
    · refine al0 (n := 61) dX8_over_60 rfl ?_
      refine k_iconst (a := 2) (n := 62) dX8_over_61 rfl rfl ?_
      refine qiX8_69 (n := 65) dX8_over_62 rfl rfl (Nat.le_of_ble_eq_true rfl) (by omega) rfl (c_refuse2 (by omega)) (Nat.le_refl _) (Nat.le_refl _) ?_
      refine k_ireturn (ty := .int) dX8_over_65 rfl rfl (Nat.le_refl _) (Nat.le_refl _) ?_
      exact hN J hf hs.symm
    · exact absurd (by decide) h34
  | succ m ih =>
    intro i J hb hf hi hs
    have h8 := hb.c8
    have hRi := RI_pass hR i
    have hXi := RX_pass hR hX i
    refine il3 (n := 31) dX8_over_30 rfl ?_
    refine k_sipush (a := 200) (n := 34) dX8_over_31 rfl rfl ?_
    refine k_icmp_gt (t := 60) (n := 37) dX8_over_34 (by decide) rfl (fun h34 => ?_) (fun h34 => ?_)
    · exact absurd h34 (nI_nlt (show i ≤ 200 by omega) (by decide))
    · refine al2 (n := 38) dX8_over_37 rfl ?_
      refine gX8_160 (n := 41) dX8_over_38 rfl rfl (hS8 (Or.inr rfl) (by omega)) ?_
      refine k_top (BL.cr hb hj (j := 5) (by decide)) ?_
      refine k_iconst (a := 2) (n := 42) dX8_over_41 rfl rfl ?_
      refine k_icmp_ne (t := 47) (n := 45) dX8_over_42 (by decide) rfl (fun h42 => ?_) (fun h42 => ?_)
      · refine al0 (n := 48) dX8_over_47 rfl ?_
        refine gX8_31 (n := 51) dX8_over_48 rfl rfl rfl rfl ?_
        refine qX8_240 (n := 54) dX8_over_51 rfl rfl (Nat.le_of_ble_eq_true rfl) (by omega) (Nat.le_refl _) (Nat.le_refl _) (hS0 (Or.inr rfl)) (c_once (by omega) (Or.inr rfl) hb hRi hXi) ?_
        rintro _ _ ⟨I1, rfl, rfl, hb1, hg1⟩
        dsimp only [Option.toList, List.cons_append, List.nil_append, Nat.add_zero]
        have hf1 := hf.tr hg1
        refine ii3 (n := 57) dX8_over_54 rfl (ki1 _) trivial ?_
        rw [nI_1]
        refine k_goto (n := 30) dX8_over_57 (by decide) ?_
        exact ih (i + 1) I1 hb1 hf1 (by omega) (by rw [← hs, srF, if_neg h42])
      · refine il3 (n := 46) dX8_over_45 rfl ?_
        refine k_ireturn (ty := .int) dX8_over_46 rfl rfl (Nat.le_refl _) (Nat.le_refl _) ?_
        exact hY J i hf (by omega) (by rw [← hs, srF, if_pos h42])
set_option maxHeartbeats 2000000 in
set_option maxRecDepth 20000 in
theorem c_over (hd : 7 ≤ d) (hC : CR I r c t) (hR : RI r) (hX : RX r) (v : Int32) : Ct E d mX8_over 0 0 [.ref 0, .int v] (kJ I) (kZ I (s_over r v)) := by
  have hb := hC.bl
  have hT := hR.TX
  have h8 := hb.c8
  have h4 := hb.t4
  refine Ct.of (L := [some (.ref 0), some (.int v), none, none]) rfl rfl (Nat.le_of_ble_eq_true rfl) ?_
  refine al0 (n := 1) dX8_over_0 rfl ?_
  refine il1 (n := 2) dX8_over_1 rfl ?_
  refine qiX8_136 (n := 5) dX8_over_2 rfl rfl (Nat.le_of_ble_eq_true rfl) (by omega) rfl (c_isCrosser (by omega) hb _) (Nat.le_refl _) (Nat.le_refl _) ?_
  refine k_ifb_ne (t := 14) (n := 8) dX8_over_5 (by decide) rfl (fun h5 => ?_) (fun h5 => ?_)
  · obtain ⟨j, hj, rfl⟩ := kixc hb h5
    refine al0 (n := 15) dX8_over_14 rfl ?_
    refine qX8_243 (n := 18) dX8_over_15 rfl rfl (Nat.le_of_ble_eq_true rfl) (by omega) (Nat.le_refl _) (Nat.le_refl _) rfl (c_think (by omega) hC) ?_
    rintro _ _ ⟨I1, rfl, rfl, hb1, hg1⟩
    dsimp only [Option.toList, List.cons_append, List.nil_append, Nat.add_zero]
    have hf1 := hg1
    refine al0 (n := 19) dX8_over_18 rfl ?_
    refine gX8_31 (n := 22) dX8_over_19 rfl rfl rfl rfl ?_
    refine gX8_139 (n := 25) dX8_over_22 rfl rfl (hS0 (Or.inr rfl)) (hP4 (Or.inr rfl)) ?_
    refine il1 (n := 26) dX8_over_25 rfl ?_
    refine j_aald (j := j) (n := 27) dX8_over_26 rfl (hS3 (Or.inr rfl)) hOC rfl (by omega) (by decide) (hP6 (Or.inr rfl) (by omega)) ?_
    refine as2 (n := 28) dX8_over_27 rfl trivial ?_
    refine k_iconst (a := 0) (n := 29) dX8_over_28 rfl rfl ?_
    refine is3 (n := 30) dX8_over_29 rfl trivial ?_
    exact c_over_l (by omega) hR hX j hj _
      (fun K i hf hi hs => kZ.to (by simp only [s_over, if_pos h5, kcl (show j < 1000 by omega)]; rw [← hs, if_pos (show nI i ≤ 200 from Int32.not_lt.mp (nI_nlt (a := 200) (b := i) hi (by decide)))]) (kZ_x (hC.th (hf1.tr hf)) (FX.th (hf1.tr hf))))
      (fun K hf hs => kZ.to (by simp only [s_over, if_pos h5, kcl (show j < 1000 by omega)]; rw [hs, if_neg (by decide)]) (kZ_e2 (hC.th (hf1.tr hf)) (FX.th (hf1.tr hf)))) 201 0 I1 hb1 (FB.rf _ _) (by omega) rfl
  · refine al0 (n := 9) dX8_over_8 rfl ?_
    refine k_iconst (a := 1) (n := 10) dX8_over_9 rfl rfl ?_
    refine qiX8_69 (n := 13) dX8_over_10 rfl rfl (Nat.le_of_ble_eq_true rfl) (by omega) rfl (c_refuse1 (by omega)) (Nat.le_refl _) (Nat.le_refl _) ?_
    refine k_ireturn (ty := .int) dX8_over_13 rfl rfl (Nat.le_refl _) (Nat.le_refl _) ?_
    exact kZ.to (by simp only [s_over, if_neg h5]) (kZ_e1 hC (FX.rf _))
set_option maxHeartbeats 2000000 in
set_option maxRecDepth 20000 in
theorem c_stands_l (hd : 6 ≤ d) (hR : RI r) (hX : RX r)  (Q : Option Value → kM → Prop) (hY : ∀ K i, FB 51 I K → i ≤ 200 → i = srF (fun i => stF (passF i r)) 201 0 → Q (some (.int (nI i))) (kJ K)) (hN : ∀ K, FB 51 I K → srF (fun i => stF (passF i r)) 201 0 = 201 → Q (some (.int (-1000000002))) (kJ (kerC K 2))) (m : Nat) : ∀ (i : Nat) (J : Nat → Nat → Int32), BL 51 J (passF i r) c t → FB 51 I J → i + m = 201 → srF (fun i => stF (passF i r)) m i = srF (fun i => stF (passF i r)) 201 0 → Wd E d mX8_stands 0 0 0 0 6 [some (.ref 0), some (.int (nI i))] [] (kJ J) Q := by
  induction m with
  | zero =>
    intro i J hb hf hi hs
    have e : i = 201 := by omega
    subst e
    refine il1 (n := 7) dX8_stands_6 rfl ?_
    refine k_sipush (a := 200) (n := 10) dX8_stands_7 rfl rfl ?_
    refine k_icmp_gt (t := 38) (n := 13) dX8_stands_10 (by decide) rfl (fun h10 => ?_) (fun h10 => ?_)
    · refine al0 (n := 39) dX8_stands_38 rfl ?_
      refine k_iconst (a := 2) (n := 40) dX8_stands_39 rfl rfl ?_
      refine qiX8_69 (n := 43) dX8_stands_40 rfl rfl (Nat.le_of_ble_eq_true rfl) (by omega) rfl (c_refuse2 (by omega)) (Nat.le_refl _) (Nat.le_refl _) ?_
      refine k_ireturn (ty := .int) dX8_stands_43 rfl rfl (Nat.le_refl _) (Nat.le_refl _) ?_
      exact hN J hf hs.symm
    · exact absurd (by decide) h10
  | succ m ih =>
    intro i J hb hf hi hs
    have h8 := hb.c8
    have hRi := RI_pass hR i
    have hXi := RX_pass hR hX i
    refine il1 (n := 7) dX8_stands_6 rfl ?_
    refine k_sipush (a := 200) (n := 10) dX8_stands_7 rfl rfl ?_
    refine k_icmp_gt (t := 38) (n := 13) dX8_stands_10 (by decide) rfl (fun h10 => ?_) (fun h10 => ?_)
    · exact absurd h10 (nI_nlt (show i ≤ 200 by omega) (by decide))
    · refine al0 (n := 14) dX8_stands_13 rfl ?_
      refine gX8_31 (n := 17) dX8_stands_14 rfl rfl rfl rfl ?_
      refine qiX8_270 (n := 20) dX8_stands_17 rfl rfl (Nat.le_of_ble_eq_true rfl) (by omega) (hS0 (Or.inr rfl)) (c_standing (by omega) (Or.inr rfl) hb hXi) (Nat.le_refl _) (Nat.le_refl _) ?_
      refine k_ifb_eq (t := 25) (n := 23) dX8_stands_20 (by decide) rfl (fun h20 => ?_) (fun h20 => ?_)
      · refine al0 (n := 26) dX8_stands_25 rfl ?_
        refine gX8_31 (n := 29) dX8_stands_26 rfl rfl rfl rfl ?_
        refine qX8_240 (n := 32) dX8_stands_29 rfl rfl (Nat.le_of_ble_eq_true rfl) (by omega) (Nat.le_refl _) (Nat.le_refl _) (hS0 (Or.inr rfl)) (c_once (by omega) (Or.inr rfl) hb hRi hXi) ?_
        rintro _ _ ⟨I1, rfl, rfl, hb1, hg1⟩
        dsimp only [Option.toList, List.cons_append, List.nil_append, Nat.add_zero]
        have hf1 := hf.tr hg1
        refine ii1 (n := 35) dX8_stands_32 rfl (ki1 _) trivial ?_
        rw [nI_1]
        refine k_goto (n := 6) dX8_stands_35 (by decide) ?_
        exact ih (i + 1) I1 hb1 hf1 (by omega) (by rw [← hs, srF, if_neg h20])
      · refine il1 (n := 24) dX8_stands_23 rfl ?_
        refine k_ireturn (ty := .int) dX8_stands_24 rfl rfl (Nat.le_refl _) (Nat.le_refl _) ?_
        exact hY J i hf (by omega) (by rw [← hs, srF, if_pos h20])
set_option maxHeartbeats 2000000 in
set_option maxRecDepth 20000 in
theorem c_stands (hd : 7 ≤ d) (hC : CR I r c t) (hR : RI r) (hX : RX r)  : Ct E d mX8_stands 0 0 [.ref 0] (kJ I) (kZ I (s_stands r)) := by
  have hb := hC.bl
  have hT := hR.TX
  have h8 := hb.c8
  have h4 := hb.t4
  refine Ct.of (L := [some (.ref 0), none]) rfl rfl (Nat.le_of_ble_eq_true rfl) ?_
  refine al0 (n := 1) dX8_stands_0 rfl ?_
  refine qX8_243 (n := 4) dX8_stands_1 rfl rfl (Nat.le_of_ble_eq_true rfl) (by omega) (Nat.le_refl _) (Nat.le_refl _) rfl (c_think (by omega) hC) ?_
  rintro _ _ ⟨I1, rfl, rfl, hb1, hg1⟩
  dsimp only [Option.toList, List.cons_append, List.nil_append, Nat.add_zero]
  have hf1 := hg1
  refine k_iconst (a := 0) (n := 5) dX8_stands_4 rfl rfl ?_
  refine is1 (n := 6) dX8_stands_5 rfl trivial ?_
  exact c_stands_l (by omega) hR hX _
    (fun K i hf hi hs => kZ.to (by simp only [s_stands]; rw [← hs, if_pos (show nI i ≤ 200 from Int32.not_lt.mp (nI_nlt (a := 200) (b := i) hi (by decide)))]) (kZ_x (hC.th (hf1.tr hf)) (FX.th (hf1.tr hf))))
    (fun K hf hs => kZ.to (by simp only [s_stands]; rw [hs, if_neg (by decide)]) (kZ_e2 (hC.th (hf1.tr hf)) (FX.th (hf1.tr hf)))) 201 0 I1 hb1 (FB.rf _ _) (by omega) rfl
set_option maxHeartbeats 2000000 in
set_option maxRecDepth 20000 in
theorem c_parts_l (hd : 6 ≤ d) (hR : RI r) (hX : RX r) (v : Int32) (Q : Option Value → kM → Prop) (hY : ∀ K i, FB 51 I K → i ≤ 200 → i = srF (fun i => v ≤ mstW (passF i r) (sPl (passF i r))) 201 0 → Q (some (.int (nI i))) (kJ K)) (hN : ∀ K, FB 51 I K → srF (fun i => v ≤ mstW (passF i r) (sPl (passF i r))) 201 0 = 201 → Q (some (.int (-1000000002))) (kJ (kerC K 2))) (m : Nat) : ∀ (i : Nat) (J : Nat → Nat → Int32), BL 51 J (passF i r) c t → FB 51 I J → i + m = 201 → srF (fun i => v ≤ mstW (passF i r) (sPl (passF i r))) m i = srF (fun i => v ≤ mstW (passF i r) (sPl (passF i r))) 201 0 → Wd E d mX8_parts 0 0 0 0 23 [some (.ref 0), some (.int v), some (.int (nI i))] [] (kJ J) Q := by
  induction m with
  | zero =>
    intro i J hb hf hi hs
    have e : i = 201 := by omega
    subst e
    refine il2 (n := 24) dX8_parts_23 rfl ?_
    refine k_sipush (a := 200) (n := 27) dX8_parts_24 rfl rfl ?_
    refine k_icmp_gt (t := 56) (n := 30) dX8_parts_27 (by decide) rfl (fun h27 => ?_) (fun h27 => ?_)
    · refine al0 (n := 57) dX8_parts_56 rfl ?_
      refine k_iconst (a := 2) (n := 58) dX8_parts_57 rfl rfl ?_
      refine qiX8_69 (n := 61) dX8_parts_58 rfl rfl (Nat.le_of_ble_eq_true rfl) (by omega) rfl (c_refuse2 (by omega)) (Nat.le_refl _) (Nat.le_refl _) ?_
      refine k_ireturn (ty := .int) dX8_parts_61 rfl rfl (Nat.le_refl _) (Nat.le_refl _) ?_
      exact hN J hf hs.symm
    · exact absurd (by decide) h27
  | succ m ih =>
    intro i J hb hf hi hs
    have h8 := hb.c8
    have hRi := RI_pass hR i
    have hXi := RX_pass hR hX i
    refine il2 (n := 24) dX8_parts_23 rfl ?_
    refine k_sipush (a := 200) (n := 27) dX8_parts_24 rfl rfl ?_
    refine k_icmp_gt (t := 56) (n := 30) dX8_parts_27 (by decide) rfl (fun h27 => ?_) (fun h27 => ?_)
    · exact absurd h27 (nI_nlt (show i ≤ 200 by omega) (by decide))
    · refine al0 (n := 31) dX8_parts_30 rfl ?_
      refine gX8_31 (n := 34) dX8_parts_31 rfl rfl rfl rfl ?_
      refine qiX8_274 (n := 37) dX8_parts_34 rfl rfl (Nat.le_of_ble_eq_true rfl) (by omega) (hS0 (Or.inr rfl)) (c_mostWear (Or.inr rfl) hb hRi) (Nat.le_refl _) (Nat.le_refl _) ?_
      refine il1 (n := 38) dX8_parts_37 rfl ?_
      refine k_icmp_lt (t := 43) (n := 41) dX8_parts_38 (by decide) rfl (fun h38 => ?_) (fun h38 => ?_)
      · refine al0 (n := 44) dX8_parts_43 rfl ?_
        refine gX8_31 (n := 47) dX8_parts_44 rfl rfl rfl rfl ?_
        refine qX8_240 (n := 50) dX8_parts_47 rfl rfl (Nat.le_of_ble_eq_true rfl) (by omega) (Nat.le_refl _) (Nat.le_refl _) (hS0 (Or.inr rfl)) (c_once (by omega) (Or.inr rfl) hb hRi hXi) ?_
        rintro _ _ ⟨I1, rfl, rfl, hb1, hg1⟩
        dsimp only [Option.toList, List.cons_append, List.nil_append, Nat.add_zero]
        have hf1 := hf.tr hg1
        refine ii2 (n := 53) dX8_parts_50 rfl (ki1 _) trivial ?_
        rw [nI_1]
        refine k_goto (n := 23) dX8_parts_53 (by decide) ?_
        exact ih (i + 1) I1 hb1 hf1 (by omega) (by rw [← hs, srF, if_neg (Int32.not_le.mpr h38)])
      · refine il2 (n := 42) dX8_parts_41 rfl ?_
        refine k_ireturn (ty := .int) dX8_parts_42 rfl rfl (Nat.le_refl _) (Nat.le_refl _) ?_
        exact hY J i hf (by omega) (by rw [← hs, srF, if_pos (Int32.not_lt.mp h38)])
set_option maxHeartbeats 2000000 in
set_option maxRecDepth 20000 in
theorem c_parts (hd : 7 ≤ d) (hC : CR I r c t) (hR : RI r) (hX : RX r) (v : Int32) : Ct E d mX8_parts 0 0 [.ref 0, .int v] (kJ I) (kZ I (s_parts r v)) := by
  have hb := hC.bl
  have hT := hR.TX
  have h8 := hb.c8
  have h4 := hb.t4
  refine Ct.of (L := [some (.ref 0), some (.int v), none]) rfl rfl (Nat.le_of_ble_eq_true rfl) ?_
  refine il1 (n := 1) dX8_parts_0 rfl ?_
  refine k_iconst (a := 0) (n := 2) dX8_parts_1 rfl rfl ?_
  refine k_sipush (a := 999) (n := 5) dX8_parts_2 rfl rfl ?_
  refine qiX8_65 (n := 8) dX8_parts_5 rfl rfl (Nat.le_of_ble_eq_true rfl) (by omega) (c_within _ _ _) (Nat.le_refl _) (Nat.le_refl _) ?_
  refine k_ifb_ne (t := 17) (n := 11) dX8_parts_8 (by decide) rfl (fun h8_ => ?_) (fun h8_ => ?_)
  · refine al0 (n := 18) dX8_parts_17 rfl ?_
    refine qX8_243 (n := 21) dX8_parts_18 rfl rfl (Nat.le_of_ble_eq_true rfl) (by omega) (Nat.le_refl _) (Nat.le_refl _) rfl (c_think (by omega) hC) ?_
    rintro _ _ ⟨I1, rfl, rfl, hb1, hg1⟩
    dsimp only [Option.toList, List.cons_append, List.nil_append, Nat.add_zero]
    have hf1 := hg1
    refine k_iconst (a := 0) (n := 22) dX8_parts_21 rfl rfl ?_
    refine is2 (n := 23) dX8_parts_22 rfl trivial ?_
    exact c_parts_l (by omega) hR hX v _
      (fun K i hf hi hs => kZ.to (by simp only [s_parts, if_pos h8_]; rw [← hs, if_pos (show nI i ≤ 200 from Int32.not_lt.mp (nI_nlt (a := 200) (b := i) hi (by decide)))]) (kZ_x (hC.th (hf1.tr hf)) (FX.th (hf1.tr hf))))
      (fun K hf hs => kZ.to (by simp only [s_parts, if_pos h8_]; rw [hs, if_neg (by decide)]) (kZ_e2 (hC.th (hf1.tr hf)) (FX.th (hf1.tr hf)))) 201 0 I1 hb1 (FB.rf _ _) (by omega) rfl
  · refine al0 (n := 12) dX8_parts_11 rfl ?_
    refine k_iconst (a := 1) (n := 13) dX8_parts_12 rfl rfl ?_
    refine qiX8_69 (n := 16) dX8_parts_13 rfl rfl (Nat.le_of_ble_eq_true rfl) (by omega) rfl (c_refuse1 (by omega)) (Nat.le_refl _) (Nat.le_refl _) ?_
    refine k_ireturn (ty := .int) dX8_parts_16 rfl rfl (Nat.le_refl _) (Nat.le_refl _) ?_
    exact kZ.to (by simp only [s_parts, if_neg h8_]) (kZ_e1 hC (FX.rf _))
set_option maxHeartbeats 2000000 in
set_option maxRecDepth 20000 in
theorem c_nIf (hd : 7 ≤ d) (hC : CR I r c t) (hR : RI r) (hX : RX r) (j k : Nat) (hj : j < c) (hk : k ≤ 200) : Ct E d mX8_isNorthIfHeWaits 0 0 [.ref 0, .int (nI j), .int (nI k)] (kJ I) (kTh (kb (bgF r j k (29 + 7 * j + 5) = 2)) I) := by
  have h8 := hC.bl.c8
  have hT := hR.TX
  refine Ct.of (L := [some (.ref 0), some (.int (nI j)), some (.int (nI k)), none]) rfl rfl (Nat.le_of_ble_eq_true rfl) ?_
  refine k_iconst (a := 1) (n := 1) dX8_isNorthIfHeWaits_0 rfl rfl ?_
  refine il1 (n := 2) dX8_isNorthIfHeWaits_1 rfl ?_
  refine k_ishl (n := 3) dX8_isNorthIfHeWaits_2 rfl ?_
  refine is3 (n := 4) dX8_isNorthIfHeWaits_3 rfl trivial ?_
  refine al0 (n := 5) dX8_isNorthIfHeWaits_4 rfl ?_
  refine qX8_243 (n := 8) dX8_isNorthIfHeWaits_5 rfl rfl (Nat.le_of_ble_eq_true rfl) (by omega) (Nat.le_refl _) (Nat.le_refl _) rfl (c_think (by omega) hC) ?_
  rintro _ _ ⟨I1, rfl, rfl, hb1, hg1⟩
  dsimp only [Option.toList, List.cons_append, List.nil_append, Nat.add_zero]
  have hf1 := hg1
  refine al0 (n := 9) dX8_isNorthIfHeWaits_8 rfl ?_
  refine gX8_31 (n := 12) dX8_isNorthIfHeWaits_9 rfl rfl rfl rfl ?_
  refine k_dup (n := 13) dX8_isNorthIfHeWaits_12 rfl rfl ?_
  refine gX8_190 (n := 16) dX8_isNorthIfHeWaits_13 rfl rfl (hS0 (Or.inr rfl)) ?_
  refine k_top (BL.f12 hb1) ?_
  refine il3 (n := 17) dX8_isNorthIfHeWaits_16 rfl ?_
  refine k_iconst (a := (-1)) (n := 18) dX8_isNorthIfHeWaits_17 rfl rfl ?_
  refine k_ixor (n := 19) dX8_isNorthIfHeWaits_18 rfl ?_
  refine k_iand (n := 20) dX8_isNorthIfHeWaits_19 rfl ?_
  refine pX8_190 (n := 23) dX8_isNorthIfHeWaits_20 rfl rfl (hS0 (Or.inr rfl)) ?_
  refine k_gen (fun I2 e2 => ?_)
  have hb2 := BL.sf12 hb1 (Or.inr rfl) hT e2
  have hT2 := TX.ob hb2 hT (by omega)
  have hf2 := hf1.tr (FB.b e2)
  have hRa : RI (upd r 12 (r 12 &&& (((1 : Int32) <<< (nI j &&& 31)) ^^^ (-1)))) := RI_c hR (by omega) _
  have hXa : RX (upd r 12 (r 12 &&& (((1 : Int32) <<< (nI j &&& 31)) ^^^ (-1)))) := RX_lo hX (by omega) _ (by omega) (by omega)
  refine al0 (n := 24) dX8_isNorthIfHeWaits_23 rfl ?_
  refine gX8_31 (n := 27) dX8_isNorthIfHeWaits_24 rfl rfl rfl rfl ?_
  refine il2 (n := 28) dX8_isNorthIfHeWaits_27 rfl ?_
  refine qX8_231 (n := 31) dX8_isNorthIfHeWaits_28 rfl rfl (Nat.le_of_ble_eq_true rfl) (by omega) (Nat.le_refl _) (Nat.le_refl _) (hS0 (Or.inr rfl)) (c_for (by omega) (Or.inr rfl) hb2 hRa hXa k (by omega)) ?_
  rintro _ _ ⟨I3, rfl, rfl, hb3, hg3⟩
  dsimp only [Option.toList, List.cons_append, List.nil_append, Nat.add_zero]
  have hf3 := hf2.tr hg3
  have hTp := (RI_pass hRa k).TX
  have hRb := RI_pass hRa k
  have hXb := RX_pass hRa hXa k
  refine al0 (n := 32) dX8_isNorthIfHeWaits_31 rfl ?_
  refine gX8_31 (n := 35) dX8_isNorthIfHeWaits_32 rfl rfl rfl rfl ?_
  refine k_dup (n := 36) dX8_isNorthIfHeWaits_35 rfl rfl ?_
  refine gX8_190 (n := 39) dX8_isNorthIfHeWaits_36 rfl rfl (hS0 (Or.inr rfl)) ?_
  refine k_top (BL.f12 hb3) ?_
  refine il3 (n := 40) dX8_isNorthIfHeWaits_39 rfl ?_
  refine k_ior (n := 41) dX8_isNorthIfHeWaits_40 rfl ?_
  refine pX8_190 (n := 44) dX8_isNorthIfHeWaits_41 rfl rfl (hS0 (Or.inr rfl)) ?_
  refine k_gen (fun I4 e4 => ?_)
  have hb4 := BL.sf12 hb3 (Or.inr rfl) hTp e4
  have hT4 := TX.ob hb4 hTp (by omega)
  have hf4 := hf3.tr (FB.b e4)
  have hRc : RI (upd (passF k (upd r 12 (r 12 &&& (((1 : Int32) <<< (nI j &&& 31)) ^^^ (-1))))) 12 (passF k (upd r 12 (r 12 &&& (((1 : Int32) <<< (nI j &&& 31)) ^^^ (-1)))) 12 ||| ((1 : Int32) <<< (nI j &&& 31)))) := RI_c hRb (by omega) _
  have hXc := RX_lo hXb (i := 12) (by omega) (passF k (upd r 12 (r 12 &&& (((1 : Int32) <<< (nI j &&& 31)) ^^^ (-1)))) 12 ||| ((1 : Int32) <<< (nI j &&& 31))) (by omega) (by omega)
  refine al0 (n := 45) dX8_isNorthIfHeWaits_44 rfl ?_
  refine gX8_31 (n := 48) dX8_isNorthIfHeWaits_45 rfl rfl rfl rfl ?_
  refine k_sipush (a := 200) (n := 51) dX8_isNorthIfHeWaits_48 rfl rfl ?_
  refine il2 (n := 52) dX8_isNorthIfHeWaits_51 rfl ?_
  refine k_isub (n := 53) dX8_isNorthIfHeWaits_52 rfl ?_
  rw [show (200 : Int32) - nI k = nI (200 - k) from pk_sub (a := 200) (b := k) hk]
  refine qX8_246 (n := 56) dX8_isNorthIfHeWaits_53 rfl rfl (Nat.le_of_ble_eq_true rfl) (by omega) (Nat.le_refl _) (Nat.le_refl _) (hS0 (Or.inr rfl)) (c_settle (by omega) (Or.inr rfl) hb4 hRc hXc (200 - k) (by omega)) ?_
  rintro _ _ ⟨S, q, rfl, rfl, hbS, hgS, hqS⟩
  dsimp only [Option.toList, List.nil_append, Nat.add_zero]
  have hfS := hf4.tr hgS
  refine al0 (n := 57) dX8_isNorthIfHeWaits_56 rfl ?_
  refine gX8_31 (n := 60) dX8_isNorthIfHeWaits_57 rfl rfl rfl rfl ?_
  refine gX8_139 (n := 63) dX8_isNorthIfHeWaits_60 rfl rfl (hS0 (Or.inr rfl)) (hP4 (Or.inr rfl)) ?_
  refine il1 (n := 64) dX8_isNorthIfHeWaits_63 rfl ?_
  refine j_aald (j := j) (n := 65) dX8_isNorthIfHeWaits_64 rfl (hS3 (Or.inr rfl)) hOC rfl (by omega) (by decide) (hP6 (Or.inr rfl) (by omega)) ?_
  refine gX8_160 (n := 68) dX8_isNorthIfHeWaits_65 rfl rfl (hS8 (Or.inr rfl) (by omega)) ?_
  refine k_top ((BL.cr hbS hj (j := 5) (by decide)).trans (hqS _ (by omega) (by omega))) ?_
  refine k_iconst (a := 2) (n := 69) dX8_isNorthIfHeWaits_68 rfl rfl ?_
  refine k_icmp_ne (t := 76) (n := 72) dX8_isNorthIfHeWaits_69 (by decide) rfl (fun h69 => ?_) (fun h69 => ?_)
  · refine k_iconst (a := 0) (n := 77) dX8_isNorthIfHeWaits_76 rfl rfl ?_
    refine k_ireturn (ty := .boolean) dX8_isNorthIfHeWaits_77 rfl (by first | rfl | exact knb _) (Nat.le_refl _) (Nat.le_refl _) ?_
    first | exact ⟨S, by rw [kb_f (show ¬ bgF r j k (29 + 7 * j + 5) = 2 from h69)], rfl, hfS⟩ | exact ⟨S, by rw [kb_t (show bgF r j k (29 + 7 * j + 5) = 2 from h69)], rfl, hfS⟩
  · refine k_iconst (a := 1) (n := 73) dX8_isNorthIfHeWaits_72 rfl rfl ?_
    refine k_goto (n := 77) dX8_isNorthIfHeWaits_73 (by decide) ?_
    refine k_ireturn (ty := .boolean) dX8_isNorthIfHeWaits_77 rfl (by first | rfl | exact knb _) (Nat.le_refl _) (Nat.le_refl _) ?_
    first | exact ⟨S, by rw [kb_f (show ¬ bgF r j k (29 + 7 * j + 5) = 2 from h69)], rfl, hfS⟩ | exact ⟨S, by rw [kb_t (show bgF r j k (29 + 7 * j + 5) = 2 from h69)], rfl, hfS⟩
set_option maxHeartbeats 2000000 in
set_option maxRecDepth 20000 in
theorem c_begin_l (hd : 8 ≤ d) (hR : RI r) (hX : RX r) (j : Nat) (hj : j < c) (p : Nat) (hp : r 1 = nI p) (hp16 : p ≤ 16) (Q : Option Value → kM → Prop) (hY : ∀ K i, FB 51 I K → i < p → i = bgS r j p 0 → Q (some (.int (nI i))) (kJ K)) (hN : ∀ K, FB 51 I K → bgS r j p 0 = p → Q (some (.int (-1000000002))) (kJ (kerC K 2))) (m : Nat) : ∀ (i : Nat) (J : Nat → Nat → Int32), CR J r c t → FB 51 I J → i + m = p → bgS r j m i = bgS r j p 0 → Wd E d mX8_begin 0 0 0 0 40 [some (.ref 0), some (.int (nI j)), some (.int (nI i))] [] (kJ J) Q := by
  induction m with
  | zero =>
    intro i J hC hf hi hs
    have e : i = p := by omega
    subst e
    have hb := hC.bl
    refine il2 (n := 41) dX8_begin_40 rfl ?_
    refine al0 (n := 42) dX8_begin_41 rfl ?_
    refine gX8_10 (n := 45) dX8_begin_42 rfl rfl rfl rfl ?_
    refine gX8_73 (n := 48) dX8_begin_45 rfl rfl rfl rfl ?_
    refine gX8_91 (n := 51) dX8_begin_48 rfl rfl (hS0 (Or.inl rfl)) ?_
    refine k_top ((BL.f6 hb).trans hp) ?_
    refine k_icmp_ge (t := 71) (n := 54) dX8_begin_51 (by decide) rfl (fun h51 => ?_) (fun h51 => ?_)
    · refine al0 (n := 72) dX8_begin_71 rfl ?_
      refine k_iconst (a := 2) (n := 73) dX8_begin_72 rfl rfl ?_
      refine qiX8_69 (n := 76) dX8_begin_73 rfl rfl (Nat.le_of_ble_eq_true rfl) (by omega) rfl (c_refuse2 (by omega)) (Nat.le_refl _) (Nat.le_refl _) ?_
      refine k_ireturn (ty := .int) dX8_begin_76 rfl rfl (Nat.le_refl _) (Nat.le_refl _) ?_
      exact hN J hf hs.symm
    · exact absurd (Int32.le_refl _) h51
  | succ m ih =>
    intro i J hC hf hi hs
    have hb := hC.bl
    refine il2 (n := 41) dX8_begin_40 rfl ?_
    refine al0 (n := 42) dX8_begin_41 rfl ?_
    refine gX8_10 (n := 45) dX8_begin_42 rfl rfl rfl rfl ?_
    refine gX8_73 (n := 48) dX8_begin_45 rfl rfl rfl rfl ?_
    refine gX8_91 (n := 51) dX8_begin_48 rfl rfl (hS0 (Or.inl rfl)) ?_
    refine k_top ((BL.f6 hb).trans hp) ?_
    refine k_icmp_ge (t := 71) (n := 54) dX8_begin_51 (by decide) rfl (fun h51 => ?_) (fun h51 => ?_)
    · exact absurd h51 (nI_ge (by omega) (by omega))
    · refine al0 (n := 55) dX8_begin_54 rfl ?_
      refine il1 (n := 56) dX8_begin_55 rfl ?_
      refine il2 (n := 57) dX8_begin_56 rfl ?_
      refine qX8_249 (n := 60) dX8_begin_57 rfl rfl (Nat.le_of_ble_eq_true rfl) (by omega) (Nat.le_refl _) (Nat.le_refl _) rfl (c_nIf (by omega) hC hR hX j i hj (by omega)) ?_
      rintro _ _ ⟨K, rfl, rfl, hgK⟩
      dsimp only [Option.toList, List.cons_append, List.nil_append, Nat.add_zero]
      have hCK := hC.th hgK
      have hbK := hCK.bl
      have hfK := hf.tr hgK
      refine k_ifb_eq (t := 65) (n := 63) dX8_begin_60 (by decide) rfl (fun h60 => ?_) (fun h60 => ?_)
      · refine ii2 (n := 68) dX8_begin_65 rfl (ki1 _) trivial ?_
        rw [nI_1]
        refine k_goto (n := 40) dX8_begin_68 (by decide) ?_
        exact ih (i + 1) K hCK hfK (by omega) (by rw [← hs]; exact (if_neg h60).symm)
      · refine il2 (n := 64) dX8_begin_63 rfl ?_
        refine k_ireturn (ty := .int) dX8_begin_64 rfl rfl (Nat.le_refl _) (Nat.le_refl _) ?_
        exact hY K i hfK (by omega) (by rw [← hs]; exact (if_pos h60).symm)
set_option maxHeartbeats 2000000 in
set_option maxRecDepth 20000 in
theorem c_begin (hd : 9 ≤ d) (hC : CR I r c t) (hR : RI r) (hX : RX r) (v : Int32) : Ct E d mX8_begin 0 0 [.ref 0, .int v] (kJ I) (kZ I (s_begin r v)) := by
  have hb := hC.bl
  have hT := hR.TX
  have h8 := hb.c8
  have h4 := hb.t4
  obtain ⟨-, -, -, -, -, -, ⟨p, hp, hp1, hp16⟩, -⟩ := id hR
  have ep : sRh r = p := by unfold sRh; rw [hp]; exact kcl (by omega)
  refine Ct.of (L := [some (.ref 0), some (.int v), none]) rfl rfl (Nat.le_of_ble_eq_true rfl) ?_
  refine al0 (n := 1) dX8_begin_0 rfl ?_
  refine il1 (n := 2) dX8_begin_1 rfl ?_
  refine qiX8_136 (n := 5) dX8_begin_2 rfl rfl (Nat.le_of_ble_eq_true rfl) (by omega) rfl (c_isCrosser (by omega) hb _) (Nat.le_refl _) (Nat.le_refl _) ?_
  refine k_ifb_ne (t := 14) (n := 8) dX8_begin_5 (by decide) rfl (fun h5 => ?_) (fun h5 => ?_)
  · obtain ⟨j, hj, rfl⟩ := kixc hb h5
    refine al0 (n := 15) dX8_begin_14 rfl ?_
    refine gX8_10 (n := 18) dX8_begin_15 rfl rfl rfl rfl ?_
    refine gX8_73 (n := 21) dX8_begin_18 rfl rfl rfl rfl ?_
    refine gX8_139 (n := 24) dX8_begin_21 rfl rfl (hS0 (Or.inl rfl)) (hP4 (Or.inl rfl)) ?_
    refine il1 (n := 25) dX8_begin_24 rfl ?_
    refine j_aald (j := j) (n := 26) dX8_begin_25 rfl (hS3 (Or.inl rfl)) hOC rfl (by omega) (by decide) (hP6 (Or.inl rfl) (by omega)) ?_
    refine gX8_160 (n := 29) dX8_begin_26 rfl rfl (hS8 (Or.inl rfl) (by omega)) ?_
    refine k_top (BL.cr hb hj (j := 5) (by decide)) ?_
    refine k_if_eq (t := 38) (n := 32) dX8_begin_29 (by decide) rfl (fun h29 => ?_) (fun h29 => ?_)
    · refine k_iconst (a := 0) (n := 39) dX8_begin_38 rfl rfl ?_
      refine is2 (n := 40) dX8_begin_39 rfl trivial ?_
      refine c_begin_l (by omega) hR hX j hj p hp hp16 _ (fun K i hf hi hs => ?_) (fun K hf hs => ?_) p 0 I hC (FB.rf _ _) (by omega) rfl
      · exact kZ.to (by simp only [s_begin, ep, if_pos h5, kcl (show j < 1000 by omega), if_pos h29]; rw [← hs, if_pos hi]) (kZ_x (hC.th hf) (FX.th hf))
      · exact kZ.to (by simp only [s_begin, ep, if_pos h5, kcl (show j < 1000 by omega), if_pos h29]; rw [if_neg (by omega)]) (kZ_e2 (hC.th hf) (FX.th hf))
    · refine al0 (n := 33) dX8_begin_32 rfl ?_
      refine k_iconst (a := 3) (n := 34) dX8_begin_33 rfl rfl ?_
      refine qiX8_69 (n := 37) dX8_begin_34 rfl rfl (Nat.le_of_ble_eq_true rfl) (by omega) rfl (c_refuse3 (by omega)) (Nat.le_refl _) (Nat.le_refl _) ?_
      refine k_ireturn (ty := .int) dX8_begin_37 rfl rfl (Nat.le_refl _) (Nat.le_refl _) ?_
      exact kZ.to (by simp only [s_begin, if_pos h5, kcl (show j < 1000 by omega), if_neg h29]) (kZ_e3 hC (FX.rf _))
  · refine al0 (n := 9) dX8_begin_8 rfl ?_
    refine k_iconst (a := 1) (n := 10) dX8_begin_9 rfl rfl ?_
    refine qiX8_69 (n := 13) dX8_begin_10 rfl rfl (Nat.le_of_ble_eq_true rfl) (by omega) rfl (c_refuse1 (by omega)) (Nat.le_refl _) (Nat.le_refl _) ?_
    refine k_ireturn (ty := .int) dX8_begin_13 rfl rfl (Nat.le_refl _) (Nat.le_refl _) ?_
    exact kZ.to (by simp only [s_begin, if_neg h5]) (kZ_e1 hC (FX.rf _))
theorem setN_cg {p q : Nat → Int32} {h : Int32} : ∀ n, (∀ j, j < n → q (29 + 7 * j + 5) = p (29 + 7 * j + 5)) → setN q h n = setN p h n
  | 0, _ => rfl
  | n + 1, g => by rw [setN, setN, setN_cg n (fun j hj => g j (by omega)), g n (by omega)]
theorem set_same {p q : Nat → Int32} {h : Int32} (g : ∀ k, k ≠ 0 → ¬ (21 ≤ k ∧ k < 29) → q k = p k) : setN q h (sMany q) = setN p h (sMany p) := by
  have e : sMany q = sMany p := by unfold sMany; rw [g 9 (by omega) (by omega)]
  rw [e]
  exact setN_cg _ (fun j hj => g _ (by omega) (by omega))
set_option maxHeartbeats 2000000 in
set_option maxRecDepth 20000 in
theorem c_rhF (hd : 7 ≤ d) (hC : CR I r c t) (hR : RI r) (hX : RX r) (x k : Nat) (hk : k ≤ 200) (al no : Int32) : Ct E d mX8_isRhymeFor 0 0 [.ref 0, .int (nI x), .int (nI k), .int al, .int no] (kJ I) (kTh (kb (rhP r k al no x)) I) := by
  have h8 := hC.bl.c8
  have hT := hR.TX
  refine Ct.of (L := [some (.ref 0), some (.int (nI x)), some (.int (nI k)), some (.int al), some (.int no), none]) rfl rfl (Nat.le_of_ble_eq_true rfl) ?_
  refine al0 (n := 1) dX8_isRhymeFor_0 rfl ?_
  refine qX8_243 (n := 4) dX8_isRhymeFor_1 rfl rfl (Nat.le_of_ble_eq_true rfl) (by omega) (Nat.le_refl _) (Nat.le_refl _) rfl (c_think (by omega) hC) ?_
  rintro _ _ ⟨I1, rfl, rfl, hb1, hg1⟩
  dsimp only [Option.toList, List.cons_append, List.nil_append, Nat.add_zero]
  have hf1 := hg1
  refine al0 (n := 5) dX8_isRhymeFor_4 rfl ?_
  refine gX8_31 (n := 8) dX8_isRhymeFor_5 rfl rfl rfl rfl ?_
  refine il1 (n := 9) dX8_isRhymeFor_8 rfl ?_
  refine pX8_94 (n := 12) dX8_isRhymeFor_9 rfl rfl (hS0 (Or.inr rfl)) ?_
  refine k_gen (fun I2 e2 => ?_)
  have hb2 := BL.sf7 hb1 (Or.inr rfl) hT e2
  have hT2 := TX.ob hb2 hT (by omega)
  have hf2 := hf1.tr (FB.b e2)
  refine al0 (n := 13) dX8_isRhymeFor_12 rfl ?_
  refine gX8_31 (n := 16) dX8_isRhymeFor_13 rfl rfl rfl rfl ?_
  refine il3 (n := 17) dX8_isRhymeFor_16 rfl ?_
  refine il4 (n := 19) dX8_isRhymeFor_17 rfl ?_
  refine k_ior (n := 20) dX8_isRhymeFor_19 rfl ?_
  refine pX8_190 (n := 23) dX8_isRhymeFor_20 rfl rfl (hS0 (Or.inr rfl)) ?_
  refine k_gen (fun I3 e3 => ?_)
  have hb3 := BL.sf12 hb2 (Or.inr rfl) hT2 e3
  have hT3 := TX.ob hb3 hT2 (by omega)
  have hf3 := hf2.tr (FB.b e3)
  have hRa : RI (upd (upd r 10 (nI x)) 12 (al ||| no)) := RI_c (RI_c hR (by omega) _) (by omega) _
  have hXa : RX (upd (upd r 10 (nI x)) 12 (al ||| no)) := RX_lo (RX_lo hX (by omega) _ (by omega) (by omega)) (by omega) _ (by omega) (by omega)
  refine al0 (n := 24) dX8_isRhymeFor_23 rfl ?_
  refine gX8_31 (n := 27) dX8_isRhymeFor_24 rfl rfl rfl rfl ?_
  refine il2 (n := 28) dX8_isRhymeFor_27 rfl ?_
  refine qX8_246 (n := 31) dX8_isRhymeFor_28 rfl rfl (Nat.le_of_ble_eq_true rfl) (by omega) (Nat.le_refl _) (Nat.le_refl _) (hS0 (Or.inr rfl)) (c_settle (by omega) (Or.inr rfl) hb3 hRa hXa k (by omega)) ?_
  rintro _ _ ⟨S, q, rfl, rfl, hbS, hgS, hqS⟩
  dsimp only [Option.toList, List.nil_append, Nat.add_zero]
  have hfS := hf3.tr hgS
  refine al0 (n := 32) dX8_isRhymeFor_31 rfl ?_
  refine gX8_31 (n := 35) dX8_isRhymeFor_32 rfl rfl rfl rfl ?_
  refine k_iconst (a := 2) (n := 36) dX8_isRhymeFor_35 rfl rfl ?_
  refine qiX8_256 (n := 39) dX8_isRhymeFor_36 rfl rfl (Nat.le_of_ble_eq_true rfl) (by omega) (hS0 (Or.inr rfl)) (c_setOfN (Or.inr rfl) hbS 2) (Nat.le_refl _) (Nat.le_refl _) ?_
  rw [set_same hqS]
  refine is5 (n := 41) dX8_isRhymeFor_39 rfl trivial ?_
  refine il5 (n := 43) dX8_isRhymeFor_41 rfl ?_
  refine il3 (n := 44) dX8_isRhymeFor_43 rfl ?_
  refine k_iand (n := 45) dX8_isRhymeFor_44 rfl ?_
  refine il3 (n := 46) dX8_isRhymeFor_45 rfl ?_
  refine k_icmp_ne (t := 61) (n := 49) dX8_isRhymeFor_46 (by decide) rfl (fun h46 => ?_) (fun h46 => ?_)
  · refine k_iconst (a := 0) (n := 62) dX8_isRhymeFor_61 rfl rfl ?_
    refine k_ireturn (ty := .boolean) dX8_isRhymeFor_62 rfl (by first | rfl | exact knb _) (Nat.le_refl _) (Nat.le_refl _) ?_
    first
      | exact ⟨S, by rw [kb_f (show ¬ rhP r k al no x from fun z => h46 z.1)], rfl, hfS⟩
      | exact ⟨S, by rw [kb_f (show ¬ rhP r k al no x from fun z => h54 z.2)], rfl, hfS⟩
      | exact ⟨S, by rw [kb_t (show rhP r k al no x from ⟨h46, h54⟩)], rfl, hfS⟩
  · refine il5 (n := 51) dX8_isRhymeFor_49 rfl ?_
    refine il4 (n := 53) dX8_isRhymeFor_51 rfl ?_
    refine k_iand (n := 54) dX8_isRhymeFor_53 rfl ?_
    refine k_if_ne (t := 61) (n := 57) dX8_isRhymeFor_54 (by decide) rfl (fun h54 => ?_) (fun h54 => ?_)
    · refine k_iconst (a := 0) (n := 62) dX8_isRhymeFor_61 rfl rfl ?_
      refine k_ireturn (ty := .boolean) dX8_isRhymeFor_62 rfl (by first | rfl | exact knb _) (Nat.le_refl _) (Nat.le_refl _) ?_
      first
        | exact ⟨S, by rw [kb_f (show ¬ rhP r k al no x from fun z => h46 z.1)], rfl, hfS⟩
        | exact ⟨S, by rw [kb_f (show ¬ rhP r k al no x from fun z => h54 z.2)], rfl, hfS⟩
        | exact ⟨S, by rw [kb_t (show rhP r k al no x from ⟨h46, h54⟩)], rfl, hfS⟩
    · refine k_iconst (a := 1) (n := 58) dX8_isRhymeFor_57 rfl rfl ?_
      refine k_goto (n := 62) dX8_isRhymeFor_58 (by decide) ?_
      refine k_ireturn (ty := .boolean) dX8_isRhymeFor_62 rfl (by first | rfl | exact knb _) (Nat.le_refl _) (Nat.le_refl _) ?_
      first
        | exact ⟨S, by rw [kb_f (show ¬ rhP r k al no x from fun z => h46 z.1)], rfl, hfS⟩
        | exact ⟨S, by rw [kb_f (show ¬ rhP r k al no x from fun z => h54 z.2)], rfl, hfS⟩
        | exact ⟨S, by rw [kb_t (show rhP r k al no x from ⟨h46, h54⟩)], rfl, hfS⟩
set_option maxHeartbeats 2000000 in
set_option maxRecDepth 20000 in
theorem c_arN (hd : 7 ≤ d) (hC : CR I r c t) (hR : RI r) (hX : RX r) (k : Nat) (hk : k ≤ 200) (s : Int32) : Ct E d mX8_areNorthIfJustTheyGo 0 0 [.ref 0, .int s, .int (nI k)] (kJ I) (kTh (kb (nI (norF r s k) &&& s = s)) I) := by
  have h8 := hC.bl.c8
  have hT := hR.TX
  refine Ct.of (L := [some (.ref 0), some (.int s), some (.int (nI k))]) rfl rfl (Nat.le_of_ble_eq_true rfl) ?_
  refine al0 (n := 1) dX8_areNorthIfJustTheyGo_0 rfl ?_
  refine qX8_243 (n := 4) dX8_areNorthIfJustTheyGo_1 rfl rfl (Nat.le_of_ble_eq_true rfl) (by omega) (Nat.le_refl _) (Nat.le_refl _) rfl (c_think (by omega) hC) ?_
  rintro _ _ ⟨I1, rfl, rfl, hb1, hg1⟩
  dsimp only [Option.toList, List.cons_append, List.nil_append, Nat.add_zero]
  have hf1 := hg1
  refine al0 (n := 5) dX8_areNorthIfJustTheyGo_4 rfl ?_
  refine gX8_31 (n := 8) dX8_areNorthIfJustTheyGo_5 rfl rfl rfl rfl ?_
  refine il1 (n := 9) dX8_areNorthIfJustTheyGo_8 rfl ?_
  refine pX8_190 (n := 12) dX8_areNorthIfJustTheyGo_9 rfl rfl (hS0 (Or.inr rfl)) ?_
  refine k_gen (fun I2 e2 => ?_)
  have hb2 := BL.sf12 hb1 (Or.inr rfl) hT e2
  have hT2 := TX.ob hb2 hT (by omega)
  have hf2 := hf1.tr (FB.b e2)
  have hRa : RI (upd r 12 s) := RI_c hR (by omega) _
  have hXa : RX (upd r 12 s) := RX_lo hX (by omega) _ (by omega) (by omega)
  refine al0 (n := 13) dX8_areNorthIfJustTheyGo_12 rfl ?_
  refine gX8_31 (n := 16) dX8_areNorthIfJustTheyGo_13 rfl rfl rfl rfl ?_
  refine il2 (n := 17) dX8_areNorthIfJustTheyGo_16 rfl ?_
  refine qX8_246 (n := 20) dX8_areNorthIfJustTheyGo_17 rfl rfl (Nat.le_of_ble_eq_true rfl) (by omega) (Nat.le_refl _) (Nat.le_refl _) (hS0 (Or.inr rfl)) (c_settle (by omega) (Or.inr rfl) hb2 hRa hXa k (by omega)) ?_
  rintro _ _ ⟨S, q, rfl, rfl, hbS, hgS, hqS⟩
  dsimp only [Option.toList, List.nil_append, Nat.add_zero]
  have hfS := hf2.tr hgS
  refine al0 (n := 21) dX8_areNorthIfJustTheyGo_20 rfl ?_
  refine gX8_31 (n := 24) dX8_areNorthIfJustTheyGo_21 rfl rfl rfl rfl ?_
  refine k_iconst (a := 2) (n := 25) dX8_areNorthIfJustTheyGo_24 rfl rfl ?_
  refine qiX8_256 (n := 28) dX8_areNorthIfJustTheyGo_25 rfl rfl (Nat.le_of_ble_eq_true rfl) (by omega) (hS0 (Or.inr rfl)) (c_setOfN (Or.inr rfl) hbS 2) (Nat.le_refl _) (Nat.le_refl _) ?_
  rw [set_same hqS]
  refine il1 (n := 29) dX8_areNorthIfJustTheyGo_28 rfl ?_
  refine k_iand (n := 30) dX8_areNorthIfJustTheyGo_29 rfl ?_
  refine il1 (n := 31) dX8_areNorthIfJustTheyGo_30 rfl ?_
  refine k_icmp_ne (t := 38) (n := 34) dX8_areNorthIfJustTheyGo_31 (by decide) rfl (fun h31 => ?_) (fun h31 => ?_)
  · refine k_iconst (a := 0) (n := 39) dX8_areNorthIfJustTheyGo_38 rfl rfl ?_
    refine k_ireturn (ty := .boolean) dX8_areNorthIfJustTheyGo_39 rfl (by first | rfl | exact knb _) (Nat.le_refl _) (Nat.le_refl _) ?_
    first
      | exact ⟨S, by rw [kb_f (show ¬ nI (norF r s k) &&& s = s from h31)], rfl, hfS⟩
      | exact ⟨S, by rw [kb_t (show nI (norF r s k) &&& s = s from h31)], rfl, hfS⟩
  · refine k_iconst (a := 1) (n := 35) dX8_areNorthIfJustTheyGo_34 rfl rfl ?_
    refine k_goto (n := 39) dX8_areNorthIfJustTheyGo_35 (by decide) ?_
    refine k_ireturn (ty := .boolean) dX8_areNorthIfJustTheyGo_39 rfl (by first | rfl | exact knb _) (Nat.le_refl _) (Nat.le_refl _) ?_
    first
      | exact ⟨S, by rw [kb_f (show ¬ nI (norF r s k) &&& s = s from h31)], rfl, hfS⟩
      | exact ⟨S, by rw [kb_t (show nI (norF r s k) &&& s = s from h31)], rfl, hfS⟩
theorem p8 : ∀ p, p ≤ 8 → 1 ≤ 2 ^ p ∧ 2 ^ p ≤ 256 := by decide
theorem nI_z {x : Nat} (h : x < 1000) : nI x = 0 ↔ x = 0 := ⟨fun z => by have := congrArg Int32.toNatClampNeg z; rwa [kcl h] at this, fun z => by rw [z]; rfl⟩
set_option maxHeartbeats 2000000 in
set_option maxRecDepth 20000 in
theorem c_rhymes_l (hd : 8 ≤ d) (hR : RI r) (hX : RX r) (k p v : Nat) (al no : Int32) (hk : k ≤ 200) (hp : r 1 = nI p) (hp8 : p ≤ 8) (hv : v ≤ 1) (Q : Option Value → kM → Prop) (hY : ∀ K i, FB 51 I K → v = 1 → i = rhL (rhP r k al no) (2 ^ p) 0 → 0 < rhC (rhP r k al no) (2 ^ p) 0 → Q (some (.int (nI i))) (kJ K)) (hZ : ∀ K, FB 51 I K → v = 0 → Q (some (.int (nI (rhC (rhP r k al no) (2 ^ p) 0)))) (kJ K)) (hN : ∀ K, FB 51 I K → v = 1 → rhC (rhP r k al no) (2 ^ p) 0 = 0 → Q (some (.int (-1000000002))) (kJ (kerC K 2))) (m : Nat) : ∀ (i f : Nat) (J : Nat → Nat → Int32), CR J r c t → FB 51 I J → i + m = 2 ^ p → f + rhC (rhP r k al no) m i = rhC (rhP r k al no) (2 ^ p) 0 → (v = 1 → f = 0 ∧ rhL (rhP r k al no) m i = rhL (rhP r k al no) (2 ^ p) 0) → Wd E d mX8_rhymes 0 0 0 0 89 [some (.ref 0), some (.int (nI k)), some (.int al), some (.int no), some (.int (nI v)), some (.int (nI c)), some (.int (nI f)), some (.int (nI i))] [] (kJ J) Q := by
  induction m with
  | zero =>
    intro i f J hC hf hi hs hw
    have e : i = 2 ^ p := by omega
    subst e
    have hb := hC.bl
    have hs0 : f = rhC (rhP r k al no) (2 ^ p) 0 := hs
    refine il7 (n := 91) dX8_rhymes_89 rfl ?_
    refine k_iconst (a := 1) (n := 92) dX8_rhymes_91 rfl rfl ?_
    refine al0 (n := 93) dX8_rhymes_92 rfl ?_
    refine gX8_10 (n := 96) dX8_rhymes_93 rfl rfl rfl rfl ?_
    refine gX8_73 (n := 99) dX8_rhymes_96 rfl rfl rfl rfl ?_
    refine gX8_91 (n := 102) dX8_rhymes_99 rfl rfl (hS0 (Or.inl rfl)) ?_
    refine k_top ((BL.f6 hb).trans hp) ?_
    refine k_ishl (n := 103) dX8_rhymes_102 rfl ?_
    rw [sh1 p (by omega)]
    refine k_icmp_ge (t := 136) (n := 106) dX8_rhymes_103 (by decide) rfl (fun h103 => ?_) (fun h103 => ?_)
    · refine il4 (n := 138) dX8_rhymes_136 rfl ?_
      refine k_if_ne (t := 146) (n := 141) dX8_rhymes_138 (by decide) rfl (fun h138 => ?_) (fun h138 => ?_)
      · have e1 : v = 1 := by
          rcases (show v = 0 ∨ v = 1 by omega) with rfl | rfl
          · exact absurd rfl h138
          · rfl
        refine al0 (n := 147) dX8_rhymes_146 rfl ?_
        refine k_iconst (a := 2) (n := 148) dX8_rhymes_147 rfl rfl ?_
        refine qiX8_69 (n := 151) dX8_rhymes_148 rfl rfl (Nat.le_of_ble_eq_true rfl) (by omega) rfl (c_refuse2 (by omega)) (Nat.le_refl _) (Nat.le_refl _) ?_
        refine k_ireturn (ty := .int) dX8_rhymes_151 rfl rfl (Nat.le_refl _) (Nat.le_refl _) ?_
        first
          | exact hN J hf e1 (by rw [← hs0]; exact (hw e1).1)
          | (rw [hs0]
             exact hZ J hf e0)
      · have e0 : v = 0 := by
          rcases (show v = 0 ∨ v = 1 by omega) with rfl | rfl
          · rfl
          · exact absurd h138 (by decide)
        refine il6 (n := 143) dX8_rhymes_141 rfl ?_
        refine k_goto (n := 151) dX8_rhymes_143 (by decide) ?_
        refine k_ireturn (ty := .int) dX8_rhymes_151 rfl rfl (Nat.le_refl _) (Nat.le_refl _) ?_
        first
          | exact hN J hf e1 (by rw [← hs0]; exact (hw e1).1)
          | (rw [hs0]
             exact hZ J hf e0)
    · exact absurd (Int32.le_refl _) h103
  | succ m ih =>
    intro i f J hC hf hi hs hw
    have hb := hC.bl
    have hp2 := p8 p hp8
    have hc1 := rhC_le (rhP r k al no) (2 ^ p) 0
    refine il7 (n := 91) dX8_rhymes_89 rfl ?_
    refine k_iconst (a := 1) (n := 92) dX8_rhymes_91 rfl rfl ?_
    refine al0 (n := 93) dX8_rhymes_92 rfl ?_
    refine gX8_10 (n := 96) dX8_rhymes_93 rfl rfl rfl rfl ?_
    refine gX8_73 (n := 99) dX8_rhymes_96 rfl rfl rfl rfl ?_
    refine gX8_91 (n := 102) dX8_rhymes_99 rfl rfl (hS0 (Or.inl rfl)) ?_
    refine k_top ((BL.f6 hb).trans hp) ?_
    refine k_ishl (n := 103) dX8_rhymes_102 rfl ?_
    rw [sh1 p (by omega)]
    refine k_icmp_ge (t := 136) (n := 106) dX8_rhymes_103 (by decide) rfl (fun h103 => ?_) (fun h103 => ?_)
    · exact absurd h103 (nI_ge (by omega) (by omega))
    · refine al0 (n := 107) dX8_rhymes_106 rfl ?_
      refine il7 (n := 109) dX8_rhymes_107 rfl ?_
      refine il1 (n := 110) dX8_rhymes_109 rfl ?_
      refine il2 (n := 111) dX8_rhymes_110 rfl ?_
      refine il3 (n := 112) dX8_rhymes_111 rfl ?_
      refine qX8_252 (n := 115) dX8_rhymes_112 rfl rfl (Nat.le_of_ble_eq_true rfl) (by omega) (Nat.le_refl _) (Nat.le_refl _) rfl (c_rhF (by omega) hC hR hX i k hk al no) ?_
      rintro _ _ ⟨K, rfl, rfl, hgK⟩
      dsimp only [Option.toList, List.cons_append, List.nil_append, Nat.add_zero]
      have hCK := hC.th hgK
      have hbK := hCK.bl
      have hfK := hf.tr hgK
      refine k_ifb_eq (t := 130) (n := 118) dX8_rhymes_115 (by decide) rfl (fun h115 => ?_) (fun h115 => ?_)
      · refine ii7 (n := 133) dX8_rhymes_130 rfl (ki1 _) trivial ?_
        rw [nI_1]
        refine k_goto (n := 89) dX8_rhymes_133 (by decide) ?_
        first
          | exact ih (i + 1) (f + 1) K hCK hfK (by omega) (by have hx := hs; rw [rhC, if_pos h115] at hx; omega) (fun z => absurd z (by omega))
          | exact ih (i + 1) f K hCK hfK (by omega) (by have hx := hs; rw [rhC, if_neg h115] at hx; omega) (fun z => ⟨(hw z).1, by rw [← (hw z).2, rhL, if_neg h115]⟩)
      · refine il4 (n := 120) dX8_rhymes_118 rfl ?_
        refine k_iconst (a := 1) (n := 121) dX8_rhymes_120 rfl rfl ?_
        refine k_icmp_ne (t := 127) (n := 124) dX8_rhymes_121 (by decide) rfl (fun h121 => ?_) (fun h121 => ?_)
        · have h121v : v = 0 := by
            rcases (show v = 0 ∨ v = 1 by omega) with rfl | rfl
            · rfl
            · exact absurd rfl h121
          refine ii6 (n := 130) dX8_rhymes_127 rfl (ki1 _) trivial ?_
          rw [nI_1]
          refine ii7 (n := 133) dX8_rhymes_130 rfl (ki1 _) trivial ?_
          rw [nI_1]
          refine k_goto (n := 89) dX8_rhymes_133 (by decide) ?_
          first
            | exact ih (i + 1) (f + 1) K hCK hfK (by omega) (by have hx := hs; rw [rhC, if_pos h115] at hx; omega) (fun z => absurd z (by omega))
            | exact ih (i + 1) f K hCK hfK (by omega) (by have hx := hs; rw [rhC, if_neg h115] at hx; omega) (fun z => ⟨(hw z).1, by rw [← (hw z).2, rhL, if_neg h115]⟩)
        · have h121v : v = 1 := by
            rcases (show v = 0 ∨ v = 1 by omega) with rfl | rfl
            · exact absurd h121 (by decide)
            · rfl
          refine il7 (n := 126) dX8_rhymes_124 rfl ?_
          refine k_ireturn (ty := .int) dX8_rhymes_126 rfl rfl (Nat.le_refl _) (Nat.le_refl _) ?_
          exact hY K i hfK h121v (by rw [← (hw h121v).2, rhL, if_pos h115]) (by have hx := hs; rw [rhC, if_pos h115] at hx; omega)
set_option maxHeartbeats 2000000 in
set_option maxRecDepth 20000 in
theorem c_rhymes (hd : 9 ≤ d) (hC : CR I r c t) (hR : RI r) (hX : RX r) (n al no q : Int32) : Ct E d mX8_rhymes 0 0 [.ref 0, .int n, .int al, .int no, .int q] (kJ I) (kZ I (s_rhymes r n al no q)) := by
  have hb := hC.bl
  have hT := hR.TX
  have h8 := hb.c8
  have h4 := hb.t4
  obtain ⟨-, -, -, -, -, -, ⟨p, hp, hp1, hp16⟩, -⟩ := id hR
  have ep : sPw r = 2 ^ p := by unfold sPw; rw [hp, kcl (by omega)]
  refine Ct.of (L := [some (.ref 0), some (.int n), some (.int al), some (.int no), some (.int q), none, none, none]) rfl rfl (Nat.le_of_ble_eq_true rfl) ?_
  refine al0 (n := 1) dX8_rhymes_0 rfl ?_
  refine gX8_10 (n := 4) dX8_rhymes_1 rfl rfl rfl rfl ?_
  refine gX8_73 (n := 7) dX8_rhymes_4 rfl rfl rfl rfl ?_
  refine gX8_76 (n := 10) dX8_rhymes_7 rfl rfl (hS0 (Or.inl rfl)) ?_
  refine k_top ((BL.f11 hb).trans hb.c9) ?_
  refine is5 (n := 12) dX8_rhymes_10 rfl trivial ?_
  refine il1 (n := 13) dX8_rhymes_12 rfl ?_
  refine k_iconst (a := 0) (n := 14) dX8_rhymes_13 rfl rfl ?_
  refine k_bipush (a := 60) (n := 16) dX8_rhymes_14 rfl rfl ?_
  refine qiX8_65 (n := 19) dX8_rhymes_16 rfl rfl (Nat.le_of_ble_eq_true rfl) (by omega) (c_within _ _ _) (Nat.le_refl _) (Nat.le_refl _) ?_
  refine k_ifb_eq (t := 56) (n := 22) dX8_rhymes_19 (by decide) rfl (fun h19 => ?_) (fun h19 => ?_)
  · refine al0 (n := 57) dX8_rhymes_56 rfl ?_
    refine k_iconst (a := 1) (n := 58) dX8_rhymes_57 rfl rfl ?_
    refine qiX8_69 (n := 61) dX8_rhymes_58 rfl rfl (Nat.le_of_ble_eq_true rfl) (by omega) rfl (c_refuse1 (by omega)) (Nat.le_refl _) (Nat.le_refl _) ?_
    refine k_ireturn (ty := .int) dX8_rhymes_61 rfl rfl (Nat.le_refl _) (Nat.le_refl _) ?_
    exact kZ.to (by simp only [s_rhymes, hb.c9, if_neg h19]) (kZ_e1 hC (FX.rf _))
  · obtain ⟨k, -, hk, rfl⟩ := kbt (a := 0) (b := 60) h19 (by decide) (by decide)
    refine il2 (n := 23) dX8_rhymes_22 rfl ?_
    refine il5 (n := 25) dX8_rhymes_23 rfl ?_
    refine qiX8_87 (n := 28) dX8_rhymes_25 rfl rfl (Nat.le_of_ble_eq_true rfl) (by omega) (c_isSetOf _ c (by omega)) (Nat.le_refl _) (Nat.le_refl _) ?_
    refine k_ifb_eq (t := 56) (n := 31) dX8_rhymes_28 (by decide) rfl (fun h28 => ?_) (fun h28 => ?_)
    · refine al0 (n := 57) dX8_rhymes_56 rfl ?_
      refine k_iconst (a := 1) (n := 58) dX8_rhymes_57 rfl rfl ?_
      refine qiX8_69 (n := 61) dX8_rhymes_58 rfl rfl (Nat.le_of_ble_eq_true rfl) (by omega) rfl (c_refuse1 (by omega)) (Nat.le_refl _) (Nat.le_refl _) ?_
      refine k_ireturn (ty := .int) dX8_rhymes_61 rfl rfl (Nat.le_refl _) (Nat.le_refl _) ?_
      exact kZ.to (by simp only [s_rhymes, hb.c9, if_pos h19, kcl (show k < 1000 by omega), if_neg h28]) (kZ_e1 hC (FX.rf _))
    · refine il3 (n := 32) dX8_rhymes_31 rfl ?_
      refine il5 (n := 34) dX8_rhymes_32 rfl ?_
      refine qiX8_87 (n := 37) dX8_rhymes_34 rfl rfl (Nat.le_of_ble_eq_true rfl) (by omega) (c_isSetOf _ c (by omega)) (Nat.le_refl _) (Nat.le_refl _) ?_
      refine k_ifb_eq (t := 56) (n := 40) dX8_rhymes_37 (by decide) rfl (fun h37 => ?_) (fun h37 => ?_)
      · refine al0 (n := 57) dX8_rhymes_56 rfl ?_
        refine k_iconst (a := 1) (n := 58) dX8_rhymes_57 rfl rfl ?_
        refine qiX8_69 (n := 61) dX8_rhymes_58 rfl rfl (Nat.le_of_ble_eq_true rfl) (by omega) rfl (c_refuse1 (by omega)) (Nat.le_refl _) (Nat.le_refl _) ?_
        refine k_ireturn (ty := .int) dX8_rhymes_61 rfl rfl (Nat.le_refl _) (Nat.le_refl _) ?_
        exact kZ.to (by simp only [s_rhymes, hb.c9, if_pos h19, kcl (show k < 1000 by omega), if_pos h28, if_neg h37]) (kZ_e1 hC (FX.rf _))
      · refine il2 (n := 41) dX8_rhymes_40 rfl ?_
        refine il3 (n := 42) dX8_rhymes_41 rfl ?_
        refine k_iand (n := 43) dX8_rhymes_42 rfl ?_
        refine k_if_ne (t := 56) (n := 46) dX8_rhymes_43 (by decide) rfl (fun h43 => ?_) (fun h43 => ?_)
        · refine al0 (n := 57) dX8_rhymes_56 rfl ?_
          refine k_iconst (a := 1) (n := 58) dX8_rhymes_57 rfl rfl ?_
          refine qiX8_69 (n := 61) dX8_rhymes_58 rfl rfl (Nat.le_of_ble_eq_true rfl) (by omega) rfl (c_refuse1 (by omega)) (Nat.le_refl _) (Nat.le_refl _) ?_
          refine k_ireturn (ty := .int) dX8_rhymes_61 rfl rfl (Nat.le_refl _) (Nat.le_refl _) ?_
          exact kZ.to (by simp only [s_rhymes, hb.c9, if_pos h19, kcl (show k < 1000 by omega), if_pos h28, if_pos h37, if_neg h43]) (kZ_e1 hC (FX.rf _))
        · refine il4 (n := 48) dX8_rhymes_46 rfl ?_
          refine k_iconst (a := 0) (n := 49) dX8_rhymes_48 rfl rfl ?_
          refine k_iconst (a := 1) (n := 50) dX8_rhymes_49 rfl rfl ?_
          refine qiX8_65 (n := 53) dX8_rhymes_50 rfl rfl (Nat.le_of_ble_eq_true rfl) (by omega) (c_within _ _ _) (Nat.le_refl _) (Nat.le_refl _) ?_
          refine k_ifb_ne (t := 62) (n := 56) dX8_rhymes_53 (by decide) rfl (fun h53 => ?_) (fun h53 => ?_)
          · obtain ⟨w, -, hw, rfl⟩ := kbt (a := 0) (b := 1) h53 (by decide) (by decide)
            refine al0 (n := 63) dX8_rhymes_62 rfl ?_
            refine gX8_10 (n := 66) dX8_rhymes_63 rfl rfl rfl rfl ?_
            refine gX8_73 (n := 69) dX8_rhymes_66 rfl rfl rfl rfl ?_
            refine gX8_91 (n := 72) dX8_rhymes_69 rfl rfl (hS0 (Or.inl rfl)) ?_
            refine k_top (BL.f6 hb) ?_
            refine k_bipush (a := 8) (n := 74) dX8_rhymes_72 rfl rfl ?_
            refine k_icmp_le (t := 83) (n := 77) dX8_rhymes_74 (by decide) rfl (fun h74 => ?_) (fun h74 => ?_)
            · refine k_iconst (a := 0) (n := 84) dX8_rhymes_83 rfl rfl ?_
              refine is6 (n := 86) dX8_rhymes_84 rfl trivial ?_
              refine k_iconst (a := 0) (n := 87) dX8_rhymes_86 rfl rfl ?_
              refine is7 (n := 89) dX8_rhymes_87 rfl trivial ?_
              have hp8 : p ≤ 8 := by
                rw [hp] at h74
                exact Nat.le_of_not_lt fun z => nI_ge z (by omega) h74
              have hp2 := p8 p hp8
              have hc1 := rhC_le (rhP r k al no) (2 ^ p) 0
              refine c_rhymes_l (by omega) hR hX k p w al no (by omega) hp hp8 hw _ (fun K i hf hv hi h0 => ?_) (fun K hf hv => ?_) (fun K hf hv h0 => ?_) (2 ^ p) 0 0 I hC (FB.rf _ _) (by omega) (Nat.zero_add _) (fun _ => ⟨rfl, rfl⟩)
              · subst hv
                exact kZ.to (by simp only [s_rhymes, hb.c9, ep, if_pos h19, kcl (show k < 1000 by omega), if_pos h28, if_pos h37, if_pos h43, if_pos h53, kcl (show 1 < 1000 by omega), if_pos h74, if_pos (show nI 1 = 1 from rfl), if_neg (show ¬ nI 1 = 0 by decide)]; rw [if_neg (fun z => absurd ((nI_z (by omega)).mp z) (by omega)), ← hi]) (kZ_x (hC.th hf) (FX.th hf))
              · subst hv
                exact kZ.to (by simp only [s_rhymes, hb.c9, ep, if_pos h19, kcl (show k < 1000 by omega), if_pos h28, if_pos h37, if_pos h43, if_pos h53, kcl (show 0 < 1000 by omega), if_pos h74, if_neg (show ¬ nI 0 = 1 by decide), if_pos (show nI 0 = 0 from rfl)]) (kZ_x (hC.th hf) (FX.th hf))
              · subst hv
                exact kZ.to (by simp only [s_rhymes, hb.c9, ep, if_pos h19, kcl (show k < 1000 by omega), if_pos h28, if_pos h37, if_pos h43, if_pos h53, kcl (show 1 < 1000 by omega), if_pos h74, if_pos (show nI 1 = 1 from rfl)]; rw [if_pos ((nI_z (by omega)).mpr h0)]) (kZ_e2 (hC.th hf) (FX.th hf))
            · refine al0 (n := 78) dX8_rhymes_77 rfl ?_
              refine k_iconst (a := 3) (n := 79) dX8_rhymes_78 rfl rfl ?_
              refine qiX8_69 (n := 82) dX8_rhymes_79 rfl rfl (Nat.le_of_ble_eq_true rfl) (by omega) rfl (c_refuse3 (by omega)) (Nat.le_refl _) (Nat.le_refl _) ?_
              refine k_ireturn (ty := .int) dX8_rhymes_82 rfl rfl (Nat.le_refl _) (Nat.le_refl _) ?_
              exact kZ.to (by simp only [s_rhymes, hb.c9, if_pos h19, kcl (show k < 1000 by omega), if_pos h28, if_pos h37, if_pos h43, if_pos h53, kcl (show w < 1000 by omega), if_neg h74]) (kZ_e3 hC (FX.rf _))
          · refine al0 (n := 57) dX8_rhymes_56 rfl ?_
            refine k_iconst (a := 1) (n := 58) dX8_rhymes_57 rfl rfl ?_
            refine qiX8_69 (n := 61) dX8_rhymes_58 rfl rfl (Nat.le_of_ble_eq_true rfl) (by omega) rfl (c_refuse1 (by omega)) (Nat.le_refl _) (Nat.le_refl _) ?_
            refine k_ireturn (ty := .int) dX8_rhymes_61 rfl rfl (Nat.le_refl _) (Nat.le_refl _) ?_
            exact kZ.to (by simp only [s_rhymes, hb.c9, if_pos h19, kcl (show k < 1000 by omega), if_pos h28, if_pos h37, if_pos h43, if_neg h53]) (kZ_e1 hC (FX.rf _))
end C10

section C3
variable {E : kE} {d B c t : Nat} {I : Nat → Nat → Int32} {r : Nat → Int32}
theorem c_gives0 (hd : 1 ≤ d) (hB : BB B) (hb : BL B I r c t) (x y z : Int32) : Ct E d mX3_gives 0 0 [.ref 2, .int x, .int y, .int z] (kJ I) (kBi (lawF r 0 x y z) B I r c t) := by
  obtain ⟨h1, h2, n, h3, h4, h5, h6⟩ := hb.2.1
  refine c_gives_g (A := 2) (C := 3) (S := 4) hd rfl rfl rfl rfl rfl (by decide) (by decide) x y z n h4 h3 h5 ?_ _ ?_
  · rw [show I 2 2 = 1 from h1, show I 2 3 = 9 from h2]; decide
  · have e := h6 (I 4) x y z
    refine ⟨kset I 4 (runF (I 3) x y z (I 4, 0) n).1, ?_, rfl, ?_, FB.s (u := 0) (by decide) rfl⟩
    · rw [show I 2 2 = 1 from h1, show I 2 3 = 9 from h2, ← e]; rfl
    · refine ⟨?_, BL.fr hb.2 hB (FB.s (u := 0) (by decide) rfl)⟩
      rcases hB with rfl | rfl <;> exact hb.1.st (by decide) (by decide)
theorem c_gives1 (hd : 1 ≤ d) (hB : BB B) (hb : BL B I r c t) (x y z : Int32) : Ct E d mX3_gives 0 0 [.ref 5, .int x, .int y, .int z] (kJ I) (kBi (lawF r 1 x y z) B I r c t) := by
  obtain ⟨h1, h2, n, h3, h4, h5, h6⟩ := hb.2.2
  refine c_gives_g (A := 5) (C := 6) (S := 7) hd rfl rfl rfl rfl rfl (by decide) (by decide) x y z n h4 h3 h5 ?_ _ ?_
  · rw [show I 5 2 = 0 from h1, show I 5 3 = 1 from h2]; decide
  · have e := h6 (I 7) x y z
    refine ⟨kset I 7 (runF (I 6) x y z (I 7, 0) n).1, ?_, rfl, ?_, FB.s (u := 1) (by decide) rfl⟩
    · rw [show I 5 2 = 0 from h1, show I 5 3 = 1 from h2, ← e]; rfl
    · refine ⟨?_, BL.fr hb.2 hB (FB.s (u := 1) (by decide) rfl)⟩
      rcases hB with rfl | rfl <;> exact hb.1.st (by decide) (by decide)
set_option maxHeartbeats 2000000 in
set_option maxRecDepth 20000 in
theorem c_setOf_l (hB : BB B) (hb : BL B I r c t) (q : Int32) (m : Nat) : ∀ (i : Nat), i + m = c → Wd E d mX0_setOf 0 0 0 0 4 [some (.ref B), some (.int q), some (.int (setF r q i)), some (.int (nI i))] [] (kJ I) (kR (setF r q c) I) := by
  induction m with
  | zero =>
    intro i hi
    have e : i = c := by omega
    subst e
    refine il3 (n := 5) dX0_setOf_4 rfl ?_
    refine al0 (n := 6) dX0_setOf_5 rfl ?_
    refine gX0_59 (n := 9) dX0_setOf_6 rfl rfl (hS0 hB) ?_
    refine k_top ((BL.f11 hb).trans hb.c9) ?_
    refine k_icmp_ge (t := 37) (n := 12) dX0_setOf_9 (by decide) rfl (fun h9 => ?_) (fun h9 => ?_)
    · refine il2 (n := 38) dX0_setOf_37 rfl ?_
      refine k_ireturn (ty := .int) dX0_setOf_38 rfl rfl (Nat.le_refl _) (Nat.le_refl _) ?_
      exact ⟨rfl, rfl⟩
    · exact absurd (Int32.le_refl _) h9
  | succ m ih =>
    intro i hi
    have hic : i < c := by omega
    have h8 := hb.c8
    refine il3 (n := 5) dX0_setOf_4 rfl ?_
    refine al0 (n := 6) dX0_setOf_5 rfl ?_
    refine gX0_59 (n := 9) dX0_setOf_6 rfl rfl (hS0 hB) ?_
    refine k_top ((BL.f11 hb).trans hb.c9) ?_
    refine k_icmp_ge (t := 37) (n := 12) dX0_setOf_9 (by decide) rfl (fun h9 => ?_) (fun h9 => ?_)
    · exact absurd h9 (nI_ge (by omega) (by omega))
    · refine al0 (n := 13) dX0_setOf_12 rfl ?_
      refine gX0_23 (n := 16) dX0_setOf_13 rfl rfl (hS0 hB) (hP4 hB) ?_
      refine il3 (n := 17) dX0_setOf_16 rfl ?_
      refine j_aald (j := i) (n := 18) dX0_setOf_17 rfl (hS3 hB) hOC rfl (by omega) (by decide) (hP6 hB (by omega)) ?_
      refine gX0_93 (n := 21) dX0_setOf_18 rfl rfl (hS8 hB (by omega)) ?_
      refine k_top (BL.cr hb hic (j := 5) (by decide)) ?_
      refine il1 (n := 22) dX0_setOf_21 rfl ?_
      refine k_icmp_ne (t := 31) (n := 25) dX0_setOf_22 (by decide) rfl (fun h22 => ?_) (fun h22 => ?_)
      · refine ii3 (n := 34) dX0_setOf_31 rfl (ki1 _) trivial ?_
        rw [nI_1]
        refine k_goto (n := 4) dX0_setOf_34 (by decide) ?_
        have h := ih (i + 1) (by omega)
        simp only [setF, if_neg h9, if_neg h22] at h
        first
          | exact h
          | (rw [show setF r q i ||| 0 = setF r q i from Int32.or_zero] at h; exact h)
      · refine il2 (n := 26) dX0_setOf_25 rfl ?_
        refine k_iconst (a := 1) (n := 27) dX0_setOf_26 rfl rfl ?_
        refine il3 (n := 28) dX0_setOf_27 rfl ?_
        refine k_ishl (n := 29) dX0_setOf_28 rfl ?_
        refine k_ior (n := 30) dX0_setOf_29 rfl ?_
        refine is2 (n := 31) dX0_setOf_30 rfl trivial ?_
        refine ii3 (n := 34) dX0_setOf_31 rfl (ki1 _) trivial ?_
        rw [nI_1]
        refine k_goto (n := 4) dX0_setOf_34 (by decide) ?_
        have h := ih (i + 1) (by omega)
        simp only [setF, if_neg h9, if_pos h22] at h
        first
          | exact h
          | (rw [show setF r q i ||| 0 = setF r q i from Int32.or_zero] at h; exact h)
set_option maxHeartbeats 2000000 in
set_option maxRecDepth 20000 in
theorem c_setOf (hB : BB B) (hb : BL B I r c t) (q : Int32) : Ct E d mX0_setOf 0 0 [.ref B, .int q] (kJ I) (kR (setF r q (sMany r)) I) := by
  rw [hb.eM]
  refine Ct.of (L := [some (.ref B), some (.int q), none, none]) rfl rfl (Nat.le_of_ble_eq_true rfl) ?_
  refine k_iconst (a := 0) (n := 1) dX0_setOf_0 rfl rfl ?_
  refine is2 (n := 2) dX0_setOf_1 rfl trivial ?_
  refine k_iconst (a := 0) (n := 3) dX0_setOf_2 rfl rfl ?_
  refine is3 (n := 4) dX0_setOf_3 rfl trivial ?_
  exact c_setOf_l hB hb q c 0 (by omega)
theorem c_setOfN (hB : BB B) (hb : BL B I r c t) (q : Int32) : Ct E d mX0_setOf 0 0 [.ref B, .int q] (kJ I) (kR (nI (setN r q (sMany r))) I) := by
  have h := c_setOf (E := E) (d := d) hB hb q
  rw [setF_N r q _ (by rw [hb.eM]; exact hb.c8)] at h
  exact h
set_option maxHeartbeats 2000000 in
set_option maxRecDepth 20000 in
theorem c_countOf (hd : 1 ≤ d) (hB : BB B) (hb : BL B I r c t) (q : Int32) : Ct E d mX0_countOf 0 0 [.ref B, .int q] (kJ I) (kR (cntF r q) I) := by
  refine Ct.of (L := [some (.ref B), some (.int q)]) rfl rfl (Nat.le_of_ble_eq_true rfl) ?_
  refine al0 (n := 1) dX0_countOf_0 rfl ?_
  refine il1 (n := 2) dX0_countOf_1 rfl ?_
  refine qiX0_113 (n := 5) dX0_countOf_2 rfl rfl (Nat.le_of_ble_eq_true rfl) (by omega) (hS0 hB) (c_setOfN hB hb q) (Nat.le_refl _) (Nat.le_refl _) ?_
  refine qiX0_116 (n := 8) dX0_countOf_5 rfl rfl (Nat.le_of_ble_eq_true rfl) (by omega) (j_bits _ (Nat.lt_of_lt_of_le (setN_lt r q _) (Nat.pow_le_pow_right (by decide) (by rw [hb.eM]; exact hb.c8) : _ ≤ 2 ^ 8))) (Nat.le_refl _) (Nat.le_refl _) ?_
  refine k_ireturn (ty := .int) dX0_countOf_8 rfl rfl (Nat.le_refl _) (Nat.le_refl _) ?_
  exact ⟨rfl, rfl⟩
set_option maxHeartbeats 2000000 in
set_option maxRecDepth 20000 in
theorem c_mostWear_l (hB : BB B) (hb : BL B I r c t) (n : Nat) (hn : r 3 = nI n) (h8 : n ≤ 8) (m : Nat) : ∀ (i : Nat), i + m = n → Wd E d mX0_mostWear 0 0 0 0 4 [some (.ref B), some (.int (mstW r i)), some (.int (nI i))] [] (kJ I) (kR (mstW r n) I) := by
  induction m with
  | zero =>
    intro i hi
    have e : i = n := by omega
    subst e
    refine il2 (n := 5) dX0_mostWear_4 rfl ?_
    refine al0 (n := 6) dX0_mostWear_5 rfl ?_
    refine gX0_27 (n := 9) dX0_mostWear_6 rfl rfl (hS0 hB) ?_
    refine k_top ((BL.f5 hb).trans hn) ?_
    refine k_icmp_ge (t := 29) (n := 12) dX0_mostWear_9 (by decide) rfl (fun h9 => ?_) (fun h9 => ?_)
    · refine il1 (n := 30) dX0_mostWear_29 rfl ?_
      refine k_ireturn (ty := .int) dX0_mostWear_30 rfl rfl (Nat.le_refl _) (Nat.le_refl _) ?_
      exact ⟨rfl, rfl⟩
    · exact absurd (Int32.le_refl _) h9
  | succ m ih =>
    intro i hi
    have hi8 : i < 8 := by omega
    refine il2 (n := 5) dX0_mostWear_4 rfl ?_
    refine al0 (n := 6) dX0_mostWear_5 rfl ?_
    refine gX0_27 (n := 9) dX0_mostWear_6 rfl rfl (hS0 hB) ?_
    refine k_top ((BL.f5 hb).trans hn) ?_
    refine k_icmp_ge (t := 29) (n := 12) dX0_mostWear_9 (by decide) rfl (fun h9 => ?_) (fun h9 => ?_)
    · exact absurd h9 (nI_ge (by omega) (by omega))
    · refine il1 (n := 13) dX0_mostWear_12 rfl ?_
      refine al0 (n := 14) dX0_mostWear_13 rfl ?_
      refine gX0_9 (n := 17) dX0_mostWear_14 rfl rfl (hS0 hB) (hP2 hB) ?_
      refine il2 (n := 18) dX0_mostWear_17 rfl ?_
      refine j_iald (j := i) (n := 19) dX0_mostWear_18 rfl (hS1 hB) rfl (by omega) (by decide) ?_
      refine k_top (BL.we hb hi8) ?_
      refine qX0_121 (n := 22) dX0_mostWear_19 rfl rfl (Nat.le_of_ble_eq_true rfl) (Nat.le_refl _) (Nat.le_refl _) ?_
      refine is1 (n := 23) dX0_mostWear_22 rfl trivial ?_
      refine ii2 (n := 26) dX0_mostWear_23 rfl (ki1 _) trivial ?_
      rw [nI_1]
      refine k_goto (n := 4) dX0_mostWear_26 (by decide) ?_
      have h := ih (i + 1) (by omega)
      rw [show mstW r (i + 1) = (if mstW r i < r (13 + i) then r (13 + i) else mstW r i) from by
        rw [mstW]
        by_cases q : r (13 + i) ≤ mstW r i
        · rw [if_pos q, if_neg (Int32.not_lt.mpr q)]
        · rw [if_neg q, if_pos (Int32.not_le.mp q)]] at h
      exact h
set_option maxHeartbeats 2000000 in
set_option maxRecDepth 20000 in
theorem c_mostWear (hB : BB B) (hb : BL B I r c t) (hR : RI r) : Ct E d mX0_mostWear 0 0 [.ref B] (kJ I) (kR (mstW r (sPl r)) I) := by
  obtain ⟨-, -, -, ⟨n, hn, -, h8⟩, -⟩ := id hR
  rw [show sPl r = n by unfold sPl; rw [hn]; exact kcl (by omega)]
  refine Ct.of (L := [some (.ref B), none, none]) rfl rfl (Nat.le_of_ble_eq_true rfl) ?_
  refine k_iconst (a := 0) (n := 1) dX0_mostWear_0 rfl rfl ?_
  refine is1 (n := 2) dX0_mostWear_1 rfl trivial ?_
  refine k_iconst (a := 0) (n := 3) dX0_mostWear_2 rfl rfl ?_
  refine is2 (n := 4) dX0_mostWear_3 rfl trivial ?_
  exact c_mostWear_l hB hb n hn h8 n 0 (by omega)
set_option maxHeartbeats 2000000 in
set_option maxRecDepth 20000 in
theorem c_isFree_l (hB : BB B) (hb : BL B I r c t) (p : Int32) (m : Nat) : ∀ (i : Nat), i + m = c → frF r p i → Wd E d mX0_isFree 0 0 0 0 2 [some (.ref B), some (.int p), some (.int (nI i))] [] (kJ I) (kR (kb (frF r p c)) I) := by
  induction m with
  | zero =>
    intro i hi hfr
    have e : i = c := by omega
    subst e
    refine il2 (n := 3) dX0_isFree_2 rfl ?_
    refine al0 (n := 4) dX0_isFree_3 rfl ?_
    refine gX0_59 (n := 7) dX0_isFree_4 rfl rfl (hS0 hB) ?_
    refine k_top ((BL.f11 hb).trans hb.c9) ?_
    refine k_icmp_ge (t := 44) (n := 10) dX0_isFree_7 (by decide) rfl (fun h7 => ?_) (fun h7 => ?_)
    · refine k_iconst (a := 1) (n := 45) dX0_isFree_44 rfl rfl ?_
      refine k_ireturn (ty := .boolean) dX0_isFree_45 rfl (by first | rfl | exact knb _) (Nat.le_refl _) (Nat.le_refl _) ?_
      exact kRt hfr
    · exact absurd (Int32.le_refl _) h7
  | succ m ih =>
    intro i hi hfr
    have hic : i < c := by omega
    have h8 := hb.c8
    refine il2 (n := 3) dX0_isFree_2 rfl ?_
    refine al0 (n := 4) dX0_isFree_3 rfl ?_
    refine gX0_59 (n := 7) dX0_isFree_4 rfl rfl (hS0 hB) ?_
    refine k_top ((BL.f11 hb).trans hb.c9) ?_
    refine k_icmp_ge (t := 44) (n := 10) dX0_isFree_7 (by decide) rfl (fun h7 => ?_) (fun h7 => ?_)
    · exact absurd h7 (nI_ge (by omega) (by omega))
    · refine al0 (n := 11) dX0_isFree_10 rfl ?_
      refine gX0_23 (n := 14) dX0_isFree_11 rfl rfl (hS0 hB) (hP4 hB) ?_
      refine il2 (n := 15) dX0_isFree_14 rfl ?_
      refine j_aald (j := i) (n := 16) dX0_isFree_15 rfl (hS3 hB) hOC rfl (by omega) (by decide) (hP6 hB (by omega)) ?_
      refine gX0_93 (n := 19) dX0_isFree_16 rfl rfl (hS8 hB (by omega)) ?_
      refine k_top (BL.cr hb hic (j := 5) (by decide)) ?_
      refine k_iconst (a := 1) (n := 20) dX0_isFree_19 rfl rfl ?_
      refine k_icmp_ne (t := 38) (n := 23) dX0_isFree_20 (by decide) rfl (fun h20 => ?_) (fun h20 => ?_)
      · refine ii2 (n := 41) dX0_isFree_38 rfl (ki1 _) trivial ?_
        rw [nI_1]
        refine k_goto (n := 2) dX0_isFree_41 (by decide) ?_
        refine ih (i + 1) (by omega) (fun k hk => ?_)
        rcases Nat.lt_or_ge k i with q | q
        · exact hfr k q
        · rw [show k = i by omega]
          first | exact fun x => h20 x.1 | exact fun x => h33 x.2
      · refine al0 (n := 24) dX0_isFree_23 rfl ?_
        refine gX0_23 (n := 27) dX0_isFree_24 rfl rfl (hS0 hB) (hP4 hB) ?_
        refine il2 (n := 28) dX0_isFree_27 rfl ?_
        refine j_aald (j := i) (n := 29) dX0_isFree_28 rfl (hS3 hB) hOC rfl (by omega) (by decide) (hP6 hB (by omega)) ?_
        refine gX0_90 (n := 32) dX0_isFree_29 rfl rfl (hS8 hB (by omega)) ?_
        refine k_top (BL.cr hb hic (j := 4) (by decide)) ?_
        refine il1 (n := 33) dX0_isFree_32 rfl ?_
        refine k_icmp_ne (t := 38) (n := 36) dX0_isFree_33 (by decide) rfl (fun h33 => ?_) (fun h33 => ?_)
        · refine ii2 (n := 41) dX0_isFree_38 rfl (ki1 _) trivial ?_
          rw [nI_1]
          refine k_goto (n := 2) dX0_isFree_41 (by decide) ?_
          refine ih (i + 1) (by omega) (fun k hk => ?_)
          rcases Nat.lt_or_ge k i with q | q
          · exact hfr k q
          · rw [show k = i by omega]
            first | exact fun x => h20 x.1 | exact fun x => h33 x.2
        · refine k_iconst (a := 0) (n := 37) dX0_isFree_36 rfl rfl ?_
          refine k_ireturn (ty := .boolean) dX0_isFree_37 rfl (by first | rfl | exact knb _) (Nat.le_refl _) (Nat.le_refl _) ?_
          exact kRf (fun q => q i hic ⟨h20, h33⟩)
set_option maxHeartbeats 2000000 in
set_option maxRecDepth 20000 in
theorem c_isFree (hB : BB B) (hb : BL B I r c t) (p : Int32) : Ct E d mX0_isFree 0 0 [.ref B, .int p] (kJ I) (kR (kb (frF r p (sMany r))) I) := by
  rw [hb.eM]
  refine Ct.of (L := [some (.ref B), some (.int p), none]) rfl rfl (Nat.le_of_ble_eq_true rfl) ?_
  refine k_iconst (a := 0) (n := 1) dX0_isFree_0 rfl rfl ?_
  refine is2 (n := 2) dX0_isFree_1 rfl trivial ?_
  exact c_isFree_l hB hb p c 0 (by omega) (fun i hi => absurd hi (by omega))
set_option maxHeartbeats 2000000 in
set_option maxRecDepth 20000 in
theorem c_wears (hB : BB B) (hb : BL B I r c t) (hR : RI r) (i : Nat) (hi : i < c) : Ct E d mX1_wearsByJump 0 0 [.ref (B + 8 + i)] (kJ I) (kR (wearF r i) I) := by
  have h8 := hb.c8
  obtain ⟨k, hk, h7⟩ := hR.kind (j := i) (by omega)
  refine Ct.of (L := [some (.ref (B + 8 + i))]) rfl rfl (Nat.le_of_ble_eq_true rfl) ?_
  refine al0 (n := 1) dX1_wearsByJump_0 rfl ?_
  refine gX1_9 (n := 4) dX1_wearsByJump_1 rfl rfl (hS8 hB (by omega)) ?_
  refine k_top (BL.cr0 hb hi) ?_
  rw [hk]
  rcases (show k = 0 ∨ k = 1 ∨ k = 2 ∨ k = 3 ∨ k = 4 ∨ k = 5 ∨ k = 6 by omega) with rfl | rfl | rfl | rfl | rfl | rfl | rfl
  · refine k_swOut (t := 63) dX1_wearsByJump_4 (Or.inl (by decide)) (by decide) ?_
    refine k_iconst (a := 1) (n := 64) dX1_wearsByJump_63 rfl rfl ?_
    refine k_ireturn (ty := .int) dX1_wearsByJump_64 rfl rfl (Nat.le_refl _) (Nat.le_refl _) ?_
    exact ⟨by simp only [wearF, hk]; rfl, rfl⟩
  · refine k_swIn (t := 44) (off := 40) dX1_wearsByJump_4 (by decide) (by decide) (by decide) (by decide) ?_
    refine k_iconst (a := 0) (n := 45) dX1_wearsByJump_44 rfl rfl ?_
    refine k_ireturn (ty := .int) dX1_wearsByJump_45 rfl rfl (Nat.le_refl _) (Nat.le_refl _) ?_
    exact ⟨by simp only [wearF, hk]; rfl, rfl⟩
  · refine k_swIn (t := 46) (off := 42) dX1_wearsByJump_4 (by decide) (by decide) (by decide) (by decide) ?_
    refine k_iconst (a := 1) (n := 47) dX1_wearsByJump_46 rfl rfl ?_
    refine al0 (n := 48) dX1_wearsByJump_47 rfl ?_
    refine gX1_21 (n := 51) dX1_wearsByJump_48 rfl rfl (hS8 hB (by omega)) ?_
    refine k_top (BL.cr hb hi (j := 3) (by decide)) ?_
    refine k_bipush (a := 10) (n := 53) dX1_wearsByJump_51 rfl rfl ?_
    refine k_idiv (n := 54) dX1_wearsByJump_53 rfl (by decide) ?_
    refine k_iadd (n := 55) dX1_wearsByJump_54 rfl ?_
    refine k_ireturn (ty := .int) dX1_wearsByJump_55 rfl rfl (Nat.le_refl _) (Nat.le_refl _) ?_
    exact ⟨by simp only [wearF, hk]; rfl, rfl⟩
  · refine k_swIn (t := 63) (off := 59) dX1_wearsByJump_4 (by decide) (by decide) (by decide) (by decide) ?_
    refine k_iconst (a := 1) (n := 64) dX1_wearsByJump_63 rfl rfl ?_
    refine k_ireturn (ty := .int) dX1_wearsByJump_64 rfl rfl (Nat.le_refl _) (Nat.le_refl _) ?_
    exact ⟨by simp only [wearF, hk]; rfl, rfl⟩
  · refine k_swIn (t := 56) (off := 52) dX1_wearsByJump_4 (by decide) (by decide) (by decide) (by decide) ?_
    refine al0 (n := 57) dX1_wearsByJump_56 rfl ?_
    refine gX1_15 (n := 60) dX1_wearsByJump_57 rfl rfl (hS8 hB (by omega)) ?_
    refine k_top (BL.cr hb hi (j := 1) (by decide)) ?_
    refine k_ireturn (ty := .int) dX1_wearsByJump_60 rfl rfl (Nat.le_refl _) (Nat.le_refl _) ?_
    exact ⟨by simp only [wearF, hk]; rfl, rfl⟩
  · refine k_swIn (t := 46) (off := 42) dX1_wearsByJump_4 (by decide) (by decide) (by decide) (by decide) ?_
    refine k_iconst (a := 1) (n := 47) dX1_wearsByJump_46 rfl rfl ?_
    refine al0 (n := 48) dX1_wearsByJump_47 rfl ?_
    refine gX1_21 (n := 51) dX1_wearsByJump_48 rfl rfl (hS8 hB (by omega)) ?_
    refine k_top (BL.cr hb hi (j := 3) (by decide)) ?_
    refine k_bipush (a := 10) (n := 53) dX1_wearsByJump_51 rfl rfl ?_
    refine k_idiv (n := 54) dX1_wearsByJump_53 rfl (by decide) ?_
    refine k_iadd (n := 55) dX1_wearsByJump_54 rfl ?_
    refine k_ireturn (ty := .int) dX1_wearsByJump_55 rfl rfl (Nat.le_refl _) (Nat.le_refl _) ?_
    exact ⟨by simp only [wearF, hk]; rfl, rfl⟩
  · refine k_swIn (t := 61) (off := 57) dX1_wearsByJump_4 (by decide) (by decide) (by decide) (by decide) ?_
    refine k_iconst (a := 2) (n := 62) dX1_wearsByJump_61 rfl rfl ?_
    refine k_ireturn (ty := .int) dX1_wearsByJump_62 rfl rfl (Nat.le_refl _) (Nat.le_refl _) ?_
    exact ⟨by simp only [wearF, hk]; rfl, rfl⟩
def needV (r : Nat → Int32) (j : Nat) (v : Int32) : Int32 :=
  let l := if v ≤ 1 then 1 else v - 1
  let c := v + (r (29 + 7 * j + 1) - r (29 + 7 * j + 1) / 3 * 3)
  if r (29 + 7 * j) = 1 then l else if r (29 + 7 * j) = 4 then l + 2 else if r (29 + 7 * j) = 2 then c else if r (29 + 7 * j) = 5 then 2 * c else if r (29 + 7 * j) = 3 then 1 else if r (29 + 7 * j) = 6 then 3 else v
theorem need_V (r : Nat → Int32) (j : Nat) : needF r j = needV r j (lawF r 0 (r (29 + 7 * j + 2)) (r (29 + 7 * j + 3)) (r 1)) := by
  unfold needF needV
  exact rfl
theorem max1 : ∀ v, v < 10 → 1 ≤ v → (if nI v - 1 < 1 then (1 : Int32) else nI v - 1) = if nI v ≤ 1 then 1 else nI v - 1 := by decide +kernel
set_option maxHeartbeats 2000000 in
set_option maxRecDepth 20000 in
theorem c_needsW (hB : BB B) (hb : BL B I r c t) (hR : RI r) (i : Nat) (hi : i < c) (v : Nat) (h1 : 1 ≤ v) (h9 : v ≤ 9) : Ct E d mX1_needsWith 0 0 [.ref (B + 8 + i), .int (nI v)] (kJ I) (kR (needV r i (nI v)) I) := by
  have h8 := hb.c8
  obtain ⟨k, hk, h7⟩ := hR.kind (j := i) (by omega)
  have em := max1 v (by omega) h1
  refine Ct.of (L := [some (.ref (B + 8 + i)), some (.int (nI v))]) rfl rfl (Nat.le_of_ble_eq_true rfl) ?_
  refine al0 (n := 1) dX1_needsWith_0 rfl ?_
  refine gX1_9 (n := 4) dX1_needsWith_1 rfl rfl (hS8 hB (by omega)) ?_
  refine k_top (BL.cr0 hb hi) ?_
  rw [hk]
  rcases (show k = 0 ∨ k = 1 ∨ k = 2 ∨ k = 3 ∨ k = 4 ∨ k = 5 ∨ k = 6 by omega) with rfl | rfl | rfl | rfl | rfl | rfl | rfl
  · refine k_swOut (t := 86) dX1_needsWith_4 (Or.inl (by decide)) (by decide) ?_
    refine il1 (n := 87) dX1_needsWith_86 rfl ?_
    refine k_ireturn (ty := .int) dX1_needsWith_87 rfl rfl (Nat.le_refl _) (Nat.le_refl _) ?_
    exact ⟨by simp only [needV, hk, kcl (show (0 : Nat) < 1000 by decide), if_neg (show ¬ nI 0 = 1 by decide), if_neg (show ¬ nI 0 = 2 by decide), if_neg (show ¬ nI 0 = 3 by decide), if_neg (show ¬ nI 0 = 4 by decide), if_neg (show ¬ nI 0 = 5 by decide), if_neg (show ¬ nI 0 = 6 by decide)], rfl⟩
  · refine k_swIn (t := 44) (off := 40) dX1_needsWith_4 (by decide) (by decide) (by decide) (by decide) ?_
    refine il1 (n := 45) dX1_needsWith_44 rfl ?_
    refine k_iconst (a := 1) (n := 46) dX1_needsWith_45 rfl rfl ?_
    refine k_isub (n := 47) dX1_needsWith_46 rfl ?_
    refine k_iconst (a := 1) (n := 48) dX1_needsWith_47 rfl rfl ?_
    refine qX1_37 (n := 51) dX1_needsWith_48 rfl rfl (Nat.le_of_ble_eq_true rfl) (Nat.le_refl _) (Nat.le_refl _) ?_
    rw [em]
    refine k_ireturn (ty := .int) dX1_needsWith_51 rfl rfl (Nat.le_refl _) (Nat.le_refl _) ?_
    exact ⟨by simp only [needV, hk, kcl (show (1 : Nat) < 1000 by decide), if_pos (show nI 1 = 1 from rfl), if_neg (show ¬ nI 1 = 2 by decide), if_neg (show ¬ nI 1 = 3 by decide), if_neg (show ¬ nI 1 = 4 by decide), if_neg (show ¬ nI 1 = 5 by decide), if_neg (show ¬ nI 1 = 6 by decide)], rfl⟩
  · refine k_swIn (t := 52) (off := 48) dX1_needsWith_4 (by decide) (by decide) (by decide) (by decide) ?_
    refine il1 (n := 53) dX1_needsWith_52 rfl ?_
    refine al0 (n := 54) dX1_needsWith_53 rfl ?_
    refine gX1_15 (n := 57) dX1_needsWith_54 rfl rfl (hS8 hB (by omega)) ?_
    refine k_top (BL.cr hb hi (j := 1) (by decide)) ?_
    refine k_iconst (a := 3) (n := 58) dX1_needsWith_57 rfl rfl ?_
    refine k_irem (n := 59) dX1_needsWith_58 rfl (by decide) ?_
    refine k_iadd (n := 60) dX1_needsWith_59 rfl ?_
    refine k_ireturn (ty := .int) dX1_needsWith_60 rfl rfl (Nat.le_refl _) (Nat.le_refl _) ?_
    exact ⟨by simp only [needV, hk, kcl (show (2 : Nat) < 1000 by decide), if_neg (show ¬ nI 2 = 1 by decide), if_pos (show nI 2 = 2 from rfl), if_neg (show ¬ nI 2 = 3 by decide), if_neg (show ¬ nI 2 = 4 by decide), if_neg (show ¬ nI 2 = 5 by decide), if_neg (show ¬ nI 2 = 6 by decide)], rfl⟩
  · refine k_swIn (t := 61) (off := 57) dX1_needsWith_4 (by decide) (by decide) (by decide) (by decide) ?_
    refine k_iconst (a := 1) (n := 62) dX1_needsWith_61 rfl rfl ?_
    refine k_ireturn (ty := .int) dX1_needsWith_62 rfl rfl (Nat.le_refl _) (Nat.le_refl _) ?_
    exact ⟨by simp only [needV, hk, kcl (show (3 : Nat) < 1000 by decide), if_neg (show ¬ nI 3 = 1 by decide), if_neg (show ¬ nI 3 = 2 by decide), if_pos (show nI 3 = 3 from rfl), if_neg (show ¬ nI 3 = 4 by decide), if_neg (show ¬ nI 3 = 5 by decide), if_neg (show ¬ nI 3 = 6 by decide)], rfl⟩
  · refine k_swIn (t := 63) (off := 59) dX1_needsWith_4 (by decide) (by decide) (by decide) (by decide) ?_
    refine il1 (n := 64) dX1_needsWith_63 rfl ?_
    refine k_iconst (a := 1) (n := 65) dX1_needsWith_64 rfl rfl ?_
    refine k_isub (n := 66) dX1_needsWith_65 rfl ?_
    refine k_iconst (a := 1) (n := 67) dX1_needsWith_66 rfl rfl ?_
    refine qX1_37 (n := 70) dX1_needsWith_67 rfl rfl (Nat.le_of_ble_eq_true rfl) (Nat.le_refl _) (Nat.le_refl _) ?_
    rw [em]
    refine k_iconst (a := 2) (n := 71) dX1_needsWith_70 rfl rfl ?_
    refine k_iadd (n := 72) dX1_needsWith_71 rfl ?_
    refine k_ireturn (ty := .int) dX1_needsWith_72 rfl rfl (Nat.le_refl _) (Nat.le_refl _) ?_
    exact ⟨by simp only [needV, hk, kcl (show (4 : Nat) < 1000 by decide), if_neg (show ¬ nI 4 = 1 by decide), if_neg (show ¬ nI 4 = 2 by decide), if_neg (show ¬ nI 4 = 3 by decide), if_pos (show nI 4 = 4 from rfl), if_neg (show ¬ nI 4 = 5 by decide), if_neg (show ¬ nI 4 = 6 by decide)], rfl⟩
  · refine k_swIn (t := 73) (off := 69) dX1_needsWith_4 (by decide) (by decide) (by decide) (by decide) ?_
    refine k_iconst (a := 2) (n := 74) dX1_needsWith_73 rfl rfl ?_
    refine il1 (n := 75) dX1_needsWith_74 rfl ?_
    refine al0 (n := 76) dX1_needsWith_75 rfl ?_
    refine gX1_15 (n := 79) dX1_needsWith_76 rfl rfl (hS8 hB (by omega)) ?_
    refine k_top (BL.cr hb hi (j := 1) (by decide)) ?_
    refine k_iconst (a := 3) (n := 80) dX1_needsWith_79 rfl rfl ?_
    refine k_irem (n := 81) dX1_needsWith_80 rfl (by decide) ?_
    refine k_iadd (n := 82) dX1_needsWith_81 rfl ?_
    refine k_imul (n := 83) dX1_needsWith_82 rfl ?_
    refine k_ireturn (ty := .int) dX1_needsWith_83 rfl rfl (Nat.le_refl _) (Nat.le_refl _) ?_
    exact ⟨by simp only [needV, hk, kcl (show (5 : Nat) < 1000 by decide), if_neg (show ¬ nI 5 = 1 by decide), if_neg (show ¬ nI 5 = 2 by decide), if_neg (show ¬ nI 5 = 3 by decide), if_neg (show ¬ nI 5 = 4 by decide), if_pos (show nI 5 = 5 from rfl), if_neg (show ¬ nI 5 = 6 by decide)], rfl⟩
  · refine k_swIn (t := 84) (off := 80) dX1_needsWith_4 (by decide) (by decide) (by decide) (by decide) ?_
    refine k_iconst (a := 3) (n := 85) dX1_needsWith_84 rfl rfl ?_
    refine k_ireturn (ty := .int) dX1_needsWith_85 rfl rfl (Nat.le_refl _) (Nat.le_refl _) ?_
    exact ⟨by simp only [needV, hk, kcl (show (6 : Nat) < 1000 by decide), if_neg (show ¬ nI 6 = 1 by decide), if_neg (show ¬ nI 6 = 2 by decide), if_neg (show ¬ nI 6 = 3 by decide), if_neg (show ¬ nI 6 = 4 by decide), if_neg (show ¬ nI 6 = 5 by decide), if_pos (show nI 6 = 6 from rfl)], rfl⟩
set_option maxHeartbeats 2000000 in
set_option maxRecDepth 20000 in
theorem c_needsOf (hd : 2 ≤ d) (hB : BB B) (hb : BL B I r c t) (hR : RI r) (i : Nat) (hi : i < c) : Ct E d mX0_needsOf 0 0 [.ref B, .ref (B + 8 + i)] (kJ I) (kBi (needF r i) B I r c t) := by
  have h8 := hb.c8
  obtain ⟨v, hv, h1, h9⟩ := lawF_n r (r (29 + 7 * i + 2)) (r (29 + 7 * i + 3)) (r 1)
  refine Ct.of (L := [some (.ref B), some (.ref (B + 8 + i))]) rfl rfl (Nat.le_of_ble_eq_true rfl) ?_
  refine al1 (n := 1) dX0_needsOf_0 rfl ?_
  refine al0 (n := 2) dX0_needsOf_1 rfl ?_
  refine gX0_37 (n := 5) dX0_needsOf_2 rfl rfl (hS0 hB) (hP0 hB) ?_
  refine al1 (n := 6) dX0_needsOf_5 rfl ?_
  refine gX0_84 (n := 9) dX0_needsOf_6 rfl rfl (hS8 hB (by omega)) ?_
  refine k_top (BL.cr hb hi (j := 2) (by decide)) ?_
  refine al1 (n := 10) dX0_needsOf_9 rfl ?_
  refine gX0_87 (n := 13) dX0_needsOf_10 rfl rfl (hS8 hB (by omega)) ?_
  refine k_top (BL.cr hb hi (j := 3) (by decide)) ?_
  refine al0 (n := 14) dX0_needsOf_13 rfl ?_
  refine gX0_31 (n := 17) dX0_needsOf_14 rfl rfl (hS0 hB) ?_
  refine k_top (BL.f6 hb) ?_
  refine qX0_103 (n := 20) dX0_needsOf_17 rfl rfl (Nat.le_of_ble_eq_true rfl) (by omega) (Nat.le_refl _) (Nat.le_refl _) rfl (c_gives0 (by omega) hB hb _ _ _) ?_
  rintro _ _ ⟨I1, rfl, rfl, hb1, hg1⟩
  dsimp only [Option.toList, List.cons_append, List.nil_append, Nat.add_zero]
  have hf1 := hg1
  rw [hv]
  refine qiX0_109 (n := 23) dX0_needsOf_20 rfl rfl (Nat.le_of_ble_eq_true rfl) (by omega) (hS8 hB (by omega)) (c_needsW hB hb1 hR i hi v h1 h9) (Nat.le_refl _) (Nat.le_refl _) ?_
  refine k_ireturn (ty := .int) dX0_needsOf_23 rfl rfl (Nat.le_refl _) (Nat.le_refl _) ?_
  exact ⟨I1, by rw [need_V, hv], rfl, hb1, hf1⟩
end C3

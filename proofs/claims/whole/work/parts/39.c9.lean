section C9
variable {E : kE} {d c t : Nat} {I J : Nat → Nat → Int32} {r : Nat → Int32}
theorem BL.addT (h : BL 8 I r c t) (hT : TX r) (ht : t < 4) {v : Int32} {I1 I2 I3 : Nat → Nat → Int32} (e1 : kset I (8 + 4 + t) (upd (I (8 + 4 + t)) 0 v) = I1) (e2 : kset I1 (8 + 4 + t) (upd (I1 (8 + 4 + t)) 1 0) = I2) (e3 : kset I2 8 (upd (I2 8) 9 (nI t + 1)) = I3) : BL 8 I3 (upd (upd (upd r (21 + 2 * t) v) (21 + 2 * t + 1) 0) 8 (nI t + 1)) c (t + 1) ∧ FB 8 I I3 := by
  have hf : FB 8 I I3 := ((FB.t (by omega) e1).tr (FB.t (by omega) e2)).tr (FB.b e3)
  have h8 := h.c8
  have a8 : I3 8 = upd (I 8) 9 (nI t + 1) := by rw [← e3, kset_same, ← e2, kset_ne _ _ (by omega), ← e1, kset_ne _ _ (by omega)]
  have at_ : I3 (8 + 4 + t) = upd (upd (I (8 + 4 + t)) 0 v) 1 0 := by rw [← e3, kset_ne _ _ (by omega), ← e2, kset_same, ← e1, kset_same]
  have ao : ∀ k, k ≠ 8 → k ≠ 8 + 4 + t → I3 k = I k := fun k h1 h2 => by rw [← e3, kset_ne _ _ h1, ← e2, kset_ne _ _ h2, ← e1, kset_ne _ _ h2]
  refine ⟨⟨⟨⟨?_, h8, ?_, by omega⟩, ?_, fun p hp => ?_, fun k hk => ?_, fun k hk l hl => ?_⟩, h.lk (Or.inl rfl) hT hf (fun k hk => ?_)⟩, hf⟩
  · rw [pk_un (by omega), pk_un (by omega), pk_un (by omega)]; exact h.c9
  · rw [pk_us, nI_1]
  · rw [a8, pk_us, pk_us]
    refine ⟨?_, ?_, ?_, ?_, rfl, ?_, ?_, ?_⟩
    all_goals rw [pk_un (by omega), pk_un (by omega), pk_un (by omega), pk_un (by omega)]
    · exact h.f5
    · exact h.f6
    · exact h.f7
    · exact h.f8
    · exact h.f10
    · exact h.f11
    · exact h.f12
  · rw [ao _ (by omega) (by omega), pk_un (by omega), pk_un (by omega), pk_un (by omega)]; exact h.we hp
  · by_cases q : k = t
    · subst q
      rw [at_, pk_un (by omega), pk_us, pk_un (by omega), pk_un (by omega), pk_us, pk_us, pk_un (by omega), pk_us]; exact ⟨rfl, rfl⟩
    · rw [ao _ (by omega) (by omega), pk_un (by omega), pk_un (by omega), pk_un (by omega), pk_un (by omega), pk_un (by omega), pk_un (by omega)]; exact h.1.2.2.2.1 k (by omega)
  · rw [ao _ (by omega) (by omega), pk_un (by omega), pk_un (by omega), pk_un (by omega)]; exact h.cr hk hl
  · rw [pk_un (by omega), pk_un (by omega), pk_un (by omega)]
theorem newC_o {km sk pl : Int32} {k : Nat} (h : ¬ (29 + 7 * c ≤ k ∧ k < 36 + 7 * c)) (h9 : k ≠ 9) : newC r c km sk pl k = r k := by
  unfold newC
  rw [pk_un h9, pk_un (by omega), pk_un (by omega), pk_un (by omega), pk_un (by omega), pk_un (by omega), pk_un (by omega), pk_un (by omega)]
theorem newC_c {km sk pl : Int32} {f : Nat → Int32} {j : Nat} (hj : j < 7) : upd (upd (upd (upd (upd (upd (upd f 0 (km / 10)) 1 (km - km / 10 * 10)) 2 sk) 3 0) 4 pl) 5 0) 6 0 j = newC r c km sk pl (29 + 7 * c + j) := by
  unfold newC
  rw [pk_un (show 29 + 7 * c + j ≠ 9 by omega)]
  rcases (show j = 0 ∨ j = 1 ∨ j = 2 ∨ j = 3 ∨ j = 4 ∨ j = 5 ∨ j = 6 by omega) with rfl | rfl | rfl | rfl | rfl | rfl | rfl
  all_goals simp [upd]
theorem BL.addC (h : BL 8 I r c t) (hT : TX r) (hc : c < 8) {km sk pl : Int32} {I0 I1 I2 I3 I4 I5 I6 : Nat → Nat → Int32} (e0 : kset I (8 + 8 + c) (upd (upd (I (8 + 8 + c)) 0 (km / 10)) 1 (km - km / 10 * 10)) = I0) (e1 : kset I0 (8 + 8 + c) (upd (I0 (8 + 8 + c)) 2 sk) = I1) (e2 : kset I1 (8 + 8 + c) (upd (I1 (8 + 8 + c)) 3 0) = I2) (e3 : kset I2 (8 + 8 + c) (upd (I2 (8 + 8 + c)) 4 pl) = I3) (e4 : kset I3 (8 + 8 + c) (upd (I3 (8 + 8 + c)) 5 0) = I4) (e5 : kset I4 (8 + 8 + c) (upd (I4 (8 + 8 + c)) 6 0) = I5) (e6 : kset I5 8 (upd (I5 8) 11 (nI c + 1)) = I6) : BL 8 I6 (newC r c km sk pl) (c + 1) t ∧ FB 8 I I6 := by
  have hf : FB 8 I I6 := ((((((FB.c (by omega) e0).tr (FB.c (by omega) e1)).tr (FB.c (by omega) e2)).tr (FB.c (by omega) e3)).tr (FB.c (by omega) e4)).tr (FB.c (by omega) e5)).tr (FB.b e6)
  have h4 := h.t4
  have x : 8 ≠ 8 + 8 + c := by omega
  have a8 : I6 8 = upd (I 8) 11 (nI c + 1) := by rw [← e6, kset_same, ← e5, kset_ne _ _ x, ← e4, kset_ne _ _ x, ← e3, kset_ne _ _ x, ← e2, kset_ne _ _ x, ← e1, kset_ne _ _ x, ← e0, kset_ne _ _ x]
  have ac : I6 (8 + 8 + c) = upd (upd (upd (upd (upd (upd (upd (I (8 + 8 + c)) 0 (km / 10)) 1 (km - km / 10 * 10)) 2 sk) 3 0) 4 pl) 5 0) 6 0 := by rw [← e6, kset_ne _ _ (Ne.symm x), ← e5, kset_same, ← e4, kset_same, ← e3, kset_same, ← e2, kset_same, ← e1, kset_same, ← e0, kset_same]
  have ao : ∀ k, k ≠ 8 → k ≠ 8 + 8 + c → I6 k = I k := fun k h1 h2 => by rw [← e6, kset_ne _ _ h1, ← e5, kset_ne _ _ h2, ← e4, kset_ne _ _ h2, ← e3, kset_ne _ _ h2, ← e2, kset_ne _ _ h2, ← e1, kset_ne _ _ h2, ← e0, kset_ne _ _ h2]
  have n9 : newC r c km sk pl 9 = nI c + 1 := by unfold newC; rw [pk_us, h.c9]
  refine ⟨⟨⟨⟨?_, by omega, ?_, h4⟩, ?_, fun p hp => ?_, fun k hk => ?_, fun k hk l hl => ?_⟩, h.lk (Or.inl rfl) hT hf (fun k hk => newC_o (by omega) (by omega))⟩, hf⟩
  · rw [n9, nI_1]
  · rw [newC_o (by omega) (by omega)]; exact h.t8
  · rw [a8, n9, pk_us]
    refine ⟨?_, ?_, ?_, ?_, ?_, ?_, rfl, ?_⟩
    all_goals rw [pk_un (by omega), newC_o (by omega) (by omega)]
    · exact h.f5
    · exact h.f6
    · exact h.f7
    · exact h.f8
    · exact h.f9
    · exact h.f10
    · exact h.f12
  · rw [ao _ (by omega) (by omega), newC_o (by omega) (by omega)]; exact h.we hp
  · rw [ao _ (by omega) (by omega), newC_o (by omega) (by omega), newC_o (by omega) (by omega)]; exact h.1.2.2.2.1 k hk
  · by_cases q : k = c
    · subst q
      rw [ac]; exact newC_c hl
    · rw [ao _ (by omega) (by omega), newC_o (by omega) (by omega)]; exact h.cr (by omega) hl
set_option maxHeartbeats 2000000 in
set_option maxRecDepth 20000 in
theorem c_addT (hb : BL 8 I r c t) (hT : TX r) (ht : t < 4) (v : Int32) : Ct E d mX0_addTurner 0 0 [.ref 8, .int v] (kJ I) (kBi (nI t) 8 I (upd (upd (upd r (21 + 2 * t) v) (21 + 2 * t + 1) 0) 8 (nI t + 1)) c (t + 1)) := by
  refine Ct.of (L := [some (.ref 8), some (.int v), none]) rfl rfl (Nat.le_of_ble_eq_true rfl) ?_
  refine al0 (n := 1) dX0_addTurner_0 rfl ?_
  refine gX0_52 (n := 4) dX0_addTurner_1 rfl rfl (hS0 (Or.inl rfl)) ?_
  refine k_top (hb.f9.trans hb.t8) ?_
  refine is2 (n := 5) dX0_addTurner_4 rfl trivial ?_
  refine al0 (n := 6) dX0_addTurner_5 rfl ?_
  refine gX0_17 (n := 9) dX0_addTurner_6 rfl rfl (hS0 (Or.inl rfl)) (hP3 (Or.inl rfl)) ?_
  refine il2 (n := 10) dX0_addTurner_9 rfl ?_
  refine j_aald (j := t) (n := 11) dX0_addTurner_10 rfl (hS2 (Or.inl rfl)) hOT rfl (by omega) (by decide) (hP5 (Or.inl rfl) (by omega)) ?_
  refine il1 (n := 12) dX0_addTurner_11 rfl ?_
  refine pX0_74 (n := 15) dX0_addTurner_12 rfl rfl (hS4 (Or.inl rfl) (by omega)) ?_
  refine k_gen (fun I1 e1 => ?_)
  refine al0 (n := 16) dX0_addTurner_15 rfl ?_
  refine gX0_17 (n := 19) dX0_addTurner_16 rfl rfl (hS0 (Or.inl rfl)) (hP3 (Or.inl rfl)) ?_
  refine il2 (n := 20) dX0_addTurner_19 rfl ?_
  refine j_aald (j := t) (n := 21) dX0_addTurner_20 rfl (hS2 (Or.inl rfl)) hOT rfl (by omega) (by decide) (hP5 (Or.inl rfl) (by omega)) ?_
  refine k_iconst (a := 0) (n := 22) dX0_addTurner_21 rfl rfl ?_
  refine pX0_77 (n := 25) dX0_addTurner_22 rfl rfl (hS4 (Or.inl rfl) (by omega)) ?_
  refine k_gen (fun I2 e2 => ?_)
  refine al0 (n := 26) dX0_addTurner_25 rfl ?_
  refine k_dup (n := 27) dX0_addTurner_26 rfl rfl ?_
  refine gX0_52 (n := 30) dX0_addTurner_27 rfl rfl (hS0 (Or.inl rfl)) ?_
  refine k_top (show I2 8 9 = nI t by rw [← e2, kset_ne _ _ (by omega), ← e1, kset_ne _ _ (by omega)]; exact hb.f9.trans hb.t8) ?_
  refine k_iconst (a := 1) (n := 31) dX0_addTurner_30 rfl rfl ?_
  refine k_iadd (n := 32) dX0_addTurner_31 rfl ?_
  refine pX0_52 (n := 35) dX0_addTurner_32 rfl rfl (hS0 (Or.inl rfl)) ?_
  refine k_gen (fun I3 e3 => ?_)
  refine il2 (n := 36) dX0_addTurner_35 rfl ?_
  refine k_ireturn (ty := .int) dX0_addTurner_36 rfl rfl (Nat.le_refl _) (Nat.le_refl _) ?_
  exact ⟨I3, rfl, rfl, hb.addT hT ht e1 e2 e3⟩
set_option maxHeartbeats 2000000 in
set_option maxRecDepth 20000 in
theorem c_tk {a : Nat} (ha : SS[a]? = some (1, 7)) (x : Int32) : Ct E d mX1_takeKind 0 0 [.ref a, .int x] (kJ I) (kRv (kset I a (upd (upd (I a) 0 (x / 10)) 1 (x - x / 10 * 10)))) := by
  refine Ct.of (L := [some (.ref a), some (.int x)]) rfl rfl (Nat.le_of_ble_eq_true rfl) ?_
  refine al0 (n := 1) dX1_takeKind_0 rfl ?_
  refine il1 (n := 2) dX1_takeKind_1 rfl ?_
  refine k_bipush (a := 10) (n := 4) dX1_takeKind_2 rfl rfl ?_
  refine k_idiv (n := 5) dX1_takeKind_4 rfl (by decide) ?_
  refine pX1_9 (n := 8) dX1_takeKind_5 rfl rfl ha ?_
  refine k_gen (fun I1 e1 => ?_)
  refine al0 (n := 9) dX1_takeKind_8 rfl ?_
  refine il1 (n := 10) dX1_takeKind_9 rfl ?_
  refine k_bipush (a := 10) (n := 12) dX1_takeKind_10 rfl rfl ?_
  refine k_irem (n := 13) dX1_takeKind_12 rfl (by decide) ?_
  refine pX1_15 (n := 16) dX1_takeKind_13 rfl rfl ha ?_
  refine k_gen (fun I2 e2 => ?_)
  refine k_return dX1_takeKind_16 rfl (Nat.le_refl _) (Nat.le_refl _) ?_
  subst e1 e2
  exact ⟨rfl, by rw [kset_same, kset_kset]⟩
set_option maxHeartbeats 2000000 in
set_option maxRecDepth 20000 in
theorem c_tkB (hb : BL 8 I r c t) (hT : TX r) {i : Nat} (hi : i < c) (x : Int32) : Ct E d mX1_takeKind 0 0 [.ref (8 + 8 + i), .int x] (kJ I) (kBv 8 I (upd (upd r (29 + 7 * i + 0) (x / 10)) (29 + 7 * i + 1) (x - x / 10 * 10)) c t) := by
  have h8 := hb.c8
  refine Ct.of (L := [some (.ref (8 + 8 + i)), some (.int x)]) rfl rfl (Nat.le_of_ble_eq_true rfl) ?_
  refine al0 (n := 1) dX1_takeKind_0 rfl ?_
  refine il1 (n := 2) dX1_takeKind_1 rfl ?_
  refine k_bipush (a := 10) (n := 4) dX1_takeKind_2 rfl rfl ?_
  refine k_idiv (n := 5) dX1_takeKind_4 rfl (by decide) ?_
  refine pX1_9 (n := 8) dX1_takeKind_5 rfl rfl (hS8 (Or.inl rfl) (by omega)) ?_
  refine k_gen (fun I1 e1 => ?_)
  have hb1 := BL.sc hb (Or.inl rfl) hT hi (by decide) e1
  have hT1 := TX.ob hb1 hT (by omega)
  have hf1 := (FB.c (by omega) e1)
  refine al0 (n := 9) dX1_takeKind_8 rfl ?_
  refine il1 (n := 10) dX1_takeKind_9 rfl ?_
  refine k_bipush (a := 10) (n := 12) dX1_takeKind_10 rfl rfl ?_
  refine k_irem (n := 13) dX1_takeKind_12 rfl (by decide) ?_
  refine pX1_15 (n := 16) dX1_takeKind_13 rfl rfl (hS8 (Or.inl rfl) (by omega)) ?_
  refine k_gen (fun I2 e2 => ?_)
  have hb2 := BL.sc hb1 (Or.inl rfl) hT1 hi (by decide) e2
  have hT2 := TX.ob hb2 hT1 (by omega)
  have hf2 := hf1.tr (FB.c (by omega) e2)
  refine k_return dX1_takeKind_16 rfl (Nat.le_refl _) (Nat.le_refl _) ?_
  exact ⟨I2, rfl, rfl, hb2, hf2⟩
set_option maxHeartbeats 2000000 in
set_option maxRecDepth 20000 in
theorem c_addC (hd : 1 ≤ d) (hb : BL 8 I r c t) (hT : TX r) (hc : c < 8) (km sk pl : Int32) : Ct E d mX0_addCrosser 0 0 [.ref 8, .int km, .int sk, .int pl] (kJ I) (kBi (nI c) 8 I (newC r c km sk pl) (c + 1) t) := by
  have x : 8 ≠ 8 + 8 + c := by omega
  refine Ct.of (L := [some (.ref 8), some (.int km), some (.int sk), some (.int pl), none, none]) rfl rfl (Nat.le_of_ble_eq_true rfl) ?_
  refine al0 (n := 1) dX0_addCrosser_0 rfl ?_
  refine gX0_59 (n := 4) dX0_addCrosser_1 rfl rfl (hS0 (Or.inl rfl)) ?_
  refine k_top (hb.f11.trans hb.c9) ?_
  refine is4 (n := 6) dX0_addCrosser_4 rfl trivial ?_
  refine al0 (n := 7) dX0_addCrosser_6 rfl ?_
  refine gX0_23 (n := 10) dX0_addCrosser_7 rfl rfl (hS0 (Or.inl rfl)) (hP4 (Or.inl rfl)) ?_
  refine il4 (n := 12) dX0_addCrosser_10 rfl ?_
  refine j_aald (j := c) (n := 13) dX0_addCrosser_12 rfl (hS3 (Or.inl rfl)) hOC rfl (by omega) (by decide) (hP6 (Or.inl rfl) (by omega)) ?_
  refine as5 (n := 15) dX0_addCrosser_13 rfl trivial ?_
  refine al5 (n := 17) dX0_addCrosser_15 rfl ?_
  refine il1 (n := 18) dX0_addCrosser_17 rfl ?_
  refine qiX0_80 (n := 21) dX0_addCrosser_18 rfl rfl (Nat.le_of_ble_eq_true rfl) (by omega) (hS8 (Or.inl rfl) (by omega)) (c_tk (hS8 (Or.inl rfl) (by omega)) km) (Nat.le_refl _) (Nat.le_refl _) ?_
  refine k_gen (fun I0 e0 => ?_)
  refine al5 (n := 23) dX0_addCrosser_21 rfl ?_
  refine il2 (n := 24) dX0_addCrosser_23 rfl ?_
  refine pX0_84 (n := 27) dX0_addCrosser_24 rfl rfl (hS8 (Or.inl rfl) (by omega)) ?_
  refine k_gen (fun I1 e1 => ?_)
  refine al5 (n := 29) dX0_addCrosser_27 rfl ?_
  refine k_iconst (a := 0) (n := 30) dX0_addCrosser_29 rfl rfl ?_
  refine pX0_87 (n := 33) dX0_addCrosser_30 rfl rfl (hS8 (Or.inl rfl) (by omega)) ?_
  refine k_gen (fun I2 e2 => ?_)
  refine al5 (n := 35) dX0_addCrosser_33 rfl ?_
  refine il3 (n := 36) dX0_addCrosser_35 rfl ?_
  refine pX0_90 (n := 39) dX0_addCrosser_36 rfl rfl (hS8 (Or.inl rfl) (by omega)) ?_
  refine k_gen (fun I3 e3 => ?_)
  refine al5 (n := 41) dX0_addCrosser_39 rfl ?_
  refine k_iconst (a := 0) (n := 42) dX0_addCrosser_41 rfl rfl ?_
  refine pX0_93 (n := 45) dX0_addCrosser_42 rfl rfl (hS8 (Or.inl rfl) (by omega)) ?_
  refine k_gen (fun I4 e4 => ?_)
  refine al5 (n := 47) dX0_addCrosser_45 rfl ?_
  refine k_iconst (a := 0) (n := 48) dX0_addCrosser_47 rfl rfl ?_
  refine pX0_96 (n := 51) dX0_addCrosser_48 rfl rfl (hS8 (Or.inl rfl) (by omega)) ?_
  refine k_gen (fun I5 e5 => ?_)
  refine al0 (n := 52) dX0_addCrosser_51 rfl ?_
  refine k_dup (n := 53) dX0_addCrosser_52 rfl rfl ?_
  refine gX0_59 (n := 56) dX0_addCrosser_53 rfl rfl (hS0 (Or.inl rfl)) ?_
  refine k_top (show I5 8 11 = nI c by rw [← e5, kset_ne _ _ x, ← e4, kset_ne _ _ x, ← e3, kset_ne _ _ x, ← e2, kset_ne _ _ x, ← e1, kset_ne _ _ x, ← e0, kset_ne _ _ x]; exact hb.f11.trans hb.c9) ?_
  refine k_iconst (a := 1) (n := 57) dX0_addCrosser_56 rfl rfl ?_
  refine k_iadd (n := 58) dX0_addCrosser_57 rfl ?_
  refine pX0_59 (n := 61) dX0_addCrosser_58 rfl rfl (hS0 (Or.inl rfl)) ?_
  refine k_gen (fun I6 e6 => ?_)
  refine il4 (n := 63) dX0_addCrosser_61 rfl ?_
  refine k_ireturn (ty := .int) dX0_addCrosser_63 rfl rfl (Nat.le_refl _) (Nat.le_refl _) ?_
  exact ⟨I6, rfl, rfl, hb.addC hT hc e0 e1 e2 e3 e4 e5 e6⟩
set_option maxHeartbeats 2000000 in
set_option maxRecDepth 20000 in
theorem c_turner (hd : 2 ≤ d) (hC : CR I r c t) (hR : RI r) (hX : RX r) (v : Int32) : Ct E d mX8_turner 0 0 [.ref 0, .int v] (kJ I) (kZ I (s_turner r v)) := by
  have hb := hC.bl
  have hT := hR.TX
  have h8 := hb.c8
  have h4 := hb.t4
  have et : (r 8).toNatClampNeg = t := by rw [hb.t8]; exact kcl (by omega)
  refine Ct.of (L := [some (.ref 0), some (.int v)]) rfl rfl (Nat.le_of_ble_eq_true rfl) ?_
  refine il1 (n := 1) dX8_turner_0 rfl ?_
  refine k_iconst (a := 1) (n := 2) dX8_turner_1 rfl rfl ?_
  refine k_bipush (a := 99) (n := 4) dX8_turner_2 rfl rfl ?_
  refine qiX8_65 (n := 7) dX8_turner_4 rfl rfl (Nat.le_of_ble_eq_true rfl) (by omega) (c_within _ _ _) (Nat.le_refl _) (Nat.le_refl _) ?_
  refine k_ifb_ne (t := 16) (n := 10) dX8_turner_7 (by decide) rfl (fun h7 => ?_) (fun h7 => ?_)
  · refine al0 (n := 17) dX8_turner_16 rfl ?_
    refine gX8_10 (n := 20) dX8_turner_17 rfl rfl rfl rfl ?_
    refine gX8_73 (n := 23) dX8_turner_20 rfl rfl rfl rfl ?_
    refine gX8_97 (n := 26) dX8_turner_23 rfl rfl (hS0 (Or.inl rfl)) ?_
    refine k_top ((BL.f9 hb).trans hb.t8) ?_
    refine k_iconst (a := 4) (n := 27) dX8_turner_26 rfl rfl ?_
    refine k_icmp_lt (t := 36) (n := 30) dX8_turner_27 (by decide) rfl (fun h27 => ?_) (fun h27 => ?_)
    · have ht : t < 4 := Nat.lt_of_not_le fun q => absurd h27 (nI_nlt (a := t) (b := 4) q (by omega))
      have hne : ¬ r 8 = 4 := by rw [hb.t8]; exact fun q => absurd (q ▸ h27 : (4 : Int32) < 4) (by decide)
      refine al0 (n := 37) dX8_turner_36 rfl ?_
      refine gX8_10 (n := 40) dX8_turner_37 rfl rfl rfl rfl ?_
      refine gX8_73 (n := 43) dX8_turner_40 rfl rfl rfl rfl ?_
      refine il1 (n := 44) dX8_turner_43 rfl ?_
      refine qX8_100 (n := 47) dX8_turner_44 rfl rfl (Nat.le_of_ble_eq_true rfl) (by omega) (Nat.le_refl _) (Nat.le_refl _) (hS0 (Or.inl rfl)) (c_addT hb hT ht v) ?_
      rintro _ _ ⟨I1, rfl, rfl, hb1, hg1⟩
      dsimp only [Option.toList, List.cons_append, List.nil_append, Nat.add_zero]
      have hf1 := hg1
      refine k_ireturn (ty := .int) dX8_turner_47 rfl rfl (Nat.le_refl _) (Nat.le_refl _) ?_
      exact kZ.to (by simp only [s_turner, et, if_pos h7, if_neg hne]; rw [hb.t8]) (kZ_x (hC.bd hb1 hf1 (by repeat' first | exact RO.rf _ | refine RO.u ?_ (by omega))) (FX.bd hf1))
    · have hne : r 8 = 4 := by rw [hb.t8, show t = 4 from Nat.le_antisymm h4 (Nat.le_of_not_lt fun q => h27 (nI_lt q (by decide)))]; rfl
      refine al0 (n := 31) dX8_turner_30 rfl ?_
      refine k_iconst (a := 4) (n := 32) dX8_turner_31 rfl rfl ?_
      refine qiX8_69 (n := 35) dX8_turner_32 rfl rfl (Nat.le_of_ble_eq_true rfl) (by omega) rfl (c_refuse4 (by omega)) (Nat.le_refl _) (Nat.le_refl _) ?_
      refine k_ireturn (ty := .int) dX8_turner_35 rfl rfl (Nat.le_refl _) (Nat.le_refl _) ?_
      exact kZ.to (by simp only [s_turner, if_pos h7, if_pos hne]) (kZ_e4 hC (FX.rf _))
  · refine al0 (n := 11) dX8_turner_10 rfl ?_
    refine k_iconst (a := 1) (n := 12) dX8_turner_11 rfl rfl ?_
    refine qiX8_69 (n := 15) dX8_turner_12 rfl rfl (Nat.le_of_ble_eq_true rfl) (by omega) rfl (c_refuse1 (by omega)) (Nat.le_refl _) (Nat.le_refl _) ?_
    refine k_ireturn (ty := .int) dX8_turner_15 rfl rfl (Nat.le_refl _) (Nat.le_refl _) ?_
    exact kZ.to (by simp only [s_turner, if_neg h7]) (kZ_e1 hC (FX.rf _))
theorem RO.newC {km sk pl : Int32} (h8 : c < 8) : RO (newC r c km sk pl) r := fun k hk => newC_o (by omega) (by omega)
set_option maxHeartbeats 2000000 in
set_option maxRecDepth 20000 in
theorem c_crosser (hd : 3 ≤ d) (hC : CR I r c t) (hR : RI r) (hX : RX r) (km sk pl : Int32) : Ct E d mX8_crosser 0 0 [.ref 0, .int km, .int sk, .int pl] (kJ I) (kZ I (s_crosser r km sk pl)) := by
  have hb := hC.bl
  have hT := hR.TX
  have h8 := hb.c8
  have h4 := hb.t4
  have ec : (r 9).toNatClampNeg = c := by rw [hb.c9]; exact kcl (by omega)
  refine Ct.of (L := [some (.ref 0), some (.int km), some (.int sk), some (.int pl)]) rfl rfl (Nat.le_of_ble_eq_true rfl) ?_
  refine il1 (n := 1) dX8_crosser_0 rfl ?_
  refine qiX8_126 (n := 4) dX8_crosser_1 rfl rfl (Nat.le_of_ble_eq_true rfl) (by omega) (c_isKind (by omega) _) (Nat.le_refl _) (Nat.le_refl _) ?_
  refine k_ifb_eq (t := 25) (n := 7) dX8_crosser_4 (by decide) rfl (fun h4_ => ?_) (fun h4_ => ?_)
  · refine al0 (n := 26) dX8_crosser_25 rfl ?_
    refine k_iconst (a := 1) (n := 27) dX8_crosser_26 rfl rfl ?_
    refine qiX8_69 (n := 30) dX8_crosser_27 rfl rfl (Nat.le_of_ble_eq_true rfl) (by omega) rfl (c_refuse1 (by omega)) (Nat.le_refl _) (Nat.le_refl _) ?_
    refine k_ireturn (ty := .int) dX8_crosser_30 rfl rfl (Nat.le_refl _) (Nat.le_refl _) ?_
    exact kZ.to (by simp only [s_crosser, if_neg h4_]) (kZ_e1 hC (FX.rf _))
  · refine il2 (n := 8) dX8_crosser_7 rfl ?_
    refine k_iconst (a := 0) (n := 9) dX8_crosser_8 rfl rfl ?_
    refine k_bipush (a := 9) (n := 11) dX8_crosser_9 rfl rfl ?_
    refine qiX8_65 (n := 14) dX8_crosser_11 rfl rfl (Nat.le_of_ble_eq_true rfl) (by omega) (c_within _ _ _) (Nat.le_refl _) (Nat.le_refl _) ?_
    refine k_ifb_eq (t := 25) (n := 17) dX8_crosser_14 (by decide) rfl (fun h14 => ?_) (fun h14 => ?_)
    · refine al0 (n := 26) dX8_crosser_25 rfl ?_
      refine k_iconst (a := 1) (n := 27) dX8_crosser_26 rfl rfl ?_
      refine qiX8_69 (n := 30) dX8_crosser_27 rfl rfl (Nat.le_of_ble_eq_true rfl) (by omega) rfl (c_refuse1 (by omega)) (Nat.le_refl _) (Nat.le_refl _) ?_
      refine k_ireturn (ty := .int) dX8_crosser_30 rfl rfl (Nat.le_refl _) (Nat.le_refl _) ?_
      exact kZ.to (by simp only [s_crosser, if_pos h4_, if_neg h14]) (kZ_e1 hC (FX.rf _))
    · refine al0 (n := 18) dX8_crosser_17 rfl ?_
      refine il3 (n := 19) dX8_crosser_18 rfl ?_
      refine qiX8_129 (n := 22) dX8_crosser_19 rfl rfl (Nat.le_of_ble_eq_true rfl) (by omega) rfl (c_isPlace (by omega) hb _) (Nat.le_refl _) (Nat.le_refl _) ?_
      refine k_ifb_ne (t := 31) (n := 25) dX8_crosser_22 (by decide) rfl (fun h22 => ?_) (fun h22 => ?_)
      · refine al0 (n := 32) dX8_crosser_31 rfl ?_
        refine gX8_10 (n := 35) dX8_crosser_32 rfl rfl rfl rfl ?_
        refine gX8_73 (n := 38) dX8_crosser_35 rfl rfl rfl rfl ?_
        refine gX8_76 (n := 41) dX8_crosser_38 rfl rfl (hS0 (Or.inl rfl)) ?_
        refine k_top ((BL.f11 hb).trans hb.c9) ?_
        refine k_bipush (a := 8) (n := 43) dX8_crosser_41 rfl rfl ?_
        refine k_icmp_lt (t := 52) (n := 46) dX8_crosser_43 (by decide) rfl (fun h43 => ?_) (fun h43 => ?_)
        · have hc : c < 8 := Nat.lt_of_not_le fun q => absurd h43 (nI_nlt (a := c) (b := 8) q (by omega))
          have hne : ¬ r 9 = 8 := by rw [hb.c9]; exact fun q => absurd (q ▸ h43 : (8 : Int32) < 8) (by decide)
          refine al0 (n := 53) dX8_crosser_52 rfl ?_
          refine gX8_10 (n := 56) dX8_crosser_53 rfl rfl rfl rfl ?_
          refine gX8_73 (n := 59) dX8_crosser_56 rfl rfl rfl rfl ?_
          refine il1 (n := 60) dX8_crosser_59 rfl ?_
          refine il2 (n := 61) dX8_crosser_60 rfl ?_
          refine il3 (n := 62) dX8_crosser_61 rfl ?_
          refine qX8_132 (n := 65) dX8_crosser_62 rfl rfl (Nat.le_of_ble_eq_true rfl) (by omega) (Nat.le_refl _) (Nat.le_refl _) (hS0 (Or.inl rfl)) (c_addC (by omega) hb hT hc km sk pl) ?_
          rintro _ _ ⟨I1, rfl, rfl, hb1, hg1⟩
          dsimp only [Option.toList, List.cons_append, List.nil_append, Nat.add_zero]
          have hf1 := hg1
          refine k_ireturn (ty := .int) dX8_crosser_65 rfl rfl (Nat.le_refl _) (Nat.le_refl _) ?_
          exact kZ.to (by simp only [s_crosser, ec, if_pos h4_, if_pos h14, if_pos h22, if_neg hne]; rw [hb.c9]) (kZ_x (hC.bd hb1 hf1 (RO.newC hc)) (FX.bd hf1))
        · have hne : r 9 = 8 := by rw [hb.c9, show c = 8 from Nat.le_antisymm h8 (Nat.le_of_not_lt fun q => h43 (nI_lt q (by decide)))]; rfl
          refine al0 (n := 47) dX8_crosser_46 rfl ?_
          refine k_iconst (a := 4) (n := 48) dX8_crosser_47 rfl rfl ?_
          refine qiX8_69 (n := 51) dX8_crosser_48 rfl rfl (Nat.le_of_ble_eq_true rfl) (by omega) rfl (c_refuse4 (by omega)) (Nat.le_refl _) (Nat.le_refl _) ?_
          refine k_ireturn (ty := .int) dX8_crosser_51 rfl rfl (Nat.le_refl _) (Nat.le_refl _) ?_
          exact kZ.to (by simp only [s_crosser, if_pos h4_, if_pos h14, if_pos h22, if_pos hne]) (kZ_e4 hC (FX.rf _))
      · refine al0 (n := 26) dX8_crosser_25 rfl ?_
        refine k_iconst (a := 1) (n := 27) dX8_crosser_26 rfl rfl ?_
        refine qiX8_69 (n := 30) dX8_crosser_27 rfl rfl (Nat.le_of_ble_eq_true rfl) (by omega) rfl (c_refuse1 (by omega)) (Nat.le_refl _) (Nat.le_refl _) ?_
        refine k_ireturn (ty := .int) dX8_crosser_30 rfl rfl (Nat.le_refl _) (Nat.le_refl _) ?_
        exact kZ.to (by simp only [s_crosser, if_pos h4_, if_pos h14, if_neg h22]) (kZ_e1 hC (FX.rf _))
set_option maxHeartbeats 2000000 in
set_option maxRecDepth 20000 in
theorem c_become (hd : 3 ≤ d) (hC : CR I r c t) (hR : RI r) (hX : RX r) (v q : Int32) : Ct E d mX8_become 0 0 [.ref 0, .int v, .int q] (kJ I) (kZ I (s_become r v q)) := by
  have hb := hC.bl
  have hT := hR.TX
  have h8 := hb.c8
  have h4 := hb.t4
  refine Ct.of (L := [some (.ref 0), some (.int v), some (.int q), none, none]) rfl rfl (Nat.le_of_ble_eq_true rfl) ?_
  refine al0 (n := 1) dX8_become_0 rfl ?_
  refine il1 (n := 2) dX8_become_1 rfl ?_
  refine qiX8_136 (n := 5) dX8_become_2 rfl rfl (Nat.le_of_ble_eq_true rfl) (by omega) rfl (c_isCrosser (by omega) hb _) (Nat.le_refl _) (Nat.le_refl _) ?_
  refine k_ifb_eq (t := 15) (n := 8) dX8_become_5 (by decide) rfl (fun h5 => ?_) (fun h5 => ?_)
  · refine al0 (n := 16) dX8_become_15 rfl ?_
    refine k_iconst (a := 1) (n := 17) dX8_become_16 rfl rfl ?_
    refine qiX8_69 (n := 20) dX8_become_17 rfl rfl (Nat.le_of_ble_eq_true rfl) (by omega) rfl (c_refuse1 (by omega)) (Nat.le_refl _) (Nat.le_refl _) ?_
    refine k_ireturn (ty := .int) dX8_become_20 rfl rfl (Nat.le_refl _) (Nat.le_refl _) ?_
    exact kZ.to (by simp only [s_become, if_neg h5]) (kZ_e1 hC (FX.rf _))
  · obtain ⟨j, hj, rfl⟩ := kixc hb h5
    refine il2 (n := 9) dX8_become_8 rfl ?_
    refine qiX8_126 (n := 12) dX8_become_9 rfl rfl (Nat.le_of_ble_eq_true rfl) (by omega) (c_isKind (by omega) _) (Nat.le_refl _) (Nat.le_refl _) ?_
    refine k_ifb_ne (t := 21) (n := 15) dX8_become_12 (by decide) rfl (fun h12 => ?_) (fun h12 => ?_)
    · refine al0 (n := 22) dX8_become_21 rfl ?_
      refine gX8_10 (n := 25) dX8_become_22 rfl rfl rfl rfl ?_
      refine gX8_73 (n := 28) dX8_become_25 rfl rfl rfl rfl ?_
      refine gX8_139 (n := 31) dX8_become_28 rfl rfl (hS0 (Or.inl rfl)) (hP4 (Or.inl rfl)) ?_
      refine il1 (n := 32) dX8_become_31 rfl ?_
      refine j_aald (j := j) (n := 33) dX8_become_32 rfl (hS3 (Or.inl rfl)) hOC rfl (by omega) (by decide) (hP6 (Or.inl rfl) (by omega)) ?_
      refine as3 (n := 34) dX8_become_33 rfl trivial ?_
      refine al3 (n := 35) dX8_become_34 rfl ?_
      refine gX8_143 (n := 38) dX8_become_35 rfl rfl (hS8 (Or.inl rfl) (by omega)) ?_
      refine k_top (BL.cr0 hb hj) ?_
      refine is4 (n := 40) dX8_become_38 rfl trivial ?_
      refine al3 (n := 41) dX8_become_40 rfl ?_
      refine il2 (n := 42) dX8_become_41 rfl ?_
      refine qX8_184 (n := 45) dX8_become_42 rfl rfl (Nat.le_of_ble_eq_true rfl) (by omega) (Nat.le_refl _) (Nat.le_refl _) (hS8 (Or.inl rfl) (by omega)) (c_tkB hb hT hj _) ?_
      rintro _ _ ⟨I1, rfl, rfl, hb1, hg1⟩
      dsimp only [Option.toList, List.cons_append, List.nil_append, Nat.add_zero]
      have hf1 := hg1
      refine il4 (n := 47) dX8_become_45 rfl ?_
      refine k_ireturn (ty := .int) dX8_become_47 rfl rfl (Nat.le_refl _) (Nat.le_refl _) ?_
      exact kZ.to (by simp only [s_become, if_pos h5, kcl (show j < 1000 by omega), if_pos h12]; rw [upd_cm (show 29 + 7 * j + 1 ≠ 29 + 7 * j by omega)]; rfl) (kZ_x (hC.bd hb1 hf1 (by repeat' first | exact RO.rf _ | refine RO.u ?_ (by omega))) (FX.bd hf1))
    · refine al0 (n := 16) dX8_become_15 rfl ?_
      refine k_iconst (a := 1) (n := 17) dX8_become_16 rfl rfl ?_
      refine qiX8_69 (n := 20) dX8_become_17 rfl rfl (Nat.le_of_ble_eq_true rfl) (by omega) rfl (c_refuse1 (by omega)) (Nat.le_refl _) (Nat.le_refl _) ?_
      refine k_ireturn (ty := .int) dX8_become_20 rfl rfl (Nat.le_refl _) (Nat.le_refl _) ?_
      exact kZ.to (by simp only [s_become, if_pos h5, kcl (show j < 1000 by omega), if_neg h12]) (kZ_e1 hC (FX.rf _))
theorem k_getsN {y : kY} {cl sl mc ms pc n : Nat} {L : List (Option Value)} {st : List Value} {M : kM} {Q : Option Value → kM → Prop} {i : Nat} (hd : decode y.2.1 pc = .ok (.getstatic i, 3)) (hn : pc + 3 = n) (hm : (y.1.cls, i) ∈ kNestF) (kk : Wd E d y cl sl mc ms n L (.ref 1001 :: st) M Q) : Wd E d y cl sl mc ms pc L st M Q := by
  intro p l e R s m args below meth c H locs ls Z hC hx hH hS hl
  subst hn
  have hA := kamb hC
  exact va_getsN hC.1 hC.2.1 (hA.2.2.2.2.2.1 ("RopeBorder", "KIND_ABOVE", 1001) (List.Mem.head _)) hS (kown hC) ((hA.2.2.2.2.1 _ hm).use rfl) (fun x h => h) hd (kk p l e R s m args below meth c H locs ls Z hC hx hH hS hl)
def abV (k : Nat) : Int32 := ([-1, 0, 0, 0, 1, 2, 3] : List Int32).getD k 0
def ofK : Nat → Int32 → Int32 → Bool
  | 0, _, _ => false
  | m + 1, a, q => if a = -1 then false else if a = q then true else ofK m (abV a.toNatClampNeg) q
theorem abV_ok : ∀ k, k < 7 → abV k = -1 ∨ ∃ j, j < 7 ∧ abV k = nI j := by
  intro k hk
  rcases (show k = 0 ∨ k = 1 ∨ k = 2 ∨ k = 3 ∨ k = 4 ∨ k = 5 ∨ k = 6 by omega) with rfl | rfl | rfl | rfl | rfl | rfl | rfl
  · exact Or.inl rfl
  · exact Or.inr ⟨0, by decide, rfl⟩
  · exact Or.inr ⟨0, by decide, rfl⟩
  · exact Or.inr ⟨0, by decide, rfl⟩
  · exact Or.inr ⟨1, by decide, rfl⟩
  · exact Or.inr ⟨2, by decide, rfl⟩
  · exact Or.inr ⟨3, by decide, rfl⟩
theorem ofK_kOf : ∀ k, k < 7 → ∀ w, w < 7 → (ofK 7 (nI k) (nI w) = true ↔ 0 ≤ kOf 3 (nI k) (nI w)) := by decide +kernel
theorem xR {k z : Nat} {f : Nat → Int32} (h1 : 1000 ≤ k) (h2 : k ≤ 1004) (hz : z = (kxt E k).1) (hf : f = (kxt E k).2) : kRd E (kJ I) k z f := Or.inr ⟨h1, h2, hz, hf⟩
set_option maxHeartbeats 2000000 in
set_option maxRecDepth 20000 in
theorem c_isOf_l {a : Nat} (q : Int32) (m : Nat) : ∀ (i : Nat) (x : Int32), i + m = 7 → (x = -1 ∨ ∃ j, j < 7 ∧ x = nI j) → Wd E d mX1_isOfKind 0 0 0 0 7 [some (.ref a), some (.int q), some (.int x), some (.int (nI i))] [] (kJ I) (kR (kb (ofK m x q = true)) I) := by
  induction m with
  | zero =>
    intro i x hi hx
    have e : i = 7 := by omega
    subst e
    refine il3 (n := 8) dX1_isOfKind_7 rfl ?_
    refine k_getsN (n := 11) dX1_isOfKind_8 rfl (List.Mem.head _) ?_
    refine k_alen (n := 12) dX1_isOfKind_11 rfl (xR (z := 7) (f := fun j => ([-1, 0, 0, 0, 1, 2, 3] : List Int32).getD j 0) (by decide) (by decide) rfl rfl) ?_
    refine k_icmp_ge (t := 39) (n := 15) dX1_isOfKind_12 (by decide) rfl (fun h12 => ?_) (fun h12 => ?_)
    · refine k_iconst (a := 0) (n := 40) dX1_isOfKind_39 rfl rfl ?_
      refine k_ireturn (ty := .boolean) dX1_isOfKind_40 rfl (by first | rfl | exact knb _) (Nat.le_refl _) (Nat.le_refl _) ?_
      exact kRf (by simp [ofK])
    · exact absurd (Int32.le_refl _) h12
  | succ m ih =>
    intro i x hi hx
    refine il3 (n := 8) dX1_isOfKind_7 rfl ?_
    refine k_getsN (n := 11) dX1_isOfKind_8 rfl (List.Mem.head _) ?_
    refine k_alen (n := 12) dX1_isOfKind_11 rfl (xR (z := 7) (f := fun j => ([-1, 0, 0, 0, 1, 2, 3] : List Int32).getD j 0) (by decide) (by decide) rfl rfl) ?_
    refine k_icmp_ge (t := 39) (n := 15) dX1_isOfKind_12 (by decide) rfl (fun h12 => ?_) (fun h12 => ?_)
    · exact absurd h12 (nI_ge (by omega) (by decide))
    · refine il2 (n := 16) dX1_isOfKind_15 rfl ?_
      refine k_iconst (a := (-1)) (n := 17) dX1_isOfKind_16 rfl rfl ?_
      refine k_icmp_eq (t := 39) (n := 20) dX1_isOfKind_17 (by decide) rfl (fun h17 => ?_) (fun h17 => ?_)
      · refine k_iconst (a := 0) (n := 40) dX1_isOfKind_39 rfl rfl ?_
        refine k_ireturn (ty := .boolean) dX1_isOfKind_40 rfl (by first | rfl | exact knb _) (Nat.le_refl _) (Nat.le_refl _) ?_
        exact kRf (by rw [ofK, if_pos h17]; decide)
      · obtain ⟨j, hj, rfl⟩ := hx.resolve_left h17
        refine il2 (n := 21) dX1_isOfKind_20 rfl ?_
        refine il1 (n := 22) dX1_isOfKind_21 rfl ?_
        refine k_icmp_ne (t := 27) (n := 25) dX1_isOfKind_22 (by decide) rfl (fun h22 => ?_) (fun h22 => ?_)
        · refine k_getsN (n := 30) dX1_isOfKind_27 rfl (List.Mem.head _) ?_
          refine il2 (n := 31) dX1_isOfKind_30 rfl ?_
          refine k_iald (j := j) (n := 32) dX1_isOfKind_31 rfl (xR (z := 7) (f := fun j => ([-1, 0, 0, 0, 1, 2, 3] : List Int32).getD j 0) (by decide) (by decide) rfl rfl) rfl hj (by decide) ?_
          refine is2 (n := 33) dX1_isOfKind_32 rfl trivial ?_
          refine ii3 (n := 36) dX1_isOfKind_33 rfl (ki1 _) trivial ?_
          rw [nI_1]
          refine k_goto (n := 7) dX1_isOfKind_36 (by decide) ?_
          have h := ih (i + 1) (abV j) (by omega) (abV_ok j hj)
          rw [show ofK (m + 1) (nI j) q = ofK m (abV j) q by rw [ofK, if_neg h17, if_neg h22, kcl (by omega)]]
          exact h
        · refine k_iconst (a := 1) (n := 26) dX1_isOfKind_25 rfl rfl ?_
          refine k_ireturn (ty := .boolean) dX1_isOfKind_26 rfl (by first | rfl | exact knb _) (Nat.le_refl _) (Nat.le_refl _) ?_
          exact kRt (by rw [ofK, if_neg h17, if_pos h22])
set_option maxHeartbeats 2000000 in
set_option maxRecDepth 20000 in
theorem c_isOf (hb : BL 8 I r c t) (hR : RI r) {i w : Nat} (hi : i < c) (hw : w < 7) : Ct E d mX1_isOfKind 0 0 [.ref (8 + 8 + i), .int (nI w)] (kJ I) (kR (kb (0 ≤ kOf 3 (r (29 + 7 * i)) (nI w))) I) := by
  have h8 := hb.c8
  obtain ⟨k, hk, h7⟩ := hR.kind (j := i) (by omega)
  refine Ct.of (L := [some (.ref (8 + 8 + i)), some (.int (nI w)), none, none]) rfl rfl (Nat.le_of_ble_eq_true rfl) ?_
  refine al0 (n := 1) dX1_isOfKind_0 rfl ?_
  refine gX1_9 (n := 4) dX1_isOfKind_1 rfl rfl (hS8 (Or.inl rfl) (by omega)) ?_
  refine k_top ((BL.cr0 hb hi).trans hk) ?_
  refine is2 (n := 5) dX1_isOfKind_4 rfl trivial ?_
  refine k_iconst (a := 0) (n := 6) dX1_isOfKind_5 rfl rfl ?_
  refine is3 (n := 7) dX1_isOfKind_6 rfl trivial ?_
  have h := c_isOf_l (E := E) (d := d) (I := I) (a := 8 + 8 + i) (nI w) 7 0 (nI k) (by omega) (Or.inr ⟨k, h7, rfl⟩)
  rw [hk, ← kb_iff (ofK_kOf k h7 w hw)]
  exact h
set_option maxHeartbeats 2000000 in
set_option maxRecDepth 20000 in
theorem c_as (hd : 2 ≤ d) (hC : CR I r c t) (hR : RI r) (hX : RX r) (v q : Int32) : Ct E d mX8_as 0 0 [.ref 0, .int v, .int q] (kJ I) (kZ I (s_as r v q)) := by
  have hb := hC.bl
  have hT := hR.TX
  have h8 := hb.c8
  have h4 := hb.t4
  refine Ct.of (L := [some (.ref 0), some (.int v), some (.int q), none]) rfl rfl (Nat.le_of_ble_eq_true rfl) ?_
  refine al0 (n := 1) dX8_as_0 rfl ?_
  refine il1 (n := 2) dX8_as_1 rfl ?_
  refine qiX8_136 (n := 5) dX8_as_2 rfl rfl (Nat.le_of_ble_eq_true rfl) (by omega) rfl (c_isCrosser (by omega) hb _) (Nat.le_refl _) (Nat.le_refl _) ?_
  refine k_ifb_eq (t := 18) (n := 8) dX8_as_5 (by decide) rfl (fun h5 => ?_) (fun h5 => ?_)
  · refine al0 (n := 19) dX8_as_18 rfl ?_
    refine k_iconst (a := 1) (n := 20) dX8_as_19 rfl rfl ?_
    refine qiX8_69 (n := 23) dX8_as_20 rfl rfl (Nat.le_of_ble_eq_true rfl) (by omega) rfl (c_refuse1 (by omega)) (Nat.le_refl _) (Nat.le_refl _) ?_
    refine k_ireturn (ty := .int) dX8_as_23 rfl rfl (Nat.le_refl _) (Nat.le_refl _) ?_
    exact kZ.to (by simp only [s_as, if_neg h5]) (kZ_e1 hC (FX.rf _))
  · obtain ⟨j, hj, rfl⟩ := kixc hb h5
    refine il2 (n := 9) dX8_as_8 rfl ?_
    refine k_iconst (a := 0) (n := 10) dX8_as_9 rfl rfl ?_
    refine k_bipush (a := 6) (n := 12) dX8_as_10 rfl rfl ?_
    refine qiX8_65 (n := 15) dX8_as_12 rfl rfl (Nat.le_of_ble_eq_true rfl) (by omega) (c_within _ _ _) (Nat.le_refl _) (Nat.le_refl _) ?_
    refine k_ifb_ne (t := 24) (n := 18) dX8_as_15 (by decide) rfl (fun h15 => ?_) (fun h15 => ?_)
    · obtain ⟨w, -, hw, rfl⟩ := kbt (a := 0) (b := 6) h15 (by decide) (by decide)
      refine al0 (n := 25) dX8_as_24 rfl ?_
      refine gX8_10 (n := 28) dX8_as_25 rfl rfl rfl rfl ?_
      refine gX8_73 (n := 31) dX8_as_28 rfl rfl rfl rfl ?_
      refine gX8_139 (n := 34) dX8_as_31 rfl rfl (hS0 (Or.inl rfl)) (hP4 (Or.inl rfl)) ?_
      refine il1 (n := 35) dX8_as_34 rfl ?_
      refine j_aald (j := j) (n := 36) dX8_as_35 rfl (hS3 (Or.inl rfl)) hOC rfl (by omega) (by decide) (hP6 (Or.inl rfl) (by omega)) ?_
      refine as3 (n := 37) dX8_as_36 rfl trivial ?_
      refine al3 (n := 38) dX8_as_37 rfl ?_
      refine il2 (n := 39) dX8_as_38 rfl ?_
      refine qiX8_187 (n := 42) dX8_as_39 rfl rfl (Nat.le_of_ble_eq_true rfl) (by omega) (hS8 (Or.inl rfl) (by omega)) (c_isOf hb hR hj (by omega)) (Nat.le_refl _) (Nat.le_refl _) ?_
      refine k_ifb_eq (t := 52) (n := 45) dX8_as_42 (by decide) rfl (fun h42 => ?_) (fun h42 => ?_)
      · refine al0 (n := 53) dX8_as_52 rfl ?_
        refine k_iconst (a := 5) (n := 54) dX8_as_53 rfl rfl ?_
        refine qiX8_69 (n := 57) dX8_as_54 rfl rfl (Nat.le_of_ble_eq_true rfl) (by omega) rfl (c_refuse5 (by omega)) (Nat.le_refl _) (Nat.le_refl _) ?_
        refine k_ireturn (ty := .int) dX8_as_57 rfl rfl (Nat.le_refl _) (Nat.le_refl _) ?_
        exact kZ.to (by simp only [s_as, if_pos h5, kcl (show j < 1000 by omega), if_pos h15, kcl (show w < 1000 by omega), if_neg h42]) (kZ_e5 hC (FX.rf _))
      · refine al3 (n := 46) dX8_as_45 rfl ?_
        refine gX8_148 (n := 49) dX8_as_46 rfl rfl (hS8 (Or.inl rfl) (by omega)) ?_
        refine k_top (BL.cr hb hj (j := 1) (by decide)) ?_
        refine k_goto (n := 57) dX8_as_49 (by decide) ?_
        refine k_ireturn (ty := .int) dX8_as_57 rfl rfl (Nat.le_refl _) (Nat.le_refl _) ?_
        exact kZ.to (by simp only [s_as, if_pos h5, kcl (show j < 1000 by omega), if_pos h15, kcl (show w < 1000 by omega), if_pos h42]) (kZ_x hC (FX.rf _))
    · refine al0 (n := 19) dX8_as_18 rfl ?_
      refine k_iconst (a := 1) (n := 20) dX8_as_19 rfl rfl ?_
      refine qiX8_69 (n := 23) dX8_as_20 rfl rfl (Nat.le_of_ble_eq_true rfl) (by omega) rfl (c_refuse1 (by omega)) (Nat.le_refl _) (Nat.le_refl _) ?_
      refine k_ireturn (ty := .int) dX8_as_23 rfl rfl (Nat.le_refl _) (Nat.le_refl _) ?_
      exact kZ.to (by simp only [s_as, if_pos h5, kcl (show j < 1000 by omega), if_neg h15]) (kZ_e1 hC (FX.rf _))
theorem nI_inj4 : ∀ w, w < 4 → nI w = 3 → w = 3 := by decide +kernel
theorem chOk_out {q v : Int32} (h : q.toInt < 0 ∨ ((3 : Nat) : Int) < q.toInt) : ¬ chOk r q v := by
  intro hk
  obtain ⟨i, hi, rfl⟩ := chOk_q hk
  rw [nI_toInt (by omega)] at h
  omega
theorem chOk0 (r : Nat → Int32) (v : Int32) : (0 ≤ v ∧ v ≤ 9) ↔ chOk r (nI 0) v := by simp only [chOk, if_pos (show nI 0 = 0 from rfl)]
theorem chOk1 (r : Nat → Int32) (v : Int32) : (0 ≤ v ∧ v ≤ 99) ↔ chOk r (nI 1) v := by simp only [chOk, if_neg (show ¬ nI 1 = 0 by decide), if_pos (show nI 1 = 1 from rfl)]
theorem chOk2 (r : Nat → Int32) (v : Int32) : (0 ≤ v ∧ v ≤ r 3 - 1) ↔ chOk r (nI 2) v := by simp only [chOk, if_neg (show ¬ nI 2 = 0 by decide), if_neg (show ¬ nI 2 = 1 by decide), if_pos (show nI 2 = 2 from rfl)]
theorem chOk3 (r : Nat → Int32) (v : Int32) : chOk r (nI 3) v ↔ (v = 0 ∨ v = 2 ∨ v = 3) := by
  simp only [chOk, if_neg (show ¬ nI 3 = 0 by decide), if_neg (show ¬ nI 3 = 1 by decide), if_neg (show ¬ nI 3 = 2 by decide), if_pos (show nI 3 = 3 from rfl)]
  constructor
  · intro h
    rcases kbt (a := 0) (b := 3) h.1 (by decide) (by decide) with ⟨z, -, hz, rfl⟩
    rcases (show z = 0 ∨ z = 1 ∨ z = 2 ∨ z = 3 by omega) with rfl | rfl | rfl | rfl
    · exact Or.inl rfl
    · exact absurd rfl h.2
    · exact Or.inr (Or.inl rfl)
    · exact Or.inr (Or.inr rfl)
  · intro h
    rcases h with rfl | rfl | rfl <;> decide
set_option maxHeartbeats 2000000 in
set_option maxRecDepth 20000 in
theorem c_canBe (hd : 2 ≤ d) (hb : BL 8 I r c t) (q v : Int32) : Ct E d mX8_canBecome 0 0 [.ref 0, .int q, .int v] (kJ I) (kR (kb (chOk r q v)) I) := by
  refine Ct.of (L := [some (.ref 0), some (.int q), some (.int v)]) rfl rfl (Nat.le_of_ble_eq_true rfl) ?_
  refine il1 (n := 1) dX8_canBecome_0 rfl ?_
  rcases ksw q 3 (by decide) with hq | ⟨k, hk, rfl⟩
  · refine k_swOut (t := 74) dX8_canBecome_1 hq (by decide) ?_
    refine k_iconst (a := 0) (n := 75) dX8_canBecome_74 rfl rfl ?_
    refine k_ireturn (ty := .boolean) dX8_canBecome_75 rfl (by first | rfl | exact knb _) (Nat.le_refl _) (Nat.le_refl _) ?_
    exact kRf (chOk_out hq)
  · rcases (show k = 0 ∨ k = 1 ∨ k = 2 ∨ k = 3 by omega) with rfl | rfl | rfl | rfl
    · refine k_swIn (t := 32) (off := 31) dX8_canBecome_1 (by decide) (by decide) (by decide) (by decide) ?_
      refine il2 (n := 33) dX8_canBecome_32 rfl ?_
      refine k_iconst (a := 0) (n := 34) dX8_canBecome_33 rfl rfl ?_
      refine k_bipush (a := 9) (n := 36) dX8_canBecome_34 rfl rfl ?_
      refine qiX8_65 (n := 39) dX8_canBecome_36 rfl rfl (Nat.le_of_ble_eq_true rfl) (by omega) (c_within _ _ _) (Nat.le_refl _) (Nat.le_refl _) ?_
      refine k_ireturn (ty := .boolean) dX8_canBecome_39 rfl (by first | rfl | exact knb _) (Nat.le_refl _) (Nat.le_refl _) ?_
      exact ⟨by rw [kb_iff (chOk0 r v)], rfl⟩
    · refine k_swIn (t := 40) (off := 39) dX8_canBecome_1 (by decide) (by decide) (by decide) (by decide) ?_
      refine il2 (n := 41) dX8_canBecome_40 rfl ?_
      refine k_iconst (a := 0) (n := 42) dX8_canBecome_41 rfl rfl ?_
      refine k_bipush (a := 99) (n := 44) dX8_canBecome_42 rfl rfl ?_
      refine qiX8_65 (n := 47) dX8_canBecome_44 rfl rfl (Nat.le_of_ble_eq_true rfl) (by omega) (c_within _ _ _) (Nat.le_refl _) (Nat.le_refl _) ?_
      refine k_ireturn (ty := .boolean) dX8_canBecome_47 rfl (by first | rfl | exact knb _) (Nat.le_refl _) (Nat.le_refl _) ?_
      exact ⟨by rw [kb_iff (chOk1 r v)], rfl⟩
    · refine k_swIn (t := 48) (off := 47) dX8_canBecome_1 (by decide) (by decide) (by decide) (by decide) ?_
      refine al0 (n := 49) dX8_canBecome_48 rfl ?_
      refine il2 (n := 50) dX8_canBecome_49 rfl ?_
      refine qiX8_129 (n := 53) dX8_canBecome_50 rfl rfl (Nat.le_of_ble_eq_true rfl) (by omega) rfl (c_isPlace (by omega) hb _) (Nat.le_refl _) (Nat.le_refl _) ?_
      refine k_ireturn (ty := .boolean) dX8_canBecome_53 rfl (by first | rfl | exact knb _) (Nat.le_refl _) (Nat.le_refl _) ?_
      exact ⟨by rw [kb_iff (chOk2 r v)], rfl⟩
    · refine k_swIn (t := 54) (off := 53) dX8_canBecome_1 (by decide) (by decide) (by decide) (by decide) ?_
      refine il2 (n := 55) dX8_canBecome_54 rfl ?_
      refine k_if_eq (t := 68) (n := 58) dX8_canBecome_55 (by decide) rfl (fun h55 => ?_) (fun h55 => ?_)
      · refine k_iconst (a := 1) (n := 69) dX8_canBecome_68 rfl rfl ?_
        refine k_goto (n := 73) dX8_canBecome_69 (by decide) ?_
        refine k_ireturn (ty := .boolean) dX8_canBecome_73 rfl (by first | rfl | exact knb _) (Nat.le_refl _) (Nat.le_refl _) ?_
        first
          | exact kRt ((chOk3 r v).mpr (Or.inl h55))
          | exact kRt ((chOk3 r v).mpr (Or.inr (Or.inl h60)))
          | exact kRt ((chOk3 r v).mpr (Or.inr (Or.inr h65)))
          | exact kRf (fun z => ((chOk3 r v).mp z).elim h55 (fun z => z.elim h60 h65))
      · refine il2 (n := 59) dX8_canBecome_58 rfl ?_
        refine k_iconst (a := 2) (n := 60) dX8_canBecome_59 rfl rfl ?_
        refine k_icmp_eq (t := 68) (n := 63) dX8_canBecome_60 (by decide) rfl (fun h60 => ?_) (fun h60 => ?_)
        · refine k_iconst (a := 1) (n := 69) dX8_canBecome_68 rfl rfl ?_
          refine k_goto (n := 73) dX8_canBecome_69 (by decide) ?_
          refine k_ireturn (ty := .boolean) dX8_canBecome_73 rfl (by first | rfl | exact knb _) (Nat.le_refl _) (Nat.le_refl _) ?_
          first
            | exact kRt ((chOk3 r v).mpr (Or.inl h55))
            | exact kRt ((chOk3 r v).mpr (Or.inr (Or.inl h60)))
            | exact kRt ((chOk3 r v).mpr (Or.inr (Or.inr h65)))
            | exact kRf (fun z => ((chOk3 r v).mp z).elim h55 (fun z => z.elim h60 h65))
        · refine il2 (n := 64) dX8_canBecome_63 rfl ?_
          refine k_iconst (a := 3) (n := 65) dX8_canBecome_64 rfl rfl ?_
          refine k_icmp_ne (t := 72) (n := 68) dX8_canBecome_65 (by decide) rfl (fun h65 => ?_) (fun h65 => ?_)
          · refine k_iconst (a := 0) (n := 73) dX8_canBecome_72 rfl rfl ?_
            refine k_ireturn (ty := .boolean) dX8_canBecome_73 rfl (by first | rfl | exact knb _) (Nat.le_refl _) (Nat.le_refl _) ?_
            first
              | exact kRt ((chOk3 r v).mpr (Or.inl h55))
              | exact kRt ((chOk3 r v).mpr (Or.inr (Or.inl h60)))
              | exact kRt ((chOk3 r v).mpr (Or.inr (Or.inr h65)))
              | exact kRf (fun z => ((chOk3 r v).mp z).elim h55 (fun z => z.elim h60 h65))
          · refine k_iconst (a := 1) (n := 69) dX8_canBecome_68 rfl rfl ?_
            refine k_goto (n := 73) dX8_canBecome_69 (by decide) ?_
            refine k_ireturn (ty := .boolean) dX8_canBecome_73 rfl (by first | rfl | exact knb _) (Nat.le_refl _) (Nat.le_refl _) ?_
            first
              | exact kRt ((chOk3 r v).mpr (Or.inl h55))
              | exact kRt ((chOk3 r v).mpr (Or.inr (Or.inl h60)))
              | exact kRt ((chOk3 r v).mpr (Or.inr (Or.inr h65)))
              | exact kRf (fun z => ((chOk3 r v).mp z).elim h55 (fun z => z.elim h60 h65))
set_option maxHeartbeats 2000000 in
set_option maxRecDepth 20000 in
theorem c_exch (hb : BL 8 I r c t) (hT : TX r) {i w : Nat} (hi : i < c) (hw : w < 4) (v : Int32) : Ct E d mX1_exchange 0 0 [.ref (8 + 8 + i), .int (nI w), .int v] (kJ I) (kBi (r (29 + 7 * i + 2 + w)) 8 I (if w = 3 then upd (upd r (29 + 7 * i + 5) v) (29 + 7 * i + 6) 0 else upd r (29 + 7 * i + 2 + w) v) c t) := by
  have h8 := hb.c8
  refine Ct.of (L := [some (.ref (8 + 8 + i)), some (.int (nI w)), some (.int v), none]) rfl rfl (Nat.le_of_ble_eq_true rfl) ?_
  refine il1 (n := 1) dX1_exchange_0 rfl ?_
  rcases (show w = 0 ∨ w = 1 ∨ w = 2 ∨ w = 3 by omega) with rfl | rfl | rfl | rfl
  · refine k_swIn (t := 28) (off := 27) dX1_exchange_1 (by decide) (by decide) (by decide) (by decide) ?_
    refine al0 (n := 29) dX1_exchange_28 rfl ?_
    refine gX1_18 (n := 32) dX1_exchange_29 rfl rfl (hS8 (Or.inl rfl) (by omega)) ?_
    refine k_top (BL.cr hb hi (j := 2) (by decide)) ?_
    refine is3 (n := 33) dX1_exchange_32 rfl trivial ?_
    refine al0 (n := 34) dX1_exchange_33 rfl ?_
    refine il2 (n := 35) dX1_exchange_34 rfl ?_
    refine pX1_18 (n := 38) dX1_exchange_35 rfl rfl (hS8 (Or.inl rfl) (by omega)) ?_
    refine k_gen (fun I1 e1 => ?_)
    have hb1 := BL.sc hb (Or.inl rfl) hT hi (by decide) e1
    have hT1 := TX.ob hb1 hT (by omega)
    have hf1 := (FB.c (by omega) e1)
    refine il3 (n := 39) dX1_exchange_38 rfl ?_
    refine k_ireturn (ty := .int) dX1_exchange_39 rfl rfl (Nat.le_refl _) (Nat.le_refl _) ?_
    first | exact ⟨I1, rfl, rfl, (by rw [if_neg (by decide)]; exact hb1), hf1⟩ | exact ⟨I1, rfl, rfl, (by rw [if_pos rfl]; exact hb1), hf1⟩
  · refine k_swIn (t := 40) (off := 39) dX1_exchange_1 (by decide) (by decide) (by decide) (by decide) ?_
    refine al0 (n := 41) dX1_exchange_40 rfl ?_
    refine gX1_21 (n := 44) dX1_exchange_41 rfl rfl (hS8 (Or.inl rfl) (by omega)) ?_
    refine k_top (BL.cr hb hi (j := 3) (by decide)) ?_
    refine is3 (n := 45) dX1_exchange_44 rfl trivial ?_
    refine al0 (n := 46) dX1_exchange_45 rfl ?_
    refine il2 (n := 47) dX1_exchange_46 rfl ?_
    refine pX1_21 (n := 50) dX1_exchange_47 rfl rfl (hS8 (Or.inl rfl) (by omega)) ?_
    refine k_gen (fun I2 e2 => ?_)
    have hb2 := BL.sc hb (Or.inl rfl) hT hi (by decide) e2
    have hT2 := TX.ob hb2 hT (by omega)
    have hf2 := (FB.c (by omega) e2)
    refine il3 (n := 51) dX1_exchange_50 rfl ?_
    refine k_ireturn (ty := .int) dX1_exchange_51 rfl rfl (Nat.le_refl _) (Nat.le_refl _) ?_
    first | exact ⟨I2, rfl, rfl, (by rw [if_neg (by decide)]; exact hb2), hf2⟩ | exact ⟨I2, rfl, rfl, (by rw [if_pos rfl]; exact hb2), hf2⟩
  · refine k_swIn (t := 52) (off := 51) dX1_exchange_1 (by decide) (by decide) (by decide) (by decide) ?_
    refine al0 (n := 53) dX1_exchange_52 rfl ?_
    refine gX1_24 (n := 56) dX1_exchange_53 rfl rfl (hS8 (Or.inl rfl) (by omega)) ?_
    refine k_top (BL.cr hb hi (j := 4) (by decide)) ?_
    refine is3 (n := 57) dX1_exchange_56 rfl trivial ?_
    refine al0 (n := 58) dX1_exchange_57 rfl ?_
    refine il2 (n := 59) dX1_exchange_58 rfl ?_
    refine pX1_24 (n := 62) dX1_exchange_59 rfl rfl (hS8 (Or.inl rfl) (by omega)) ?_
    refine k_gen (fun I3 e3 => ?_)
    have hb3 := BL.sc hb (Or.inl rfl) hT hi (by decide) e3
    have hT3 := TX.ob hb3 hT (by omega)
    have hf3 := (FB.c (by omega) e3)
    refine il3 (n := 63) dX1_exchange_62 rfl ?_
    refine k_ireturn (ty := .int) dX1_exchange_63 rfl rfl (Nat.le_refl _) (Nat.le_refl _) ?_
    first | exact ⟨I3, rfl, rfl, (by rw [if_neg (by decide)]; exact hb3), hf3⟩ | exact ⟨I3, rfl, rfl, (by rw [if_pos rfl]; exact hb3), hf3⟩
  · refine k_swOut (t := 64) dX1_exchange_1 (Or.inr (by decide)) (by decide) ?_
    refine al0 (n := 65) dX1_exchange_64 rfl ?_
    refine gX1_27 (n := 68) dX1_exchange_65 rfl rfl (hS8 (Or.inl rfl) (by omega)) ?_
    refine k_top (BL.cr hb hi (j := 5) (by decide)) ?_
    refine is3 (n := 69) dX1_exchange_68 rfl trivial ?_
    refine al0 (n := 70) dX1_exchange_69 rfl ?_
    refine il2 (n := 71) dX1_exchange_70 rfl ?_
    refine pX1_27 (n := 74) dX1_exchange_71 rfl rfl (hS8 (Or.inl rfl) (by omega)) ?_
    refine k_gen (fun I4 e4 => ?_)
    have hb4 := BL.sc hb (Or.inl rfl) hT hi (by decide) e4
    have hT4 := TX.ob hb4 hT (by omega)
    have hf4 := (FB.c (by omega) e4)
    refine al0 (n := 75) dX1_exchange_74 rfl ?_
    refine k_iconst (a := 0) (n := 76) dX1_exchange_75 rfl rfl ?_
    refine pX1_30 (n := 79) dX1_exchange_76 rfl rfl (hS8 (Or.inl rfl) (by omega)) ?_
    refine k_gen (fun I5 e5 => ?_)
    have hb5 := BL.sc hb4 (Or.inl rfl) hT4 hi (by decide) e5
    have hT5 := TX.ob hb5 hT4 (by omega)
    have hf5 := hf4.tr (FB.c (by omega) e5)
    refine il3 (n := 80) dX1_exchange_79 rfl ?_
    refine k_ireturn (ty := .int) dX1_exchange_80 rfl rfl (Nat.le_refl _) (Nat.le_refl _) ?_
    first | exact ⟨I5, rfl, rfl, (by rw [if_neg (by decide)]; exact hb5), hf5⟩ | exact ⟨I5, rfl, rfl, (by rw [if_pos rfl]; exact hb5), hf5⟩
set_option maxHeartbeats 2000000 in
set_option maxRecDepth 20000 in
theorem c_change (hd : 3 ≤ d) (hC : CR I r c t) (hR : RI r) (hX : RX r) (v q x : Int32) : Ct E d mX8_change 0 0 [.ref 0, .int v, .int q, .int x] (kJ I) (kZ I (s_change r v q x)) := by
  have hb := hC.bl
  have hT := hR.TX
  have h8 := hb.c8
  have h4 := hb.t4
  refine Ct.of (L := [some (.ref 0), some (.int v), some (.int q), some (.int x)]) rfl rfl (Nat.le_of_ble_eq_true rfl) ?_
  refine al0 (n := 1) dX8_change_0 rfl ?_
  refine il1 (n := 2) dX8_change_1 rfl ?_
  refine qiX8_136 (n := 5) dX8_change_2 rfl rfl (Nat.le_of_ble_eq_true rfl) (by omega) rfl (c_isCrosser (by omega) hb _) (Nat.le_refl _) (Nat.le_refl _) ?_
  refine k_ifb_eq (t := 17) (n := 8) dX8_change_5 (by decide) rfl (fun h5 => ?_) (fun h5 => ?_)
  · refine al0 (n := 18) dX8_change_17 rfl ?_
    refine k_iconst (a := 1) (n := 19) dX8_change_18 rfl rfl ?_
    refine qiX8_69 (n := 22) dX8_change_19 rfl rfl (Nat.le_of_ble_eq_true rfl) (by omega) rfl (c_refuse1 (by omega)) (Nat.le_refl _) (Nat.le_refl _) ?_
    refine k_ireturn (ty := .int) dX8_change_22 rfl rfl (Nat.le_refl _) (Nat.le_refl _) ?_
    exact kZ.to (by simp only [s_change, if_neg h5]) (kZ_e1 hC (FX.rf _))
  · obtain ⟨j, hj, rfl⟩ := kixc hb h5
    refine al0 (n := 9) dX8_change_8 rfl ?_
    refine il2 (n := 10) dX8_change_9 rfl ?_
    refine il3 (n := 11) dX8_change_10 rfl ?_
    refine qiX8_177 (n := 14) dX8_change_11 rfl rfl (Nat.le_of_ble_eq_true rfl) (by omega) rfl (c_canBe (by omega) hb _ _) (Nat.le_refl _) (Nat.le_refl _) ?_
    refine k_ifb_ne (t := 23) (n := 17) dX8_change_14 (by decide) rfl (fun h14 => ?_) (fun h14 => ?_)
    · obtain ⟨w, hw, rfl⟩ := chOk_q h14
      refine al0 (n := 24) dX8_change_23 rfl ?_
      refine gX8_10 (n := 27) dX8_change_24 rfl rfl rfl rfl ?_
      refine gX8_73 (n := 30) dX8_change_27 rfl rfl rfl rfl ?_
      refine gX8_139 (n := 33) dX8_change_30 rfl rfl (hS0 (Or.inl rfl)) (hP4 (Or.inl rfl)) ?_
      refine il1 (n := 34) dX8_change_33 rfl ?_
      refine j_aald (j := j) (n := 35) dX8_change_34 rfl (hS3 (Or.inl rfl)) hOC rfl (by omega) (by decide) (hP6 (Or.inl rfl) (by omega)) ?_
      refine il2 (n := 36) dX8_change_35 rfl ?_
      refine il3 (n := 37) dX8_change_36 rfl ?_
      refine qX8_180 (n := 40) dX8_change_37 rfl rfl (Nat.le_of_ble_eq_true rfl) (by omega) (Nat.le_refl _) (Nat.le_refl _) (hS8 (Or.inl rfl) (by omega)) (c_exch hb hT hj hw x) ?_
      rintro _ _ ⟨I1, rfl, rfl, hb1, hg1⟩
      dsimp only [Option.toList, List.cons_append, List.nil_append, Nat.add_zero]
      have hf1 := hg1
      refine k_ireturn (ty := .int) dX8_change_40 rfl rfl (Nat.le_refl _) (Nat.le_refl _) ?_
      by_cases h3 : w = 3
      · subst h3
        rw [if_pos rfl] at hb1
        refine kZ.to (x := (r (29 + 7 * j + 2 + 3), upd (upd r (29 + 7 * j + 5) x) (29 + 7 * j + 6) 0, 0)) ?_ (kZ_x (hC.bd hb1 hf1 (by repeat' first | exact RO.rf _ | refine RO.u ?_ (by omega))) (FX.bd hf1))
        simp only [s_change, if_pos h5, kcl (show j < 1000 by omega), if_pos h14, kcl (show 3 < 1000 by decide), if_pos (show nI 3 = 3 from rfl)]
        rw [upd_cm (show 29 + 7 * j + 6 ≠ 29 + 7 * j + 2 + 3 by omega), pk_un (show 29 + 7 * j + 2 + 3 ≠ 29 + 7 * j + 6 by omega)]
      · rw [if_neg h3] at hb1
        have h3' : ¬ nI w = 3 := fun z => h3 (nI_inj4 w hw z)
        exact kZ.to (by simp only [s_change, if_pos h5, kcl (show j < 1000 by omega), if_pos h14, kcl (show w < 1000 by omega), if_neg h3']) (kZ_x (hC.bd hb1 hf1 (by repeat' first | exact RO.rf _ | refine RO.u ?_ (by omega))) (FX.bd hf1))
    · refine al0 (n := 18) dX8_change_17 rfl ?_
      refine k_iconst (a := 1) (n := 19) dX8_change_18 rfl rfl ?_
      refine qiX8_69 (n := 22) dX8_change_19 rfl rfl (Nat.le_of_ble_eq_true rfl) (by omega) rfl (c_refuse1 (by omega)) (Nat.le_refl _) (Nat.le_refl _) ?_
      refine k_ireturn (ty := .int) dX8_change_22 rfl rfl (Nat.le_refl _) (Nat.le_refl _) ?_
      exact kZ.to (by simp only [s_change, if_pos h5, kcl (show j < 1000 by omega), if_neg h14]) (kZ_e1 hC (FX.rf _))
set_option maxHeartbeats 2000000 in
set_option maxRecDepth 20000 in
theorem c_ofCrosser (hd : 3 ≤ d) (hC : CR I r c t) (hR : RI r) (hX : RX r) (v q : Int32) : Ct E d mX8_ofCrosser 0 0 [.ref 0, .int v, .int q] (kJ I) (kZ I (s_ofCrosser r v q)) := by
  have hb := hC.bl
  have hT := hR.TX
  have h8 := hb.c8
  have h4 := hb.t4
  refine Ct.of (L := [some (.ref 0), some (.int v), some (.int q), none]) rfl rfl (Nat.le_of_ble_eq_true rfl) ?_
  refine al0 (n := 1) dX8_ofCrosser_0 rfl ?_
  refine il1 (n := 2) dX8_ofCrosser_1 rfl ?_
  refine qiX8_136 (n := 5) dX8_ofCrosser_2 rfl rfl (Nat.le_of_ble_eq_true rfl) (by omega) rfl (c_isCrosser (by omega) hb _) (Nat.le_refl _) (Nat.le_refl _) ?_
  refine k_ifb_ne (t := 14) (n := 8) dX8_ofCrosser_5 (by decide) rfl (fun h5 => ?_) (fun h5 => ?_)
  · obtain ⟨j, hj, rfl⟩ := kixc hb h5
    refine al0 (n := 15) dX8_ofCrosser_14 rfl ?_
    refine gX8_10 (n := 18) dX8_ofCrosser_15 rfl rfl rfl rfl ?_
    refine gX8_73 (n := 21) dX8_ofCrosser_18 rfl rfl rfl rfl ?_
    refine gX8_139 (n := 24) dX8_ofCrosser_21 rfl rfl (hS0 (Or.inl rfl)) (hP4 (Or.inl rfl)) ?_
    refine il1 (n := 25) dX8_ofCrosser_24 rfl ?_
    refine j_aald (j := j) (n := 26) dX8_ofCrosser_25 rfl (hS3 (Or.inl rfl)) hOC rfl (by omega) (by decide) (hP6 (Or.inl rfl) (by omega)) ?_
    refine as3 (n := 27) dX8_ofCrosser_26 rfl trivial ?_
    refine il2 (n := 28) dX8_ofCrosser_27 rfl ?_
    rcases ksw q 9 (by decide) with hq | ⟨k, hk, rfl⟩
    · refine k_swOut (t := 151) dX8_ofCrosser_28 hq (by decide) ?_
      refine al0 (n := 152) dX8_ofCrosser_151 rfl ?_
      refine k_iconst (a := 1) (n := 153) dX8_ofCrosser_152 rfl rfl ?_
      refine qiX8_69 (n := 156) dX8_ofCrosser_153 rfl rfl (Nat.le_of_ble_eq_true rfl) (by omega) rfl (c_refuse1 (by omega)) (Nat.le_refl _) (Nat.le_refl _) ?_
      refine k_ireturn (ty := .int) dX8_ofCrosser_156 rfl rfl (Nat.le_refl _) (Nat.le_refl _) ?_
      exact kZ.to (by simp only [s_ofCrosser, if_pos h5, if_neg (show ¬ (0 ≤ q ∧ q ≤ 9) from fun z => by
        rcases kbt (a := 0) (b := 9) z (by decide) (by decide) with ⟨g, -, hg, rfl⟩
        rw [nI_toInt (by omega)] at hq
        omega)]) (kZ_e1 hC (FX.rf _))
    · rcases (show k = 0 ∨ k = 1 ∨ k = 2 ∨ k = 3 ∨ k = 4 ∨ k = 5 ∨ k = 6 ∨ k = 7 ∨ k = 8 ∨ k = 9 by omega) with rfl | rfl | rfl | rfl | rfl | rfl | rfl | rfl | rfl | rfl
      · refine k_swIn (t := 84) (off := 56) dX8_ofCrosser_28 (by decide) (by decide) (by decide) (by decide) ?_
        refine al3 (n := 85) dX8_ofCrosser_84 rfl ?_
        refine gX8_143 (n := 88) dX8_ofCrosser_85 rfl rfl (hS8 (Or.inl rfl) (by omega)) ?_
        refine k_top (BL.cr0 hb hj) ?_
        refine k_ireturn (ty := .int) dX8_ofCrosser_88 rfl rfl (Nat.le_refl _) (Nat.le_refl _) ?_
        exact kZ.to (by simp only [s_ofCrosser, if_pos h5, kcl (show j < 1000 by omega), if_pos (show 0 ≤ nI 0 ∧ nI 0 ≤ 9 by decide), if_neg (show ¬ nI 0 = 7 by decide), if_neg (show ¬ nI 0 = 8 by decide), if_neg (show ¬ nI 0 = 9 by decide)]; rfl) (kZ_x hC (FX.rf _))
      · refine k_swIn (t := 89) (off := 61) dX8_ofCrosser_28 (by decide) (by decide) (by decide) (by decide) ?_
        refine al3 (n := 90) dX8_ofCrosser_89 rfl ?_
        refine gX8_148 (n := 93) dX8_ofCrosser_90 rfl rfl (hS8 (Or.inl rfl) (by omega)) ?_
        refine k_top (BL.cr hb hj (j := 1) (by decide)) ?_
        refine k_ireturn (ty := .int) dX8_ofCrosser_93 rfl rfl (Nat.le_refl _) (Nat.le_refl _) ?_
        exact kZ.to (by simp only [s_ofCrosser, if_pos h5, kcl (show j < 1000 by omega), if_pos (show 0 ≤ nI 1 ∧ nI 1 ≤ 9 by decide), if_neg (show ¬ nI 1 = 7 by decide), if_neg (show ¬ nI 1 = 8 by decide), if_neg (show ¬ nI 1 = 9 by decide)]; rfl) (kZ_x hC (FX.rf _))
      · refine k_swIn (t := 94) (off := 66) dX8_ofCrosser_28 (by decide) (by decide) (by decide) (by decide) ?_
        refine al3 (n := 95) dX8_ofCrosser_94 rfl ?_
        refine gX8_151 (n := 98) dX8_ofCrosser_95 rfl rfl (hS8 (Or.inl rfl) (by omega)) ?_
        refine k_top (BL.cr hb hj (j := 2) (by decide)) ?_
        refine k_ireturn (ty := .int) dX8_ofCrosser_98 rfl rfl (Nat.le_refl _) (Nat.le_refl _) ?_
        exact kZ.to (by simp only [s_ofCrosser, if_pos h5, kcl (show j < 1000 by omega), if_pos (show 0 ≤ nI 2 ∧ nI 2 ≤ 9 by decide), if_neg (show ¬ nI 2 = 7 by decide), if_neg (show ¬ nI 2 = 8 by decide), if_neg (show ¬ nI 2 = 9 by decide)]; rfl) (kZ_x hC (FX.rf _))
      · refine k_swIn (t := 99) (off := 71) dX8_ofCrosser_28 (by decide) (by decide) (by decide) (by decide) ?_
        refine al3 (n := 100) dX8_ofCrosser_99 rfl ?_
        refine gX8_154 (n := 103) dX8_ofCrosser_100 rfl rfl (hS8 (Or.inl rfl) (by omega)) ?_
        refine k_top (BL.cr hb hj (j := 3) (by decide)) ?_
        refine k_ireturn (ty := .int) dX8_ofCrosser_103 rfl rfl (Nat.le_refl _) (Nat.le_refl _) ?_
        exact kZ.to (by simp only [s_ofCrosser, if_pos h5, kcl (show j < 1000 by omega), if_pos (show 0 ≤ nI 3 ∧ nI 3 ≤ 9 by decide), if_neg (show ¬ nI 3 = 7 by decide), if_neg (show ¬ nI 3 = 8 by decide), if_neg (show ¬ nI 3 = 9 by decide)]; rfl) (kZ_x hC (FX.rf _))
      · refine k_swIn (t := 104) (off := 76) dX8_ofCrosser_28 (by decide) (by decide) (by decide) (by decide) ?_
        refine al3 (n := 105) dX8_ofCrosser_104 rfl ?_
        refine gX8_157 (n := 108) dX8_ofCrosser_105 rfl rfl (hS8 (Or.inl rfl) (by omega)) ?_
        refine k_top (BL.cr hb hj (j := 4) (by decide)) ?_
        refine k_ireturn (ty := .int) dX8_ofCrosser_108 rfl rfl (Nat.le_refl _) (Nat.le_refl _) ?_
        exact kZ.to (by simp only [s_ofCrosser, if_pos h5, kcl (show j < 1000 by omega), if_pos (show 0 ≤ nI 4 ∧ nI 4 ≤ 9 by decide), if_neg (show ¬ nI 4 = 7 by decide), if_neg (show ¬ nI 4 = 8 by decide), if_neg (show ¬ nI 4 = 9 by decide)]; rfl) (kZ_x hC (FX.rf _))
      · refine k_swIn (t := 109) (off := 81) dX8_ofCrosser_28 (by decide) (by decide) (by decide) (by decide) ?_
        refine al3 (n := 110) dX8_ofCrosser_109 rfl ?_
        refine gX8_160 (n := 113) dX8_ofCrosser_110 rfl rfl (hS8 (Or.inl rfl) (by omega)) ?_
        refine k_top (BL.cr hb hj (j := 5) (by decide)) ?_
        refine k_ireturn (ty := .int) dX8_ofCrosser_113 rfl rfl (Nat.le_refl _) (Nat.le_refl _) ?_
        exact kZ.to (by simp only [s_ofCrosser, if_pos h5, kcl (show j < 1000 by omega), if_pos (show 0 ≤ nI 5 ∧ nI 5 ≤ 9 by decide), if_neg (show ¬ nI 5 = 7 by decide), if_neg (show ¬ nI 5 = 8 by decide), if_neg (show ¬ nI 5 = 9 by decide)]; rfl) (kZ_x hC (FX.rf _))
      · refine k_swIn (t := 114) (off := 86) dX8_ofCrosser_28 (by decide) (by decide) (by decide) (by decide) ?_
        refine al3 (n := 115) dX8_ofCrosser_114 rfl ?_
        refine gX8_163 (n := 118) dX8_ofCrosser_115 rfl rfl (hS8 (Or.inl rfl) (by omega)) ?_
        refine k_top (BL.cr hb hj (j := 6) (by decide)) ?_
        refine k_ireturn (ty := .int) dX8_ofCrosser_118 rfl rfl (Nat.le_refl _) (Nat.le_refl _) ?_
        exact kZ.to (by simp only [s_ofCrosser, if_pos h5, kcl (show j < 1000 by omega), if_pos (show 0 ≤ nI 6 ∧ nI 6 ≤ 9 by decide), if_neg (show ¬ nI 6 = 7 by decide), if_neg (show ¬ nI 6 = 8 by decide), if_neg (show ¬ nI 6 = 9 by decide)]; rfl) (kZ_x hC (FX.rf _))
      · refine k_swIn (t := 119) (off := 91) dX8_ofCrosser_28 (by decide) (by decide) (by decide) (by decide) ?_
        refine al0 (n := 120) dX8_ofCrosser_119 rfl ?_
        refine gX8_10 (n := 123) dX8_ofCrosser_120 rfl rfl rfl rfl ?_
        refine gX8_73 (n := 126) dX8_ofCrosser_123 rfl rfl rfl rfl ?_
        refine al3 (n := 127) dX8_ofCrosser_126 rfl ?_
        refine qX8_166 (n := 130) dX8_ofCrosser_127 rfl rfl (Nat.le_of_ble_eq_true rfl) (by omega) (Nat.le_refl _) (Nat.le_refl _) (hS0 (Or.inl rfl)) (c_needsOf (by omega) (Or.inl rfl) hb hR j hj) ?_
        rintro _ _ ⟨I1, rfl, rfl, hb1, hg1⟩
        dsimp only [Option.toList, List.cons_append, List.nil_append, Nat.add_zero]
        have hf1 := hg1
        refine k_ireturn (ty := .int) dX8_ofCrosser_130 rfl rfl (Nat.le_refl _) (Nat.le_refl _) ?_
        exact kZ.to (by simp only [s_ofCrosser, if_pos h5, kcl (show j < 1000 by omega), if_pos (show 0 ≤ nI 7 ∧ nI 7 ≤ 9 by decide), if_pos (show nI 7 = 7 from rfl)]) (kZ_x (hC.bd hb1 hf1 (RO.rf _)) (FX.bd hf1))
      · refine k_swIn (t := 131) (off := 103) dX8_ofCrosser_28 (by decide) (by decide) (by decide) (by decide) ?_
        refine al3 (n := 132) dX8_ofCrosser_131 rfl ?_
        refine qiX8_170 (n := 135) dX8_ofCrosser_132 rfl rfl (Nat.le_of_ble_eq_true rfl) (by omega) (hS8 (Or.inl rfl) (by omega)) (c_wears (Or.inl rfl) hb hR j hj) (Nat.le_refl _) (Nat.le_refl _) ?_
        refine k_ireturn (ty := .int) dX8_ofCrosser_135 rfl rfl (Nat.le_refl _) (Nat.le_refl _) ?_
        exact kZ.to (by simp only [s_ofCrosser, if_pos h5, kcl (show j < 1000 by omega), if_pos (show 0 ≤ nI 8 ∧ nI 8 ≤ 9 by decide), if_neg (show ¬ nI 8 = 7 by decide), if_pos (show nI 8 = 8 from rfl)]) (kZ_x hC (FX.rf _))
      · refine k_swIn (t := 136) (off := 108) dX8_ofCrosser_28 (by decide) (by decide) (by decide) (by decide) ?_
        refine al0 (n := 137) dX8_ofCrosser_136 rfl ?_
        refine gX8_10 (n := 140) dX8_ofCrosser_137 rfl rfl rfl rfl ?_
        refine gX8_73 (n := 143) dX8_ofCrosser_140 rfl rfl rfl rfl ?_
        refine il1 (n := 144) dX8_ofCrosser_143 rfl ?_
        refine qiX8_174 (n := 147) dX8_ofCrosser_144 rfl rfl (Nat.le_of_ble_eq_true rfl) (by omega) (hS0 (Or.inl rfl)) (c_isGoing (Or.inl rfl) hb _) (Nat.le_refl _) (Nat.le_refl _) ?_
        refine qiX8_122 (n := 150) dX8_ofCrosser_147 rfl rfl (Nat.le_of_ble_eq_true rfl) (by omega) (c_asN _ (by first | exact Or.inl rfl | exact Or.inr rfl | exact kb_01 _)) (Nat.le_refl _) (Nat.le_refl _) ?_
        refine k_ireturn (ty := .int) dX8_ofCrosser_150 rfl rfl (Nat.le_refl _) (Nat.le_refl _) ?_
        by_cases hg : (r 12 >>> (nI j &&& 31)) &&& 1 = 1
        · rw [kb_t hg]
          exact kZ.to (by simp only [s_ofCrosser, if_pos h5, kcl (show j < 1000 by omega), if_pos (show 0 ≤ nI 9 ∧ nI 9 ≤ 9 by decide), if_neg (show ¬ nI 9 = 7 by decide), if_neg (show ¬ nI 9 = 8 by decide), if_pos (show nI 9 = 9 from rfl), if_pos hg]) (kZ_x hC (FX.rf _))
        · rw [kb_f hg]
          exact kZ.to (by simp only [s_ofCrosser, if_pos h5, kcl (show j < 1000 by omega), if_pos (show 0 ≤ nI 9 ∧ nI 9 ≤ 9 by decide), if_neg (show ¬ nI 9 = 7 by decide), if_neg (show ¬ nI 9 = 8 by decide), if_pos (show nI 9 = 9 from rfl), if_neg hg]) (kZ_x hC (FX.rf _))
  · refine al0 (n := 9) dX8_ofCrosser_8 rfl ?_
    refine k_iconst (a := 1) (n := 10) dX8_ofCrosser_9 rfl rfl ?_
    refine qiX8_69 (n := 13) dX8_ofCrosser_10 rfl rfl (Nat.le_of_ble_eq_true rfl) (by omega) rfl (c_refuse1 (by omega)) (Nat.le_refl _) (Nat.le_refl _) ?_
    refine k_ireturn (ty := .int) dX8_ofCrosser_13 rfl rfl (Nat.le_refl _) (Nat.le_refl _) ?_
    exact kZ.to (by simp only [s_ofCrosser, if_neg h5]) (kZ_e1 hC (FX.rf _))
theorem c_givesU (hd : 1 ≤ d) (hb : BL 8 I r c t) (u : Nat) (hu : u < 2) (x y z : Int32) : Ct E d mX3_gives 0 0 [.ref (2 + 3 * u), .int x, .int y, .int z] (kJ I) (kBi (lawF r u x y z) 8 I r c t) := by
  rcases (show u = 0 ∨ u = 1 by omega) with rfl | rfl
  · exact c_gives0 hd (Or.inl rfl) hb x y z
  · exact c_gives1 hd (Or.inl rfl) hb x y z
theorem hL3 {u : Nat} (hu : u < 2) : SS[2 + 3 * u]? = some (3, 5) := by rcases (show u = 0 ∨ u = 1 by omega) with rfl | rfl <;> rfl
set_option maxHeartbeats 2000000 in
set_option maxRecDepth 20000 in
theorem c_lawOf (u : Nat) (hu : u < 2) : Ct E d mX2_lawOf 0 0 [.ref 1, .int (nI u)] (kJ I) (fun v M => v = some (.ref (2 + 3 * u)) ∧ M = kJ I) := by
  refine Ct.of (L := [some (.ref 1), some (.int (nI u))]) rfl rfl (Nat.le_of_ble_eq_true rfl) ?_
  refine il1 (n := 1) dX2_lawOf_0 rfl ?_
  refine k_if_ne (t := 11) (n := 4) dX2_lawOf_1 (by decide) rfl (fun h1 => ?_) (fun h1 => ?_)
  · have eu : u = 1 := by
      rcases (show u = 0 ∨ u = 1 by omega) with rfl | rfl
      · exact absurd rfl h1
      · rfl
    subst eu
    refine al0 (n := 12) dX2_lawOf_11 rfl ?_
    refine gX2_27 (n := 15) dX2_lawOf_12 rfl rfl rfl rfl ?_
    refine k_areturn dX2_lawOf_15 rfl (Nat.le_refl _) (Nat.le_refl _) ?_
    exact ⟨rfl, rfl⟩
  · have eu : u = 0 := by
      rcases (show u = 0 ∨ u = 1 by omega) with rfl | rfl
      · rfl
      · exact absurd h1 (by decide)
    subst eu
    refine al0 (n := 5) dX2_lawOf_4 rfl ?_
    refine gX2_18 (n := 8) dX2_lawOf_5 rfl rfl rfl rfl ?_
    refine k_goto (n := 15) dX2_lawOf_8 (by decide) ?_
    refine k_areturn dX2_lawOf_15 rfl (Nat.le_refl _) (Nat.le_refl _) ?_
    exact ⟨rfl, rfl⟩
set_option maxHeartbeats 2000000 in
set_option maxRecDepth 20000 in
theorem c_law (hd : 2 ≤ d) (hC : CR I r c t) (hR : RI r) (hX : RX r) (v x y z : Int32) : Ct E d mX8_law 0 0 [.ref 0, .int v, .int x, .int y, .int z] (kJ I) (kZ I (s_law r v x y z)) := by
  have hb := hC.bl
  have hT := hR.TX
  have h8 := hb.c8
  have h4 := hb.t4
  refine Ct.of (L := [some (.ref 0), some (.int v), some (.int x), some (.int y), some (.int z)]) rfl rfl (Nat.le_of_ble_eq_true rfl) ?_
  refine il1 (n := 1) dX8_law_0 rfl ?_
  refine qiX8_199 (n := 4) dX8_law_1 rfl rfl (Nat.le_of_ble_eq_true rfl) (by omega) (c_isUse _) (Nat.le_refl _) (Nat.le_refl _) ?_
  refine k_ifb_eq (t := 25) (n := 7) dX8_law_4 (by decide) rfl (fun h4_ => ?_) (fun h4_ => ?_)
  · refine al0 (n := 26) dX8_law_25 rfl ?_
    refine k_iconst (a := 1) (n := 27) dX8_law_26 rfl rfl ?_
    refine qiX8_69 (n := 30) dX8_law_27 rfl rfl (Nat.le_of_ble_eq_true rfl) (by omega) rfl (c_refuse1 (by omega)) (Nat.le_refl _) (Nat.le_refl _) ?_
    refine k_ireturn (ty := .int) dX8_law_30 rfl rfl (Nat.le_refl _) (Nat.le_refl _) ?_
    exact kZ.to (by simp only [s_law, if_neg h4_]) (kZ_e1 hC (FX.rf _))
  · obtain ⟨u, -, hu, rfl⟩ := kbt (a := 0) (b := 1) h4_ (by decide) (by decide)
    refine al0 (n := 8) dX8_law_7 rfl ?_
    refine gX8_10 (n := 11) dX8_law_8 rfl rfl rfl rfl ?_
    refine il1 (n := 12) dX8_law_11 rfl ?_
    refine qX8_208 (n := 15) dX8_law_12 rfl rfl (Nat.le_of_ble_eq_true rfl) (by omega) (Nat.le_refl _) (Nat.le_refl _) rfl (c_lawOf u (by omega)) ?_
    rintro _ _ ⟨rfl, rfl⟩
    dsimp only [Option.toList, List.cons_append, List.nil_append, Nat.add_zero]
    refine il2 (n := 16) dX8_law_15 rfl ?_
    refine il3 (n := 17) dX8_law_16 rfl ?_
    refine il4 (n := 19) dX8_law_17 rfl ?_
    refine qX8_224 (n := 22) dX8_law_19 rfl rfl (Nat.le_of_ble_eq_true rfl) (by omega) (Nat.le_refl _) (Nat.le_refl _) (hL3 (by omega)) (c_givesU (by omega) hb u (by omega) _ _ _) ?_
    rintro _ _ ⟨I1, rfl, rfl, hb1, hg1⟩
    dsimp only [Option.toList, List.cons_append, List.nil_append, Nat.add_zero]
    have hf1 := hg1
    refine k_goto (n := 30) dX8_law_22 (by decide) ?_
    refine k_ireturn (ty := .int) dX8_law_30 rfl rfl (Nat.le_refl _) (Nat.le_refl _) ?_
    exact kZ.to (by simp only [s_law, if_pos h4_, kcl (show u < 1000 by omega)]) (kZ_x (hC.bd hb1 hf1 (RO.rf _)) (FX.bd hf1))
set_option maxHeartbeats 2000000 in
set_option maxRecDepth 20000 in
theorem c_beats (hd : 7 ≤ d) (hC : CR I r c t) (hR : RI r) (hX : RX r) (v : Int32) : Ct E d mX8_beats 0 0 [.ref 0, .int v] (kJ I) (kZ I (s_beats r v)) := by
  have hb := hC.bl
  have hT := hR.TX
  have h8 := hb.c8
  have h4 := hb.t4
  refine Ct.of (L := [some (.ref 0), some (.int v)]) rfl rfl (Nat.le_of_ble_eq_true rfl) ?_
  refine il1 (n := 1) dX8_beats_0 rfl ?_
  refine k_iconst (a := 1) (n := 2) dX8_beats_1 rfl rfl ?_
  refine k_sipush (a := 200) (n := 5) dX8_beats_2 rfl rfl ?_
  refine qiX8_65 (n := 8) dX8_beats_5 rfl rfl (Nat.le_of_ble_eq_true rfl) (by omega) (c_within _ _ _) (Nat.le_refl _) (Nat.le_refl _) ?_
  refine k_ifb_ne (t := 17) (n := 11) dX8_beats_8 (by decide) rfl (fun h8_ => ?_) (fun h8_ => ?_)
  · obtain ⟨k, hk1, hk, rfl⟩ := kbt (a := 1) (b := 200) h8_ (by decide) (by decide)
    refine al0 (n := 18) dX8_beats_17 rfl ?_
    refine gX8_10 (n := 21) dX8_beats_18 rfl rfl rfl rfl ?_
    refine gX8_73 (n := 24) dX8_beats_21 rfl rfl rfl rfl ?_
    refine gX8_227 (n := 27) dX8_beats_24 rfl rfl (hS0 (Or.inl rfl)) ?_
    refine k_top (BL.f8 hb) ?_
    refine il1 (n := 28) dX8_beats_27 rfl ?_
    refine k_iadd (n := 29) dX8_beats_28 rfl ?_
    refine cX8_230 (n := 31) dX8_beats_29 rfl rfl ?_
    refine k_icmp_le (t := 40) (n := 34) dX8_beats_31 (by decide) rfl (fun h31 => ?_) (fun h31 => ?_)
    · refine al0 (n := 41) dX8_beats_40 rfl ?_
      refine gX8_10 (n := 44) dX8_beats_41 rfl rfl rfl rfl ?_
      refine gX8_73 (n := 47) dX8_beats_44 rfl rfl rfl rfl ?_
      refine il1 (n := 48) dX8_beats_47 rfl ?_
      refine qX8_231 (n := 51) dX8_beats_48 rfl rfl (Nat.le_of_ble_eq_true rfl) (by omega) (Nat.le_refl _) (Nat.le_refl _) (hS0 (Or.inl rfl)) (c_for (by omega) (Or.inl rfl) hb hR hX k (by omega)) ?_
      rintro _ _ ⟨I1, rfl, rfl, hb1, hg1⟩
      dsimp only [Option.toList, List.cons_append, List.nil_append, Nat.add_zero]
      have hf1 := hg1
      refine al0 (n := 52) dX8_beats_51 rfl ?_
      refine gX8_10 (n := 55) dX8_beats_52 rfl rfl rfl rfl ?_
      refine gX8_73 (n := 58) dX8_beats_55 rfl rfl rfl rfl ?_
      refine k_iconst (a := 2) (n := 59) dX8_beats_58 rfl rfl ?_
      refine qiX8_234 (n := 62) dX8_beats_59 rfl rfl (Nat.le_of_ble_eq_true rfl) (by omega) (hS0 (Or.inl rfl)) (c_countOf (by omega) (Or.inl rfl) hb1 2) (Nat.le_refl _) (Nat.le_refl _) ?_
      refine k_ireturn (ty := .int) dX8_beats_62 rfl rfl (Nat.le_refl _) (Nat.le_refl _) ?_
      exact kZ.to (by simp only [s_beats, if_pos h8_, kcl (show k < 1000 by omega), if_pos h31]) (kZ_x (hC.bd hb1 hf1 (RO.pass hR k)) (FX.bd hf1))
    · refine al0 (n := 35) dX8_beats_34 rfl ?_
      refine k_iconst (a := 3) (n := 36) dX8_beats_35 rfl rfl ?_
      refine qiX8_69 (n := 39) dX8_beats_36 rfl rfl (Nat.le_of_ble_eq_true rfl) (by omega) rfl (c_refuse3 (by omega)) (Nat.le_refl _) (Nat.le_refl _) ?_
      refine k_ireturn (ty := .int) dX8_beats_39 rfl rfl (Nat.le_refl _) (Nat.le_refl _) ?_
      exact kZ.to (by simp only [s_beats, if_pos h8_, kcl (show k < 1000 by omega), if_neg h31]) (kZ_e3 hC (FX.rf _))
  · refine al0 (n := 12) dX8_beats_11 rfl ?_
    refine k_iconst (a := 1) (n := 13) dX8_beats_12 rfl rfl ?_
    refine qiX8_69 (n := 16) dX8_beats_13 rfl rfl (Nat.le_of_ble_eq_true rfl) (by omega) rfl (c_refuse1 (by omega)) (Nat.le_refl _) (Nat.le_refl _) ?_
    refine k_ireturn (ty := .int) dX8_beats_16 rfl rfl (Nat.le_refl _) (Nat.le_refl _) ?_
    exact kZ.to (by simp only [s_beats, if_neg h8_]) (kZ_e1 hC (FX.rf _))
def kW (I : Nat → Nat → Int32) (q : Nat → Int32) (c t : Nat) : Option Value → kM → Prop := fun v M => ∃ J, v = none ∧ M = kJ J ∧ CR J q c t ∧ FX I J
theorem RX_gos {r : Nat → Int32} (hX : RX r) : RX (gosF r) := by
  unfold gosF
  split
  · exact hX
  · exact RX_lo (RX_lo hX (by omega) _ (by omega) (by omega)) (by omega) _ (by omega) (by omega)
theorem RX_loo {r : Nat → Int32} (hR : RI r) (hX : RX r) : ∀ n, RX (looF n r)
  | 0 => hX
  | n + 1 => RX_beat (RI_gos (RI_loo hR n)) (RX_gos (RX_loo hR hX n))
set_option maxHeartbeats 2000000 in
set_option maxRecDepth 20000 in
theorem c_draw (hC : CR I r c t) (hR : RI r) : Ct E d mX8_drawWhoGoes 0 0 [.ref 0] (kJ I) (kW I (gosF r) c t) := by
  have hb := hC.bl
  have hT := hR.TX
  refine Ct.of (L := [some (.ref 0), none]) rfl rfl (Nat.le_of_ble_eq_true rfl) ?_
  refine al0 (n := 1) dX8_drawWhoGoes_0 rfl ?_
  refine gX8_10 (n := 4) dX8_drawWhoGoes_1 rfl rfl rfl rfl ?_
  refine gX8_73 (n := 7) dX8_drawWhoGoes_4 rfl rfl rfl rfl ?_
  refine gX8_76 (n := 10) dX8_drawWhoGoes_7 rfl rfl (hS0 (Or.inl rfl)) ?_
  refine k_top (BL.f11 hb) ?_
  refine is1 (n := 11) dX8_drawWhoGoes_10 rfl trivial ?_
  refine il1 (n := 12) dX8_drawWhoGoes_11 rfl ?_
  refine k_if_le (t := 66) (n := 15) dX8_drawWhoGoes_12 (by decide) rfl (fun h12 => ?_) (fun h12 => ?_)
  · exact k_return dX8_drawWhoGoes_66 rfl (Nat.le_refl _) (Nat.le_refl _) ⟨I, rfl, rfl, (by rw [gosF, if_pos h12]; exact hC), FX.rf _⟩
  · refine al0 (n := 16) dX8_drawWhoGoes_15 rfl ?_
    refine gX8_10 (n := 19) dX8_drawWhoGoes_16 rfl rfl rfl rfl ?_
    refine al0 (n := 20) dX8_drawWhoGoes_19 rfl ?_
    refine gX8_10 (n := 23) dX8_drawWhoGoes_20 rfl rfl rfl rfl ?_
    refine gX8_294 (n := 26) dX8_drawWhoGoes_23 rfl rfl rfl ?_
    refine k_top (CR.g7 hC) ?_
    refine cwX8_354 (n := 29) dX8_drawWhoGoes_26 rfl rfl ?_
    refine k_imul (n := 30) dX8_drawWhoGoes_29 rfl ?_
    refine k_sipush (a := 12345) (n := 33) dX8_drawWhoGoes_30 rfl rfl ?_
    refine k_iadd (n := 34) dX8_drawWhoGoes_33 rfl ?_
    refine pX8_294 (n := 37) dX8_drawWhoGoes_34 rfl rfl rfl ?_
    refine k_gen (fun I1 e1 => ?_)
    have hC1 : CR I1 (drwF r) c t := hC.p7 hT e1
    have hb1 := hC1.bl
    have hT1 : TX (drwF r) := hT.u (by omega)
    refine al0 (n := 38) dX8_drawWhoGoes_37 rfl ?_
    refine gX8_10 (n := 41) dX8_drawWhoGoes_38 rfl rfl rfl rfl ?_
    refine gX8_73 (n := 44) dX8_drawWhoGoes_41 rfl rfl rfl rfl ?_
    refine k_dup (n := 45) dX8_drawWhoGoes_44 rfl rfl ?_
    refine gX8_190 (n := 48) dX8_drawWhoGoes_45 rfl rfl (hS0 (Or.inl rfl)) ?_
    refine k_top ((BL.f12 hb1).trans (pk_un (by decide))) ?_
    refine k_iconst (a := 1) (n := 49) dX8_drawWhoGoes_48 rfl rfl ?_
    refine al0 (n := 50) dX8_drawWhoGoes_49 rfl ?_
    refine gX8_10 (n := 53) dX8_drawWhoGoes_50 rfl rfl rfl rfl ?_
    refine gX8_294 (n := 56) dX8_drawWhoGoes_53 rfl rfl rfl ?_
    refine k_top (CR.g7 hC1) ?_
    refine k_bipush (a := 8) (n := 58) dX8_drawWhoGoes_56 rfl rfl ?_
    refine k_iushr (n := 59) dX8_drawWhoGoes_58 rfl ?_
    refine il1 (n := 60) dX8_drawWhoGoes_59 rfl ?_
    refine k_irem (n := 61) dX8_drawWhoGoes_60 rfl (fun z => h12 (by rw [z]; decide)) ?_
    refine k_ishl (n := 62) dX8_drawWhoGoes_61 rfl ?_
    refine k_ixor (n := 63) dX8_drawWhoGoes_62 rfl ?_
    refine pX8_190 (n := 66) dX8_drawWhoGoes_63 rfl rfl (hS0 (Or.inl rfl)) ?_
    refine k_gen (fun I2 e2 => ?_)
    have hb2 := BL.sf12 hb1 (Or.inl rfl) hT1 e2
    have hT2 := TX.ob hb2 hT1 (by omega)
    have hf2 := (FB.b e2)
    refine k_return dX8_drawWhoGoes_66 rfl (Nat.le_refl _) (Nat.le_refl _) ?_
    exact ⟨I2, rfl, rfl, (by rw [gosF, if_neg h12]; exact hC1.bd hb2 hf2 (by repeat' first | exact RO.rf _ | refine RO.u ?_ (by omega))), (FX.k1 e1 (by decide)).tr (FX.bd hf2)⟩
set_option maxHeartbeats 2000000 in
set_option maxRecDepth 20000 in
theorem c_loose_l (hd : 6 ≤ d) (hR : RI r) (hX : RX r) (k : Nat) (hk : k ≤ 40) (Q : Option Value → kM → Prop) (hQ : ∀ K, CR K (looF k r) c t → FX I K → Q (some (.int (cntF (looF k r) 2))) (kJ K)) (m : Nat) : ∀ (i : Nat) (J : Nat → Nat → Int32), CR J (looF i r) c t → FX I J → i + m = k → Wd E d mX8_loose 0 0 0 0 41 [some (.ref 0), some (.int (nI k)), some (.int (nI i))] [] (kJ J) Q := by
  induction m with
  | zero =>
    intro i J hC hf hi
    have e : i = k := by omega
    subst e
    have hb := hC.bl
    refine il2 (n := 42) dX8_loose_41 rfl ?_
    refine il1 (n := 43) dX8_loose_42 rfl ?_
    refine k_icmp_ge (t := 66) (n := 46) dX8_loose_43 (by decide) rfl (fun h43 => ?_) (fun h43 => ?_)
    · refine al0 (n := 67) dX8_loose_66 rfl ?_
      refine gX8_10 (n := 70) dX8_loose_67 rfl rfl rfl rfl ?_
      refine gX8_73 (n := 73) dX8_loose_70 rfl rfl rfl rfl ?_
      refine k_iconst (a := 2) (n := 74) dX8_loose_73 rfl rfl ?_
      refine qiX8_234 (n := 77) dX8_loose_74 rfl rfl (Nat.le_of_ble_eq_true rfl) (by omega) (hS0 (Or.inl rfl)) (c_countOf (by omega) (Or.inl rfl) hb 2) (Nat.le_refl _) (Nat.le_refl _) ?_
      refine k_ireturn (ty := .int) dX8_loose_77 rfl rfl (Nat.le_refl _) (Nat.le_refl _) ?_
      exact hQ J hC hf
    · exact absurd (Int32.le_refl _) h43
  | succ m ih =>
    intro i J hC hf hi
    have hRi := RI_loo hR i
    have hXi := RX_loo hR hX i
    have hb := hC.bl
    refine il2 (n := 42) dX8_loose_41 rfl ?_
    refine il1 (n := 43) dX8_loose_42 rfl ?_
    refine k_icmp_ge (t := 66) (n := 46) dX8_loose_43 (by decide) rfl (fun h43 => ?_) (fun h43 => ?_)
    · exact absurd h43 (nI_ge (by omega) (by omega))
    · refine al0 (n := 47) dX8_loose_46 rfl ?_
      refine qX8_237 (n := 50) dX8_loose_47 rfl rfl (Nat.le_of_ble_eq_true rfl) (by omega) (Nat.le_refl _) (Nat.le_refl _) rfl (c_draw hC hRi) ?_
      rintro _ _ ⟨K, rfl, rfl, hCK, hXK⟩
      dsimp only [Option.toList, List.nil_append, Nat.add_zero]
      have hbK := hCK.bl
      refine al0 (n := 51) dX8_loose_50 rfl ?_
      refine gX8_10 (n := 54) dX8_loose_51 rfl rfl rfl rfl ?_
      refine gX8_73 (n := 57) dX8_loose_54 rfl rfl rfl rfl ?_
      refine qX8_240 (n := 60) dX8_loose_57 rfl rfl (Nat.le_of_ble_eq_true rfl) (by omega) (Nat.le_refl _) (Nat.le_refl _) (hS0 (Or.inl rfl)) (c_once (by omega) (Or.inl rfl) hbK (RI_gos hRi) (RX_gos hXi)) ?_
      rintro _ _ ⟨I1, rfl, rfl, hb1, hg1⟩
      dsimp only [Option.toList, List.cons_append, List.nil_append, Nat.add_zero]
      have hf1 := hg1
      refine ii2 (n := 63) dX8_loose_60 rfl (ki1 _) trivial ?_
      rw [nI_1]
      refine k_goto (n := 41) dX8_loose_63 (by decide) ?_
      exact ih (i + 1) I1 (hCK.bd hb1 hf1 (RO.beat (RI_gos hRi))) (hf.tr (hXK.tr (FX.bd hf1))) (by omega)
set_option maxHeartbeats 2000000 in
set_option maxRecDepth 20000 in
theorem c_loose (hd : 7 ≤ d) (hC : CR I r c t) (hR : RI r) (hX : RX r) (v : Int32) : Ct E d mX8_loose 0 0 [.ref 0, .int v] (kJ I) (kZ I (s_loose r v)) := by
  have hb := hC.bl
  have hT := hR.TX
  have h8 := hb.c8
  have h4 := hb.t4
  refine Ct.of (L := [some (.ref 0), some (.int v), none]) rfl rfl (Nat.le_of_ble_eq_true rfl) ?_
  refine il1 (n := 1) dX8_loose_0 rfl ?_
  refine k_iconst (a := 1) (n := 2) dX8_loose_1 rfl rfl ?_
  refine k_bipush (a := 40) (n := 4) dX8_loose_2 rfl rfl ?_
  refine qiX8_65 (n := 7) dX8_loose_4 rfl rfl (Nat.le_of_ble_eq_true rfl) (by omega) (c_within _ _ _) (Nat.le_refl _) (Nat.le_refl _) ?_
  refine k_ifb_ne (t := 16) (n := 10) dX8_loose_7 (by decide) rfl (fun h7 => ?_) (fun h7 => ?_)
  · obtain ⟨k, hk1, hk, rfl⟩ := kbt (a := 1) (b := 40) h7 (by decide) (by decide)
    refine al0 (n := 17) dX8_loose_16 rfl ?_
    refine gX8_10 (n := 20) dX8_loose_17 rfl rfl rfl rfl ?_
    refine gX8_73 (n := 23) dX8_loose_20 rfl rfl rfl rfl ?_
    refine gX8_227 (n := 26) dX8_loose_23 rfl rfl (hS0 (Or.inl rfl)) ?_
    refine k_top (BL.f8 hb) ?_
    refine il1 (n := 27) dX8_loose_26 rfl ?_
    refine k_iadd (n := 28) dX8_loose_27 rfl ?_
    refine cX8_230 (n := 30) dX8_loose_28 rfl rfl ?_
    refine k_icmp_le (t := 39) (n := 33) dX8_loose_30 (by decide) rfl (fun h30 => ?_) (fun h30 => ?_)
    · refine k_iconst (a := 0) (n := 40) dX8_loose_39 rfl rfl ?_
      refine is2 (n := 41) dX8_loose_40 rfl trivial ?_
      exact c_loose_l (by omega) hR hX k hk _ (fun K hK hf => kZ.to (by simp only [s_loose, if_pos h7, kcl (show k < 1000 by omega), if_pos h30]) (kZ_x hK hf)) k 0 I hC (FX.rf _) (by omega)
    · refine al0 (n := 34) dX8_loose_33 rfl ?_
      refine k_iconst (a := 3) (n := 35) dX8_loose_34 rfl rfl ?_
      refine qiX8_69 (n := 38) dX8_loose_35 rfl rfl (Nat.le_of_ble_eq_true rfl) (by omega) rfl (c_refuse3 (by omega)) (Nat.le_refl _) (Nat.le_refl _) ?_
      refine k_ireturn (ty := .int) dX8_loose_38 rfl rfl (Nat.le_refl _) (Nat.le_refl _) ?_
      exact kZ.to (by simp only [s_loose, if_pos h7, kcl (show k < 1000 by omega), if_neg h30]) (kZ_e3 hC (FX.rf _))
  · refine al0 (n := 11) dX8_loose_10 rfl ?_
    refine k_iconst (a := 1) (n := 12) dX8_loose_11 rfl rfl ?_
    refine qiX8_69 (n := 15) dX8_loose_12 rfl rfl (Nat.le_of_ble_eq_true rfl) (by omega) rfl (c_refuse1 (by omega)) (Nat.le_refl _) (Nat.le_refl _) ?_
    refine k_ireturn (ty := .int) dX8_loose_15 rfl rfl (Nat.le_refl _) (Nat.le_refl _) ?_
    exact kZ.to (by simp only [s_loose, if_neg h7]) (kZ_e1 hC (FX.rf _))
theorem fd_bv (v : BitVec 64) (n : Nat) (hn : n ≤ 56) : ((v >>> n).signExtend 32) &&& 255#32 = ((v.sshiftRight n) &&& 255#64).signExtend 32 := by
  apply BitVec.eq_of_getLsbD_eq
  intro j hj
  have h32 : ∀ j, j < 32 → (255#32).getLsbD j = decide (j < 8) := by decide
  have h64 : ∀ j, j < 32 → (255#64).getLsbD j = decide (j < 8) := by decide
  rw [BitVec.getLsbD_and, BitVec.getLsbD_signExtend, BitVec.getLsbD_signExtend, BitVec.getLsbD_and, h32 j hj, h64 j hj, BitVec.getLsbD_ushiftRight, BitVec.getLsbD_sshiftRight]
  by_cases h8 : j < 8
  · rw [if_pos (show j < 64 by omega), if_pos (show j < 64 by omega), if_pos (show n + j < 64 by omega)]
    simp [hj, h8]
    omega
  · simp [h8]
    intro a b
    omega
theorem fd_b (x : Int64) : ∀ i, i < 8 → (((x.toUInt64 >>> ((8 * nI i).toInt64.toUInt64 &&& Int64.toUInt64 63)).toInt64).toInt32 &&& 255) = fdB x i := by
  intro i hi
  unfold fdB
  rw [show (8 : Int32) * nI i = nI (8 * i) from pk_mul 8 i]
  have key : ∀ (A : UInt64) (B : Int64) (n : Nat), (A % 64).toBitVec.toNat = n → (B.toBitVec.smod 64).toNat = n → n ≤ 56 → (((x.toUInt64 >>> A).toInt64).toInt32 &&& 255) = ((x >>> B) &&& 255).toInt32 := by
    intro A B n h1 h2 hn
    apply Int32.toBitVec_inj.mp
    have h := fd_bv x.toBitVec n hn
    show ((x.toBitVec >>> (A % 64).toBitVec.toNat).signExtend 32) &&& 255#32 = ((x.toBitVec.sshiftRight (B.toBitVec.smod 64).toNat) &&& 255#64).signExtend 32
    rw [h1, h2]
    exact h
  have e : ∀ i, i < 8 → (((nI (8 * i)).toInt64.toUInt64 &&& Int64.toUInt64 63) % 64).toBitVec.toNat = 8 * i ∧ (((nI (8 * i)).toInt64 &&& 63).toBitVec.smod 64).toNat = 8 * i := by decide +kernel
  exact key _ _ (8 * i) (e i hi).1 (e i hi).2 (by omega)
theorem fdR_out (r : Nat → Int32) (x : Int64) {k : Nat} (h4 : k ≠ 4) (h : k < 85) : ∀ i, fdR r x i k = r k
  | 0 => rfl
  | i + 1 => by rw [fdR, pk_un h4, pk_un (by omega)]; exact fdR_out r x h4 h i
set_option maxHeartbeats 2000000 in
set_option maxRecDepth 20000 in
theorem c_feed_l (hd : 2 ≤ d) (hR : RI r) (x : Int64) (k n : Nat) (hn : r 4 = nI n) (hk : k ≤ 8) (hkn : n + k ≤ 50) (Q : Option Value → kM → Prop) (hQ : ∀ K, CR K (fdR r x k) c t → FX I K → Q (some (.int (nI (n + k)))) (kJ K)) (m : Nat) : ∀ (i : Nat) (J : Nat → Nat → Int32), CR J (fdR r x i) c t → FX I J → i + m = k → Wd E d mX8_feed 0 0 0 0 39 [some (.ref 0), some (.long x), none, some (.int (nI k)), some (.int (nI i))] [] (kJ J) Q := by
  induction m with
  | zero =>
    intro i J hC hf hi
    have e : i = k := by omega
    subst e
    refine il4 (n := 41) dX8_feed_39 rfl ?_
    refine il3 (n := 42) dX8_feed_41 rfl ?_
    refine k_icmp_ge (t := 91) (n := 45) dX8_feed_42 (by decide) rfl (fun h42 => ?_) (fun h42 => ?_)
    · refine al0 (n := 92) dX8_feed_91 rfl ?_
      refine gX8_10 (n := 95) dX8_feed_92 rfl rfl rfl rfl ?_
      refine gX8_196 (n := 98) dX8_feed_95 rfl rfl rfl ?_
      refine k_top (hC.g5.trans (fdR_4 hn i)) ?_
      refine k_ireturn (ty := .int) dX8_feed_98 rfl rfl (Nat.le_refl _) (Nat.le_refl _) ?_
      exact hQ J hC hf
    · exact absurd (Int32.le_refl _) h42
  | succ m ih =>
    intro i J hC hf hi
    have e4 := fdR_4 (x := x) hn i
    have c4 : (fdR r x i 4).toNatClampNeg = n + i := by rw [e4]; exact kcl (by omega)
    have hT : TX (fdR r x i) := fun u hu => by rw [fdR_out r x (by omega) (by omega) i]; exact hR.TX u hu
    refine il4 (n := 41) dX8_feed_39 rfl ?_
    refine il3 (n := 42) dX8_feed_41 rfl ?_
    refine k_icmp_ge (t := 91) (n := 45) dX8_feed_42 (by decide) rfl (fun h42 => ?_) (fun h42 => ?_)
    · exact absurd h42 (nI_ge (by omega) (by omega))
    · refine al0 (n := 46) dX8_feed_45 rfl ?_
      refine gX8_10 (n := 49) dX8_feed_46 rfl rfl rfl rfl ?_
      refine gX8_37 (n := 52) dX8_feed_49 rfl rfl rfl rfl ?_
      refine al0 (n := 53) dX8_feed_52 rfl ?_
      refine gX8_10 (n := 56) dX8_feed_53 rfl rfl rfl rfl ?_
      refine gX8_196 (n := 59) dX8_feed_56 rfl rfl rfl ?_
      refine k_top (hC.g5.trans e4) ?_
      refine ll1 (n := 60) dX8_feed_59 rfl ?_
      refine k_bipush (a := 8) (n := 62) dX8_feed_60 rfl rfl ?_
      refine il4 (n := 64) dX8_feed_62 rfl ?_
      refine k_imul (n := 65) dX8_feed_64 rfl ?_
      refine k_lushr (n := 66) dX8_feed_65 rfl ?_
      refine k_l2i (n := 67) dX8_feed_66 rfl ?_
      refine k_sipush (a := 255) (n := 70) dX8_feed_67 rfl rfl ?_
      refine k_iand (n := 71) dX8_feed_70 rfl ?_
      rw [fd_b x i (by omega)]
      refine j_iast (j := n + i) (n := 72) dX8_feed_71 rfl rfl rfl (by omega) (by decide) ?_
      refine k_gen (fun I1 e1 => ?_)
      have hC1 := hC.pt hT (by omega) e1
      have hT1 : TX (upd (fdR r x i) (85 + (n + i)) (fdB x i)) := hT.u (by omega)
      refine al0 (n := 73) dX8_feed_72 rfl ?_
      refine gX8_10 (n := 76) dX8_feed_73 rfl rfl rfl rfl ?_
      refine k_dup (n := 77) dX8_feed_76 rfl rfl ?_
      refine gX8_196 (n := 80) dX8_feed_77 rfl rfl rfl ?_
      refine k_top (hC1.g5.trans ((pk_un (by omega)).trans e4)) ?_
      refine k_iconst (a := 1) (n := 81) dX8_feed_80 rfl rfl ?_
      refine k_iadd (n := 82) dX8_feed_81 rfl ?_
      refine pX8_196 (n := 85) dX8_feed_82 rfl rfl rfl ?_
      refine k_gen (fun I2 e2 => ?_)
      have hC2 := hC1.p5 hT1 e2
      refine ii4 (n := 88) dX8_feed_85 rfl (ki1 _) trivial ?_
      rw [nI_1]
      refine k_goto (n := 39) dX8_feed_88 (by decide) ?_
      refine ih (i + 1) I2 ?_ (hf.tr ((FX.k1 e1 (by decide)).tr (FX.k1 e2 (by decide)))) (by omega)
      rw [fdR, c4, e4]
      exact hC2
set_option maxHeartbeats 2000000 in
set_option maxRecDepth 20000 in
theorem c_feed (hd : 2 ≤ d) (hC : CR I r c t) (hR : RI r) (hX : RX r) (x : Int64) (v : Int32) : Ct E d mX8_feed 0 0 [.ref 0, .long x, .int v] (kJ I) (kZ I (s_feed r x v)) := by
  have hb := hC.bl
  have hT := hR.TX
  have h8 := hb.c8
  have h4 := hb.t4
  obtain ⟨-, -, -, -, ⟨n, hn, h50⟩, -⟩ := id hR
  refine Ct.of (L := [some (.ref 0), some (.long x), none, some (.int v), none]) rfl rfl (Nat.le_of_ble_eq_true rfl) ?_
  refine il3 (n := 1) dX8_feed_0 rfl ?_
  refine k_iconst (a := 1) (n := 2) dX8_feed_1 rfl rfl ?_
  refine k_bipush (a := 8) (n := 4) dX8_feed_2 rfl rfl ?_
  refine qiX8_65 (n := 7) dX8_feed_4 rfl rfl (Nat.le_of_ble_eq_true rfl) (by omega) (c_within _ _ _) (Nat.le_refl _) (Nat.le_refl _) ?_
  refine k_ifb_ne (t := 16) (n := 10) dX8_feed_7 (by decide) rfl (fun h7 => ?_) (fun h7 => ?_)
  · obtain ⟨k, hk1, hk, rfl⟩ := kbt (a := 1) (b := 8) h7 (by decide) (by decide)
    refine al0 (n := 17) dX8_feed_16 rfl ?_
    refine gX8_10 (n := 20) dX8_feed_17 rfl rfl rfl rfl ?_
    refine gX8_196 (n := 23) dX8_feed_20 rfl rfl rfl ?_
    refine k_top (CR.g5 hC) ?_
    refine il3 (n := 24) dX8_feed_23 rfl ?_
    refine k_iadd (n := 25) dX8_feed_24 rfl ?_
    refine k_bipush (a := 50) (n := 27) dX8_feed_25 rfl rfl ?_
    refine k_icmp_le (t := 36) (n := 30) dX8_feed_27 (by decide) rfl (fun h27 => ?_) (fun h27 => ?_)
    · refine k_iconst (a := 0) (n := 37) dX8_feed_36 rfl rfl ?_
      refine is4 (n := 39) dX8_feed_37 rfl trivial ?_
      have hkn : n + k ≤ 50 := by
        rw [hn, nI_add] at h27
        exact Nat.le_of_not_lt fun z => nI_ge z (by omega) h27
      refine c_feed_l (by omega) hR x k n hn hk hkn _ (fun K hK hf => ?_) k 0 I hC (FX.rf _) (by omega)
      exact kZ.to (by simp only [s_feed, if_pos h7, kcl (show k < 1000 by omega), if_pos h27]; rw [hn, nI_add]) (kZ_x hK hf)
    · refine al0 (n := 31) dX8_feed_30 rfl ?_
      refine k_iconst (a := 4) (n := 32) dX8_feed_31 rfl rfl ?_
      refine qiX8_69 (n := 35) dX8_feed_32 rfl rfl (Nat.le_of_ble_eq_true rfl) (by omega) rfl (c_refuse4 (by omega)) (Nat.le_refl _) (Nat.le_refl _) ?_
      refine k_ireturn (ty := .int) dX8_feed_35 rfl rfl (Nat.le_refl _) (Nat.le_refl _) ?_
      exact kZ.to (by simp only [s_feed, if_pos h7, kcl (show k < 1000 by omega), if_neg h27]) (kZ_e4 hC (FX.rf _))
  · refine al0 (n := 11) dX8_feed_10 rfl ?_
    refine k_iconst (a := 1) (n := 12) dX8_feed_11 rfl rfl ?_
    refine qiX8_69 (n := 15) dX8_feed_12 rfl rfl (Nat.le_of_ble_eq_true rfl) (by omega) rfl (c_refuse1 (by omega)) (Nat.le_refl _) (Nat.le_refl _) ?_
    refine k_ireturn (ty := .int) dX8_feed_15 rfl rfl (Nat.le_refl _) (Nat.le_refl _) ?_
    exact kZ.to (by simp only [s_feed, if_neg h7]) (kZ_e1 hC (FX.rf _))
end C9

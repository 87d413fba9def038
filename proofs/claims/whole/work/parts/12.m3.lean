/-- what always holds of the reference's row -/
def RI (r : Nat → Int32) : Prop := (∃ c, r 9 = nI c ∧ c ≤ 8) ∧ (∃ c, r 8 = nI c ∧ c ≤ 4) ∧ (∃ c, r 11 = nI c ∧ c < 4) ∧ (∃ c, r 3 = nI c ∧ 2 ≤ c ∧ c ≤ 8) ∧ (∃ c, r 4 = nI c ∧ c ≤ 50) ∧ (∃ c, r 5 = nI c ∧ c ≤ 20) ∧ (∃ c, r 1 = nI c ∧ 1 ≤ c ∧ c ≤ 16) ∧ (∀ k, k < 8 → (∃ c, r (29 + 7 * k) = nI c ∧ c < 7) ∧ (∃ c, r (29 + 7 * k + 4) = nI c ∧ c < 8)) ∧ (∀ k, k < 2 → r (6 + k) = -1 ∨ ∃ c, r (6 + k) = nI c ∧ c ≤ 50)
theorem kix {v : Int32} {c : Nat} (h : 0 ≤ v ∧ v ≤ nI c - 1) (hc : c ≤ 1000) : ∃ j, j < c ∧ v = nI j := by
  obtain ⟨j, hj, rfl⟩ := nI_of (x := v) (Int32.not_lt.mpr h.1)
  refine ⟨j, ?_, rfl⟩
  have h2 := Int32.le_iff_toInt_le.mp h.2
  have e : (nI c - 1).toInt = (c : Int) - 1 := pk_sub_toInt (a := c) (b := 1) (by omega) (by omega)
  rw [e, nI_toInt hj] at h2
  omega
theorem kcl {j : Nat} (h : j < 1000) : (nI j).toNatClampNeg = j := nI_clamp (by omega)
theorem kixC {r : Nat → Int32} {v : Int32} (hR : RI r) (h : 0 ≤ v ∧ v ≤ r 9 - 1) : ∃ j, j < 8 ∧ v = nI j := by
  obtain ⟨⟨c, hc, h8⟩, -⟩ := hR
  rw [hc] at h
  obtain ⟨j, hj, rfl⟩ := kix h (by omega)
  exact ⟨j, by omega, rfl⟩
theorem kixT {r : Nat → Int32} {v : Int32} (hR : RI r) (h : 0 ≤ v ∧ v ≤ r 8 - 1) : ∃ j, j < 4 ∧ v = nI j := by
  obtain ⟨-, ⟨c, hc, h8⟩, -⟩ := hR
  rw [hc] at h
  obtain ⟨j, hj, rfl⟩ := kix h (by omega)
  exact ⟨j, by omega, rfl⟩
theorem kixP {r : Nat → Int32} {v : Int32} (hR : RI r) (h : 0 ≤ v ∧ v ≤ r 3 - 1) : ∃ j, j < 8 ∧ v = nI j := by
  obtain ⟨-, -, -, ⟨c, hc, h2, h8⟩, -⟩ := hR
  rw [hc] at h
  obtain ⟨j, hj, rfl⟩ := kix h (by omega)
  exact ⟨j, by omega, rfl⟩
/-- a number between two others -/
theorem kbt {v : Int32} {a b : Nat} (h : nI a ≤ v ∧ v ≤ nI b) (hb : b < 1000) (ha : a ≤ b) : ∃ j, a ≤ j ∧ j ≤ b ∧ v = nI j := by
  have h1 := Int32.le_iff_toInt_le.mp h.1
  rw [nI_toInt (by omega)] at h1
  obtain ⟨j, hj, rfl⟩ := nI_of (x := v) (by rw [Int32.lt_iff_toInt_lt]; show ¬ _ < (0 : Int); omega)
  have h2 := Int32.le_iff_toInt_le.mp h.2
  rw [nI_toInt hj, nI_toInt (show b < 2 ^ 31 by omega)] at h2
  rw [nI_toInt hj] at h1
  exact ⟨j, by omega, by omega, rfl⟩
section M3
variable {E : kE} {d : Nat} {I : Nat → Nat → Int32} {r : Nat → Int32}
def s_ofTurner (r : Nat → Int32) (v q : Int32) : sT := if 0 ≤ v ∧ v ≤ r 8 - 1 then if 0 ≤ q ∧ q ≤ 2 then if 2 ≤ q then if r 11 = v then (1, r, 0) else (0, r, 0) else (r (21 + 2 * v.toNatClampNeg + q.toNatClampNeg), r, 0) else sB r else sB r
set_option maxHeartbeats 2000000 in
set_option maxRecDepth 20000 in
theorem m_ofTurner (hd : 2 ≤ d) (hR : RI r) (v q : Int32) : Ct E d mX9_ofTurner 0 0 [.ref 81, .int v, .int q] (kJ (kset I 82 r)) (kT I (s_ofTurner r v q)) := by
  refine Ct.of (L := [some (.ref 81), some (.int v), some (.int q)]) rfl rfl (Nat.le_of_ble_eq_true rfl) ?_
  refine al0 (n := 1) dX9_ofTurner_0 rfl ?_
  refine il1 (n := 2) dX9_ofTurner_1 rfl ?_
  refine qiX9_56 (n := 5) dX9_ofTurner_2 rfl rfl (Nat.le_of_ble_eq_true rfl) (by omega) rfl (m_isTurner (by omega) _) (Nat.le_refl _) (Nat.le_refl _) ?_
  refine k_ifb_eq (t := 17) (n := 8) dX9_ofTurner_5 (by decide) rfl (fun h5 => ?_) (fun h5 => ?_)
  · refine al0 (n := 18) dX9_ofTurner_17 rfl ?_
    refine cX9_45 (n := 20) dX9_ofTurner_18 rfl rfl ?_
    refine qiX9_46 (n := 23) dX9_ofTurner_20 rfl rfl (Nat.le_of_ble_eq_true rfl) (by omega) rfl (m_errs 1 _ (by decide) rfl) (Nat.le_refl _) (Nat.le_refl _) ?_
    refine k_ireturn (ty := .int) dX9_ofTurner_23 rfl rfl (Nat.le_refl _) (Nat.le_refl _) ?_
    (refine ⟨?_, ?_⟩ <;> simp only [kT, s_ofTurner, sB, sN, sS, sF, sK, ke0, ke1, ke2, ke3, ke4, ke5, if_neg h5] <;> rfl)
  · obtain ⟨j, hj, rfl⟩ := kixT hR h5
    refine il2 (n := 9) dX9_ofTurner_8 rfl ?_
    refine k_iconst (a := 0) (n := 10) dX9_ofTurner_9 rfl rfl ?_
    refine k_iconst (a := 2) (n := 11) dX9_ofTurner_10 rfl rfl ?_
    refine qiX9_41 (n := 14) dX9_ofTurner_11 rfl rfl (Nat.le_of_ble_eq_true rfl) (by omega) (m_in _ _ _) (Nat.le_refl _) (Nat.le_refl _) ?_
    refine k_ifb_ne (t := 24) (n := 17) dX9_ofTurner_14 (by decide) rfl (fun h14 => ?_) (fun h14 => ?_)
    · obtain ⟨i, -, hi, rfl⟩ := kbt (a := 0) (b := 2) h14 (by decide) (by decide)
      refine il2 (n := 25) dX9_ofTurner_24 rfl ?_
      refine k_iconst (a := 2) (n := 26) dX9_ofTurner_25 rfl rfl ?_
      refine k_icmp_ge (t := 45) (n := 29) dX9_ofTurner_26 (by decide) rfl (fun h26 => ?_) (fun h26 => ?_)
      · refine al0 (n := 46) dX9_ofTurner_45 rfl ?_
        refine gX9_7 (n := 49) dX9_ofTurner_46 rfl rfl rfl rfl ?_
        refine k_bipush (a := 11) (n := 51) dX9_ofTurner_49 rfl rfl ?_
        refine js_iald (j := 11) (n := 52) dX9_ofTurner_51 rfl rfl rfl (by decide) (by decide) ?_
        refine il1 (n := 53) dX9_ofTurner_52 rfl ?_
        refine k_icmp_ne (t := 60) (n := 56) dX9_ofTurner_53 (by decide) rfl (fun h53 => ?_) (fun h53 => ?_)
        · refine k_iconst (a := 0) (n := 61) dX9_ofTurner_60 rfl rfl ?_
          refine k_ireturn (ty := .int) dX9_ofTurner_61 rfl rfl (Nat.le_refl _) (Nat.le_refl _) ?_
          (refine ⟨?_, ?_⟩ <;> simp only [kT, s_ofTurner, sB, sN, sS, sF, sK, ke0, ke1, ke2, ke3, ke4, ke5, if_pos h5, kcl (show j < 1000 by omega), if_pos h14, kcl (show i < 1000 by omega), if_pos h26, if_neg h53] <;> rfl)
        · refine k_iconst (a := 1) (n := 57) dX9_ofTurner_56 rfl rfl ?_
          refine k_goto (n := 61) dX9_ofTurner_57 (by decide) ?_
          refine k_ireturn (ty := .int) dX9_ofTurner_61 rfl rfl (Nat.le_refl _) (Nat.le_refl _) ?_
          (refine ⟨?_, ?_⟩ <;> simp only [kT, s_ofTurner, sB, sN, sS, sF, sK, ke0, ke1, ke2, ke3, ke4, ke5, if_pos h5, kcl (show j < 1000 by omega), if_pos h14, kcl (show i < 1000 by omega), if_pos h26, if_pos h53] <;> rfl)
      · refine al0 (n := 30) dX9_ofTurner_29 rfl ?_
        refine gX9_7 (n := 33) dX9_ofTurner_30 rfl rfl rfl rfl ?_
        refine k_bipush (a := 21) (n := 35) dX9_ofTurner_33 rfl rfl ?_
        refine k_iconst (a := 2) (n := 36) dX9_ofTurner_35 rfl rfl ?_
        refine il1 (n := 37) dX9_ofTurner_36 rfl ?_
        refine k_imul (n := 38) dX9_ofTurner_37 rfl ?_
        refine k_iadd (n := 39) dX9_ofTurner_38 rfl ?_
        refine il2 (n := 40) dX9_ofTurner_39 rfl ?_
        refine k_iadd (n := 41) dX9_ofTurner_40 rfl ?_
        refine js_iald (j := 21 + 2 * j + i) (n := 42) dX9_ofTurner_41 rfl rfl (by show nI 21 + nI 2 * nI j + nI i = _; rw [pk_mul, nI_add, nI_add]) (by omega) (by decide) ?_
        refine k_goto (n := 61) dX9_ofTurner_42 (by decide) ?_
        refine k_ireturn (ty := .int) dX9_ofTurner_61 rfl rfl (Nat.le_refl _) (Nat.le_refl _) ?_
        (refine ⟨?_, ?_⟩ <;> simp only [kT, s_ofTurner, sB, sN, sS, sF, sK, ke0, ke1, ke2, ke3, ke4, ke5, if_pos h5, kcl (show j < 1000 by omega), if_pos h14, kcl (show i < 1000 by omega), if_neg h26] <;> rfl)
    · refine al0 (n := 18) dX9_ofTurner_17 rfl ?_
      refine cX9_45 (n := 20) dX9_ofTurner_18 rfl rfl ?_
      refine qiX9_46 (n := 23) dX9_ofTurner_20 rfl rfl (Nat.le_of_ble_eq_true rfl) (by omega) rfl (m_errs 1 _ (by decide) rfl) (Nat.le_refl _) (Nat.le_refl _) ?_
      refine k_ireturn (ty := .int) dX9_ofTurner_23 rfl rfl (Nat.le_refl _) (Nat.le_refl _) ?_
      (refine ⟨?_, ?_⟩ <;> simp only [kT, s_ofTurner, sB, sN, sS, sF, sK, ke0, ke1, ke2, ke3, ke4, ke5, if_pos h5, kcl (show j < 1000 by omega), if_neg h14] <;> rfl)
def s_relieve (r : Nat → Int32) (v : Int32) : sT := if 0 ≤ v ∧ v ≤ r 8 - 1 then (r 11, upd r 11 v, 0) else sB r
set_option maxHeartbeats 2000000 in
set_option maxRecDepth 20000 in
theorem m_relieve (hd : 2 ≤ d) (v : Int32) : Ct E d mX9_relieve 0 0 [.ref 81, .int v] (kJ (kset I 82 r)) (kT I (s_relieve r v)) := by
  refine Ct.of (L := [some (.ref 81), some (.int v)]) rfl rfl (Nat.le_of_ble_eq_true rfl) ?_
  refine al0 (n := 1) dX9_relieve_0 rfl ?_
  refine il1 (n := 2) dX9_relieve_1 rfl ?_
  refine qiX9_56 (n := 5) dX9_relieve_2 rfl rfl (Nat.le_of_ble_eq_true rfl) (by omega) rfl (m_isTurner (by omega) _) (Nat.le_refl _) (Nat.le_refl _) ?_
  refine k_ifb_eq (t := 18) (n := 8) dX9_relieve_5 (by decide) rfl (fun h5 => ?_) (fun h5 => ?_)
  · refine al0 (n := 19) dX9_relieve_18 rfl ?_
    refine cX9_45 (n := 21) dX9_relieve_19 rfl rfl ?_
    refine qiX9_46 (n := 24) dX9_relieve_21 rfl rfl (Nat.le_of_ble_eq_true rfl) (by omega) rfl (m_errs 1 _ (by decide) rfl) (Nat.le_refl _) (Nat.le_refl _) ?_
    refine k_ireturn (ty := .int) dX9_relieve_24 rfl rfl (Nat.le_refl _) (Nat.le_refl _) ?_
    (refine ⟨?_, ?_⟩ <;> simp only [kT, s_relieve, sB, sN, sS, sF, sK, ke0, ke1, ke2, ke3, ke4, ke5, if_neg h5] <;> rfl)
  · refine al0 (n := 9) dX9_relieve_8 rfl ?_
    refine k_bipush (a := 11) (n := 11) dX9_relieve_9 rfl rfl ?_
    refine il1 (n := 12) dX9_relieve_11 rfl ?_
    refine qiX9_51 (n := 15) dX9_relieve_12 rfl rfl (Nat.le_of_ble_eq_true rfl) (by omega) rfl (m_becomes 11 _ (by decide)) (Nat.le_refl _) (Nat.le_refl _) ?_
    refine k_goto (n := 24) dX9_relieve_15 (by decide) ?_
    refine k_ireturn (ty := .int) dX9_relieve_24 rfl rfl (Nat.le_refl _) (Nat.le_refl _) ?_
    (refine ⟨?_, ?_⟩ <;> simp only [kT, s_relieve, sB, sN, sS, sF, sK, ke0, ke1, ke2, ke3, ke4, ke5, if_pos h5] <;> rfl)
def s_go (r : Nat → Int32) (v : Int32) : sT := if 0 ≤ v ∧ v ≤ ((1 : Int32) <<< (r 9 &&& 31)) - 1 then (r 12, upd r 12 v, 0) else sB r
set_option maxHeartbeats 2000000 in
set_option maxRecDepth 20000 in
theorem m_go (hd : 2 ≤ d) (v : Int32) : Ct E d mX9_go 0 0 [.ref 81, .int v] (kJ (kset I 82 r)) (kT I (s_go r v)) := by
  refine Ct.of (L := [some (.ref 81), some (.int v)]) rfl rfl (Nat.le_of_ble_eq_true rfl) ?_
  refine al0 (n := 1) dX9_go_0 rfl ?_
  refine il1 (n := 2) dX9_go_1 rfl ?_
  refine qiX9_87 (n := 5) dX9_go_2 rfl rfl (Nat.le_of_ble_eq_true rfl) (by omega) rfl (m_isSet (by omega) _) (Nat.le_refl _) (Nat.le_refl _) ?_
  refine k_ifb_eq (t := 18) (n := 8) dX9_go_5 (by decide) rfl (fun h5 => ?_) (fun h5 => ?_)
  · refine al0 (n := 19) dX9_go_18 rfl ?_
    refine cX9_45 (n := 21) dX9_go_19 rfl rfl ?_
    refine qiX9_46 (n := 24) dX9_go_21 rfl rfl (Nat.le_of_ble_eq_true rfl) (by omega) rfl (m_errs 1 _ (by decide) rfl) (Nat.le_refl _) (Nat.le_refl _) ?_
    refine k_ireturn (ty := .int) dX9_go_24 rfl rfl (Nat.le_refl _) (Nat.le_refl _) ?_
    (refine ⟨?_, ?_⟩ <;> simp only [kT, s_go, sB, sN, sS, sF, sK, ke0, ke1, ke2, ke3, ke4, ke5, if_neg h5] <;> rfl)
  · refine al0 (n := 9) dX9_go_8 rfl ?_
    refine k_bipush (a := 12) (n := 11) dX9_go_9 rfl rfl ?_
    refine il1 (n := 12) dX9_go_11 rfl ?_
    refine qiX9_51 (n := 15) dX9_go_12 rfl rfl (Nat.le_of_ble_eq_true rfl) (by omega) rfl (m_becomes 12 _ (by decide)) (Nat.le_refl _) (Nat.le_refl _) ?_
    refine k_goto (n := 24) dX9_go_15 (by decide) ?_
    refine k_ireturn (ty := .int) dX9_go_24 rfl rfl (Nat.le_refl _) (Nat.le_refl _) ?_
    (refine ⟨?_, ?_⟩ <;> simp only [kT, s_go, sB, sN, sS, sF, sK, ke0, ke1, ke2, ke3, ke4, ke5, if_pos h5] <;> rfl)
def s_seed (r : Nat → Int32) (v : Int32) : sT := (r 2, upd r 2 v, 0)
set_option maxHeartbeats 2000000 in
set_option maxRecDepth 20000 in
theorem m_seed (hd : 2 ≤ d) (v : Int32) : Ct E d mX9_seed 0 0 [.ref 81, .int v] (kJ (kset I 82 r)) (kT I (s_seed r v)) := by
  refine Ct.of (L := [some (.ref 81), some (.int v), none]) rfl rfl (Nat.le_of_ble_eq_true rfl) ?_
  refine al0 (n := 1) dX9_seed_0 rfl ?_
  refine gX9_7 (n := 4) dX9_seed_1 rfl rfl rfl rfl ?_
  refine k_iconst (a := 2) (n := 5) dX9_seed_4 rfl rfl ?_
  refine js_iald (j := 2) (n := 6) dX9_seed_5 rfl rfl rfl (by decide) (by decide) ?_
  refine is2 (n := 7) dX9_seed_6 rfl trivial ?_
  refine al0 (n := 8) dX9_seed_7 rfl ?_
  refine gX9_7 (n := 11) dX9_seed_8 rfl rfl rfl rfl ?_
  refine k_iconst (a := 2) (n := 12) dX9_seed_11 rfl rfl ?_
  refine il1 (n := 13) dX9_seed_12 rfl ?_
  refine js_iast (j := 2) (n := 14) dX9_seed_13 rfl rfl rfl (by decide) (by decide) ?_
  refine il2 (n := 15) dX9_seed_14 rfl ?_
  refine k_ireturn (ty := .int) dX9_seed_15 rfl rfl (Nat.le_refl _) (Nat.le_refl _) ?_
  (refine ⟨?_, ?_⟩ <;> simp only [kT, s_seed, sB, sN, sS, sF, sK, ke0, ke1, ke2, ke3, ke4, ke5] <;> rfl)
def s_splice (r : Nat → Int32) (v q : Int32) : sT := if 0 ≤ v ∧ v ≤ r 3 - 1 then if 0 ≤ q ∧ q ≤ 999 then (r (13 + v.toNatClampNeg), upd r (13 + v.toNatClampNeg) q, 0) else sB r else sB r
set_option maxHeartbeats 2000000 in
set_option maxRecDepth 20000 in
theorem m_splice (hd : 2 ≤ d) (hR : RI r) (v q : Int32) : Ct E d mX9_splice 0 0 [.ref 81, .int v, .int q] (kJ (kset I 82 r)) (kT I (s_splice r v q)) := by
  refine Ct.of (L := [some (.ref 81), some (.int v), some (.int q)]) rfl rfl (Nat.le_of_ble_eq_true rfl) ?_
  refine al0 (n := 1) dX9_splice_0 rfl ?_
  refine il1 (n := 2) dX9_splice_1 rfl ?_
  refine qiX9_60 (n := 5) dX9_splice_2 rfl rfl (Nat.le_of_ble_eq_true rfl) (by omega) rfl (m_isPlace (by omega) _) (Nat.le_refl _) (Nat.le_refl _) ?_
  refine k_ifb_eq (t := 31) (n := 8) dX9_splice_5 (by decide) rfl (fun h5 => ?_) (fun h5 => ?_)
  · refine al0 (n := 32) dX9_splice_31 rfl ?_
    refine cX9_45 (n := 34) dX9_splice_32 rfl rfl ?_
    refine qiX9_46 (n := 37) dX9_splice_34 rfl rfl (Nat.le_of_ble_eq_true rfl) (by omega) rfl (m_errs 1 _ (by decide) rfl) (Nat.le_refl _) (Nat.le_refl _) ?_
    refine k_ireturn (ty := .int) dX9_splice_37 rfl rfl (Nat.le_refl _) (Nat.le_refl _) ?_
    (refine ⟨?_, ?_⟩ <;> simp only [kT, s_splice, sB, sN, sS, sF, sK, ke0, ke1, ke2, ke3, ke4, ke5, if_neg h5] <;> rfl)
  · obtain ⟨j, hj, rfl⟩ := kixP hR h5
    refine il2 (n := 9) dX9_splice_8 rfl ?_
    refine k_iconst (a := 0) (n := 10) dX9_splice_9 rfl rfl ?_
    refine k_sipush (a := 999) (n := 13) dX9_splice_10 rfl rfl ?_
    refine qiX9_41 (n := 16) dX9_splice_13 rfl rfl (Nat.le_of_ble_eq_true rfl) (by omega) (m_in _ _ _) (Nat.le_refl _) (Nat.le_refl _) ?_
    refine k_ifb_eq (t := 31) (n := 19) dX9_splice_16 (by decide) rfl (fun h16 => ?_) (fun h16 => ?_)
    · refine al0 (n := 32) dX9_splice_31 rfl ?_
      refine cX9_45 (n := 34) dX9_splice_32 rfl rfl ?_
      refine qiX9_46 (n := 37) dX9_splice_34 rfl rfl (Nat.le_of_ble_eq_true rfl) (by omega) rfl (m_errs 1 _ (by decide) rfl) (Nat.le_refl _) (Nat.le_refl _) ?_
      refine k_ireturn (ty := .int) dX9_splice_37 rfl rfl (Nat.le_refl _) (Nat.le_refl _) ?_
      (refine ⟨?_, ?_⟩ <;> simp only [kT, s_splice, sB, sN, sS, sF, sK, ke0, ke1, ke2, ke3, ke4, ke5, if_pos h5, kcl (show j < 1000 by omega), if_neg h16] <;> rfl)
    · refine al0 (n := 20) dX9_splice_19 rfl ?_
      refine k_bipush (a := 13) (n := 22) dX9_splice_20 rfl rfl ?_
      refine il1 (n := 23) dX9_splice_22 rfl ?_
      refine k_iadd (n := 24) dX9_splice_23 rfl ?_
      refine il2 (n := 25) dX9_splice_24 rfl ?_
      rw [show (13 : Int32) + nI j = nI (13 + j) from nI_add 13 j]
      refine qiX9_51 (n := 28) dX9_splice_25 rfl rfl (Nat.le_of_ble_eq_true rfl) (by omega) rfl (m_becomes (13 + j) q (by omega)) (Nat.le_refl _) (Nat.le_refl _) ?_
      refine k_goto (n := 37) dX9_splice_28 (by decide) ?_
      refine k_ireturn (ty := .int) dX9_splice_37 rfl rfl (Nat.le_refl _) (Nat.le_refl _) ?_
      (refine ⟨?_, ?_⟩ <;> simp only [kT, s_splice, sB, sN, sS, sF, sK, ke0, ke1, ke2, ke3, ke4, ke5, if_pos h5, kcl (show j < 1000 by omega), if_pos h16] <;> rfl)
def s_wear (r : Nat → Int32) (v : Int32) : sT := if 0 ≤ v ∧ v ≤ r 3 - 1 then (r (13 + v.toNatClampNeg), r, 0) else sB r
set_option maxHeartbeats 2000000 in
set_option maxRecDepth 20000 in
theorem m_wear (hd : 2 ≤ d) (hR : RI r) (v : Int32) : Ct E d mX9_wear 0 0 [.ref 81, .int v] (kJ (kset I 82 r)) (kT I (s_wear r v)) := by
  refine Ct.of (L := [some (.ref 81), some (.int v)]) rfl rfl (Nat.le_of_ble_eq_true rfl) ?_
  refine al0 (n := 1) dX9_wear_0 rfl ?_
  refine il1 (n := 2) dX9_wear_1 rfl ?_
  refine qiX9_60 (n := 5) dX9_wear_2 rfl rfl (Nat.le_of_ble_eq_true rfl) (by omega) rfl (m_isPlace (by omega) _) (Nat.le_refl _) (Nat.le_refl _) ?_
  refine k_ifb_eq (t := 20) (n := 8) dX9_wear_5 (by decide) rfl (fun h5 => ?_) (fun h5 => ?_)
  · refine al0 (n := 21) dX9_wear_20 rfl ?_
    refine cX9_45 (n := 23) dX9_wear_21 rfl rfl ?_
    refine qiX9_46 (n := 26) dX9_wear_23 rfl rfl (Nat.le_of_ble_eq_true rfl) (by omega) rfl (m_errs 1 _ (by decide) rfl) (Nat.le_refl _) (Nat.le_refl _) ?_
    refine k_ireturn (ty := .int) dX9_wear_26 rfl rfl (Nat.le_refl _) (Nat.le_refl _) ?_
    (refine ⟨?_, ?_⟩ <;> simp only [kT, s_wear, sB, sN, sS, sF, sK, ke0, ke1, ke2, ke3, ke4, ke5, if_neg h5] <;> rfl)
  · obtain ⟨j, hj, rfl⟩ := kixP hR h5
    refine al0 (n := 9) dX9_wear_8 rfl ?_
    refine gX9_7 (n := 12) dX9_wear_9 rfl rfl rfl rfl ?_
    refine k_bipush (a := 13) (n := 14) dX9_wear_12 rfl rfl ?_
    refine il1 (n := 15) dX9_wear_14 rfl ?_
    refine k_iadd (n := 16) dX9_wear_15 rfl ?_
    refine js_iald (j := 13 + j) (n := 17) dX9_wear_16 rfl rfl (by show nI 13 + nI j = _; rw [nI_add]) (by omega) (by decide) ?_
    refine k_goto (n := 26) dX9_wear_17 (by decide) ?_
    refine k_ireturn (ty := .int) dX9_wear_26 rfl rfl (Nat.le_refl _) (Nat.le_refl _) ?_
    (refine ⟨?_, ?_⟩ <;> simp only [kT, s_wear, sB, sN, sS, sF, sK, ke0, ke1, ke2, ke3, ke4, ke5, if_pos h5, kcl (show j < 1000 by omega)] <;> rfl)
def s_turner (r : Nat → Int32) (v : Int32) : sT := if 1 ≤ v ∧ v ≤ 99 then if r 8 = 4 then sF r else (r 8, upd (upd (upd r (21 + 2 * (r 8).toNatClampNeg) v) (21 + 2 * (r 8).toNatClampNeg + 1) 0) 8 (r 8 + 1), 0) else sB r
set_option maxHeartbeats 2000000 in
set_option maxRecDepth 20000 in
theorem m_turner (hd : 2 ≤ d) (hR : RI r) (v : Int32) : Ct E d mX9_turner 0 0 [.ref 81, .int v] (kJ (kset I 82 r)) (kT I (s_turner r v)) := by
  obtain ⟨-, ⟨c, hc, h4⟩, -⟩ := id hR
  have hcl : (r 8).toNatClampNeg = c := by rw [hc]; exact kcl (by omega)
  refine Ct.of (L := [some (.ref 81), some (.int v), none]) rfl rfl (Nat.le_of_ble_eq_true rfl) ?_
  refine il1 (n := 1) dX9_turner_0 rfl ?_
  refine k_iconst (a := 1) (n := 2) dX9_turner_1 rfl rfl ?_
  refine k_bipush (a := 99) (n := 4) dX9_turner_2 rfl rfl ?_
  refine qiX9_41 (n := 7) dX9_turner_4 rfl rfl (Nat.le_of_ble_eq_true rfl) (by omega) (m_in _ _ _) (Nat.le_refl _) (Nat.le_refl _) ?_
  refine k_ifb_ne (t := 17) (n := 10) dX9_turner_7 (by decide) rfl (fun h7 => ?_) (fun h7 => ?_)
  · refine al0 (n := 18) dX9_turner_17 rfl ?_
    refine gX9_7 (n := 21) dX9_turner_18 rfl rfl rfl rfl ?_
    refine k_bipush (a := 8) (n := 23) dX9_turner_21 rfl rfl ?_
    refine js_iald (j := 8) (n := 24) dX9_turner_23 rfl rfl rfl (by decide) (by decide) ?_
    refine k_iconst (a := 4) (n := 25) dX9_turner_24 rfl rfl ?_
    refine k_icmp_ne (t := 35) (n := 28) dX9_turner_25 (by decide) rfl (fun h25 => ?_) (fun h25 => ?_)
    · have h3 : c < 4 := by
        rcases Nat.lt_or_ge c 4 with h | h
        · exact h
        · exact absurd (by rw [hc, show c = 4 by omega]; rfl) h25
      refine k_bipush (a := 21) (n := 37) dX9_turner_35 rfl rfl ?_
      refine k_iconst (a := 2) (n := 38) dX9_turner_37 rfl rfl ?_
      refine al0 (n := 39) dX9_turner_38 rfl ?_
      refine gX9_7 (n := 42) dX9_turner_39 rfl rfl rfl rfl ?_
      refine k_bipush (a := 8) (n := 44) dX9_turner_42 rfl rfl ?_
      refine js_iald (j := 8) (n := 45) dX9_turner_44 rfl rfl rfl (by decide) (by decide) ?_
      refine k_imul (n := 46) dX9_turner_45 rfl ?_
      refine k_iadd (n := 47) dX9_turner_46 rfl ?_
      refine is2 (n := 48) dX9_turner_47 rfl trivial ?_
      refine al0 (n := 49) dX9_turner_48 rfl ?_
      refine gX9_7 (n := 52) dX9_turner_49 rfl rfl rfl rfl ?_
      refine il2 (n := 53) dX9_turner_52 rfl ?_
      refine il1 (n := 54) dX9_turner_53 rfl ?_
      refine js_iast (j := 21 + 2 * c) (n := 55) dX9_turner_54 rfl rfl (by rw [hc]; show nI 21 + nI 2 * nI c = _; rw [pk_mul, nI_add]) (by omega) (by decide) ?_
      refine al0 (n := 56) dX9_turner_55 rfl ?_
      refine gX9_7 (n := 59) dX9_turner_56 rfl rfl rfl rfl ?_
      refine il2 (n := 60) dX9_turner_59 rfl ?_
      refine k_iconst (a := 1) (n := 61) dX9_turner_60 rfl rfl ?_
      refine k_iadd (n := 62) dX9_turner_61 rfl ?_
      refine k_iconst (a := 0) (n := 63) dX9_turner_62 rfl rfl ?_
      refine js_iast (j := 21 + 2 * c + 1) (n := 64) dX9_turner_63 rfl rfl (by rw [hc]; show nI 21 + nI 2 * nI c + nI 1 = _; rw [pk_mul, nI_add, nI_add]) (by omega) (by decide) ?_
      refine al0 (n := 65) dX9_turner_64 rfl ?_
      refine gX9_7 (n := 68) dX9_turner_65 rfl rfl rfl rfl ?_
      refine k_bipush (a := 8) (n := 70) dX9_turner_68 rfl rfl ?_
      refine k_dup2 (n := 71) dX9_turner_70 rfl rfl rfl ?_
      refine js_iald (j := 8) (n := 72) dX9_turner_71 rfl rfl rfl (by decide) (by decide) ?_
      refine k_iconst (a := 1) (n := 73) dX9_turner_72 rfl rfl ?_
      refine k_iadd (n := 74) dX9_turner_73 rfl ?_
      refine js_iast (j := 8) (n := 75) dX9_turner_74 rfl rfl rfl (by decide) (by decide) ?_
      refine al0 (n := 76) dX9_turner_75 rfl ?_
      refine gX9_7 (n := 79) dX9_turner_76 rfl rfl rfl rfl ?_
      refine k_bipush (a := 8) (n := 81) dX9_turner_79 rfl rfl ?_
      refine js_iald (j := 8) (n := 82) dX9_turner_81 rfl rfl rfl (by decide) (by decide) ?_
      refine k_iconst (a := 1) (n := 83) dX9_turner_82 rfl rfl ?_
      refine k_isub (n := 84) dX9_turner_83 rfl ?_
      refine k_ireturn (ty := .int) dX9_turner_84 rfl rfl (Nat.le_refl _) (Nat.le_refl _) ?_
      have e1 : upd (upd r (21 + 2 * c) v) (21 + 2 * c + 1) 0 8 = r 8 := by rw [pk_un (by omega), pk_un (by omega)]
      refine ⟨?_, ?_⟩ <;> simp only [kT, s_turner, ke0, if_pos h7, if_neg h25, hcl, pk_us, e1]
      exact congrArg (fun z => some (Value.int z)) (by rw [hc, nI_1]; exact nI_pred c)
    · refine al0 (n := 29) dX9_turner_28 rfl ?_
      refine cX9_55 (n := 31) dX9_turner_29 rfl rfl ?_
      refine qiX9_46 (n := 34) dX9_turner_31 rfl rfl (Nat.le_of_ble_eq_true rfl) (by omega) rfl (m_errs 4 _ (by decide) rfl) (Nat.le_refl _) (Nat.le_refl _) ?_
      refine k_ireturn (ty := .int) dX9_turner_34 rfl rfl (Nat.le_refl _) (Nat.le_refl _) ?_
      (refine ⟨?_, ?_⟩ <;> simp only [kT, s_turner, sB, sN, sS, sF, sK, ke0, ke1, ke2, ke3, ke4, ke5, if_pos h7, if_pos h25] <;> rfl)
  · refine al0 (n := 11) dX9_turner_10 rfl ?_
    refine cX9_45 (n := 13) dX9_turner_11 rfl rfl ?_
    refine qiX9_46 (n := 16) dX9_turner_13 rfl rfl (Nat.le_of_ble_eq_true rfl) (by omega) rfl (m_errs 1 _ (by decide) rfl) (Nat.le_refl _) (Nat.le_refl _) ?_
    refine k_ireturn (ty := .int) dX9_turner_16 rfl rfl (Nat.le_refl _) (Nat.le_refl _) ?_
    (refine ⟨?_, ?_⟩ <;> simp only [kT, s_turner, sB, sN, sS, sF, sK, ke0, ke1, ke2, ke3, ke4, ke5, if_neg h7] <;> rfl)
def s_tell (r : Nat → Int32) (v : Int32) : sT := if r 5 = 20 then sF r else (r 5 + 1, upd (upd r (135 + (r 5).toNatClampNeg) v) 5 (r 5 + 1), 0)
set_option maxHeartbeats 2000000 in
set_option maxRecDepth 20000 in
theorem m_tell (hd : 2 ≤ d) (hR : RI r) (v : Int32) : Ct E d mX9_tell 0 0 [.ref 81, .int v] (kJ (kset I 82 r)) (kT I (s_tell r v)) := by
  obtain ⟨-, -, -, -, -, ⟨c, hc, h4⟩, -⟩ := id hR
  have hcl : (r 5).toNatClampNeg = c := by rw [hc]; exact kcl (by omega)
  refine Ct.of (L := [some (.ref 81), some (.int v)]) rfl rfl (Nat.le_of_ble_eq_true rfl) ?_
  refine al0 (n := 1) dX9_tell_0 rfl ?_
  refine gX9_7 (n := 4) dX9_tell_1 rfl rfl rfl rfl ?_
  refine k_iconst (a := 5) (n := 5) dX9_tell_4 rfl rfl ?_
  refine js_iald (j := 5) (n := 6) dX9_tell_5 rfl rfl rfl (by decide) (by decide) ?_
  refine k_bipush (a := 20) (n := 8) dX9_tell_6 rfl rfl ?_
  refine k_icmp_ne (t := 18) (n := 11) dX9_tell_8 (by decide) rfl (fun h8 => ?_) (fun h8 => ?_)
  · have h3 : c < 20 := by
      rcases Nat.lt_or_ge c 20 with h | h
      · exact h
      · exact absurd (by rw [hc, show c = 20 by omega]; rfl) h8
    refine al0 (n := 19) dX9_tell_18 rfl ?_
    refine gX9_7 (n := 22) dX9_tell_19 rfl rfl rfl rfl ?_
    refine k_sipush (a := 135) (n := 25) dX9_tell_22 rfl rfl ?_
    refine al0 (n := 26) dX9_tell_25 rfl ?_
    refine gX9_7 (n := 29) dX9_tell_26 rfl rfl rfl rfl ?_
    refine k_iconst (a := 5) (n := 30) dX9_tell_29 rfl rfl ?_
    refine js_iald (j := 5) (n := 31) dX9_tell_30 rfl rfl rfl (by decide) (by decide) ?_
    refine k_iadd (n := 32) dX9_tell_31 rfl ?_
    refine il1 (n := 33) dX9_tell_32 rfl ?_
    refine js_iast (j := 135 + c) (n := 34) dX9_tell_33 rfl rfl (by rw [hc]; show nI 135 + nI c = _; rw [nI_add]) (by omega) (by decide) ?_
    refine al0 (n := 35) dX9_tell_34 rfl ?_
    refine gX9_7 (n := 38) dX9_tell_35 rfl rfl rfl rfl ?_
    refine k_iconst (a := 5) (n := 39) dX9_tell_38 rfl rfl ?_
    refine k_dup2 (n := 40) dX9_tell_39 rfl rfl rfl ?_
    refine js_iald (j := 5) (n := 41) dX9_tell_40 rfl rfl rfl (by decide) (by decide) ?_
    refine k_iconst (a := 1) (n := 42) dX9_tell_41 rfl rfl ?_
    refine k_iadd (n := 43) dX9_tell_42 rfl ?_
    refine js_iast (j := 5) (n := 44) dX9_tell_43 rfl rfl rfl (by decide) (by decide) ?_
    refine al0 (n := 45) dX9_tell_44 rfl ?_
    refine gX9_7 (n := 48) dX9_tell_45 rfl rfl rfl rfl ?_
    refine k_iconst (a := 5) (n := 49) dX9_tell_48 rfl rfl ?_
    refine js_iald (j := 5) (n := 50) dX9_tell_49 rfl rfl rfl (by decide) (by decide) ?_
    refine k_ireturn (ty := .int) dX9_tell_50 rfl rfl (Nat.le_refl _) (Nat.le_refl _) ?_
    have e1 : upd r (135 + c) v 5 = r 5 := pk_un (by omega)
    refine ⟨?_, ?_⟩ <;> simp only [kT, s_tell, ke0, if_neg h8, hcl, pk_us, e1]
  · refine al0 (n := 12) dX9_tell_11 rfl ?_
    refine cX9_55 (n := 14) dX9_tell_12 rfl rfl ?_
    refine qiX9_46 (n := 17) dX9_tell_14 rfl rfl (Nat.le_of_ble_eq_true rfl) (by omega) rfl (m_errs 4 _ (by decide) rfl) (Nat.le_refl _) (Nat.le_refl _) ?_
    refine k_ireturn (ty := .int) dX9_tell_17 rfl rfl (Nat.le_refl _) (Nat.le_refl _) ?_
    (refine ⟨?_, ?_⟩ <;> simp only [kT, s_tell, sB, sN, sS, sF, sK, ke0, ke1, ke2, ke3, ke4, ke5, if_pos h8] <;> rfl)
def s_told (I : Nat → Nat → Int32) (r : Nat → Int32) (v : Int32) : sT := if 1 ≤ v ∧ v ≤ 5 then (I 86 v.toNatClampNeg, r, 0) else sB r
set_option maxHeartbeats 2000000 in
set_option maxRecDepth 20000 in
theorem m_told (hd : 2 ≤ d) (v : Int32) : Ct E d mX9_told 0 0 [.ref 81, .int v] (kJ (kset I 82 r)) (kT I (s_told I r v)) := by
  refine Ct.of (L := [some (.ref 81), some (.int v)]) rfl rfl (Nat.le_of_ble_eq_true rfl) ?_
  refine il1 (n := 1) dX9_told_0 rfl ?_
  refine k_iconst (a := 1) (n := 2) dX9_told_1 rfl rfl ?_
  refine k_iconst (a := 5) (n := 3) dX9_told_2 rfl rfl ?_
  refine qiX9_41 (n := 6) dX9_told_3 rfl rfl (Nat.le_of_ble_eq_true rfl) (by omega) (m_in _ _ _) (Nat.le_refl _) (Nat.le_refl _) ?_
  refine k_ifb_eq (t := 18) (n := 9) dX9_told_6 (by decide) rfl (fun h6 => ?_) (fun h6 => ?_)
  · refine al0 (n := 19) dX9_told_18 rfl ?_
    refine cX9_45 (n := 21) dX9_told_19 rfl rfl ?_
    refine qiX9_46 (n := 24) dX9_told_21 rfl rfl (Nat.le_of_ble_eq_true rfl) (by omega) rfl (m_errs 1 _ (by decide) rfl) (Nat.le_refl _) (Nat.le_refl _) ?_
    refine k_ireturn (ty := .int) dX9_told_24 rfl rfl (Nat.le_refl _) (Nat.le_refl _) ?_
    (refine ⟨?_, ?_⟩ <;> simp only [kT, s_told, sB, sN, sS, sF, sK, ke0, ke1, ke2, ke3, ke4, ke5, if_neg h6] <;> rfl)
  · obtain ⟨j, -, hj, rfl⟩ := kbt (a := 1) (b := 5) h6 (by decide) (by decide)
    refine al0 (n := 10) dX9_told_9 rfl ?_
    refine gX9_22 (n := 13) dX9_told_10 rfl rfl rfl rfl ?_
    refine il1 (n := 14) dX9_told_13 rfl ?_
    refine j_iald (j := j) (n := 15) dX9_told_14 rfl rfl rfl (by omega) (by decide) ?_
    try rw [kset_ne _ _ (show (86 : Nat) ≠ 82 by decide)]
    refine k_goto (n := 24) dX9_told_15 (by decide) ?_
    refine k_ireturn (ty := .int) dX9_told_24 rfl rfl (Nat.le_refl _) (Nat.le_refl _) ?_
    (refine ⟨?_, ?_⟩ <;> simp only [kT, s_told, sB, sN, sS, sF, sK, ke0, ke1, ke2, ke3, ke4, ke5, if_pos h6, kcl (show j < 1000 by omega)] <;> rfl)
def s_trace (I : Nat → Nat → Int32) (r : Nat → Int32) (v : Int32) : sT := if 0 ≤ v ∧ v ≤ I 81 20 - 1 then (I 91 v.toNatClampNeg, r, 0) else sN r
set_option maxHeartbeats 2000000 in
set_option maxRecDepth 20000 in
theorem m_trace (hd : 2 ≤ d) (hT : ∃ c, I 81 20 = nI c ∧ c ≤ 40) (v : Int32) : Ct E d mX9_trace 0 0 [.ref 81, .int v] (kJ (kset I 82 r)) (kT I (s_trace I r v)) := by
  obtain ⟨c, hc, h4⟩ := hT
  refine Ct.of (L := [some (.ref 81), some (.int v)]) rfl rfl (Nat.le_of_ble_eq_true rfl) ?_
  refine il1 (n := 1) dX9_trace_0 rfl ?_
  refine k_iconst (a := 0) (n := 2) dX9_trace_1 rfl rfl ?_
  refine al0 (n := 3) dX9_trace_2 rfl ?_
  refine gX9_212 (n := 6) dX9_trace_3 rfl rfl rfl ?_
  try rw [kset_ne _ _ (show (81 : Nat) ≠ 82 by decide)]
  refine k_iconst (a := 1) (n := 7) dX9_trace_6 rfl rfl ?_
  refine k_isub (n := 8) dX9_trace_7 rfl ?_
  refine qiX9_41 (n := 11) dX9_trace_8 rfl rfl (Nat.le_of_ble_eq_true rfl) (by omega) (m_in _ _ _) (Nat.le_refl _) (Nat.le_refl _) ?_
  refine k_ifb_eq (t := 23) (n := 14) dX9_trace_11 (by decide) rfl (fun h11 => ?_) (fun h11 => ?_)
  · refine al0 (n := 24) dX9_trace_23 rfl ?_
    refine cX9_199 (n := 26) dX9_trace_24 rfl rfl ?_
    refine qiX9_46 (n := 29) dX9_trace_26 rfl rfl (Nat.le_of_ble_eq_true rfl) (by omega) rfl (m_errs 2 _ (by decide) rfl) (Nat.le_refl _) (Nat.le_refl _) ?_
    refine k_ireturn (ty := .int) dX9_trace_29 rfl rfl (Nat.le_refl _) (Nat.le_refl _) ?_
    (refine ⟨?_, ?_⟩ <;> simp only [kT, s_trace, sB, sN, sS, sF, sK, ke0, ke1, ke2, ke3, ke4, ke5, if_neg h11] <;> rfl)
  · obtain ⟨j, hj, rfl⟩ := kix (show 0 ≤ v ∧ v ≤ nI c - 1 from hc ▸ h11) (by omega)
    refine al0 (n := 15) dX9_trace_14 rfl ?_
    refine gX9_37 (n := 18) dX9_trace_15 rfl rfl rfl rfl ?_
    refine il1 (n := 19) dX9_trace_18 rfl ?_
    refine j_iald (j := j) (n := 20) dX9_trace_19 rfl rfl rfl (by omega) (by decide) ?_
    try rw [kset_ne _ _ (show (91 : Nat) ≠ 82 by decide)]
    refine k_goto (n := 29) dX9_trace_20 (by decide) ?_
    refine k_ireturn (ty := .int) dX9_trace_29 rfl rfl (Nat.le_refl _) (Nat.le_refl _) ?_
    (refine ⟨?_, ?_⟩ <;> simp only [kT, s_trace, sB, sN, sS, sF, sK, ke0, ke1, ke2, ke3, ke4, ke5, if_pos h11, kcl (show j < 1000 by omega)] <;> rfl)
def s_become (r : Nat → Int32) (v q : Int32) : sT := if 0 ≤ v ∧ v ≤ r 9 - 1 then if 0 ≤ q ∧ q ≤ 69 then (r (29 + 7 * v.toNatClampNeg), upd (upd r (29 + 7 * v.toNatClampNeg + 1) (q - q / 10 * 10)) (29 + 7 * v.toNatClampNeg) (q / 10), 0) else sB r else sB r
set_option maxHeartbeats 2000000 in
set_option maxRecDepth 20000 in
theorem m_become (hd : 2 ≤ d) (hR : RI r) (v q : Int32) : Ct E d mX9_become 0 0 [.ref 81, .int v, .int q] (kJ (kset I 82 r)) (kT I (s_become r v q)) := by
  refine Ct.of (L := [some (.ref 81), some (.int v), some (.int q)]) rfl rfl (Nat.le_of_ble_eq_true rfl) ?_
  refine al0 (n := 1) dX9_become_0 rfl ?_
  refine il1 (n := 2) dX9_become_1 rfl ?_
  refine qiX9_67 (n := 5) dX9_become_2 rfl rfl (Nat.le_of_ble_eq_true rfl) (by omega) rfl (m_isCrosser (by omega) _) (Nat.le_refl _) (Nat.le_refl _) ?_
  refine k_ifb_eq (t := 18) (n := 8) dX9_become_5 (by decide) rfl (fun h5 => ?_) (fun h5 => ?_)
  · refine al0 (n := 19) dX9_become_18 rfl ?_
    refine cX9_45 (n := 21) dX9_become_19 rfl rfl ?_
    refine qiX9_46 (n := 24) dX9_become_21 rfl rfl (Nat.le_of_ble_eq_true rfl) (by omega) rfl (m_errs 1 _ (by decide) rfl) (Nat.le_refl _) (Nat.le_refl _) ?_
    refine k_ireturn (ty := .int) dX9_become_24 rfl rfl (Nat.le_refl _) (Nat.le_refl _) ?_
    (refine ⟨?_, ?_⟩ <;> simp only [kT, s_become, sB, ke0, ke1, if_neg h5] <;> first | rfl | (rw [pk_un (by omega)]))
  · obtain ⟨j, hj, rfl⟩ := kixC hR h5
    refine il2 (n := 9) dX9_become_8 rfl ?_
    refine k_iconst (a := 0) (n := 10) dX9_become_9 rfl rfl ?_
    refine k_bipush (a := 69) (n := 12) dX9_become_10 rfl rfl ?_
    refine qiX9_41 (n := 15) dX9_become_12 rfl rfl (Nat.le_of_ble_eq_true rfl) (by omega) (m_in _ _ _) (Nat.le_refl _) (Nat.le_refl _) ?_
    refine k_ifb_ne (t := 25) (n := 18) dX9_become_15 (by decide) rfl (fun h15 => ?_) (fun h15 => ?_)
    · refine al0 (n := 26) dX9_become_25 rfl ?_
      refine il1 (n := 27) dX9_become_26 rfl ?_
      refine k_iconst (a := 1) (n := 28) dX9_become_27 rfl rfl ?_
      refine il2 (n := 29) dX9_become_28 rfl ?_
      refine k_bipush (a := 10) (n := 31) dX9_become_29 rfl rfl ?_
      refine k_irem (n := 32) dX9_become_31 rfl (by decide) ?_
      refine qiX9_63 (n := 35) dX9_become_32 rfl rfl (Nat.le_of_ble_eq_true rfl) (by omega) rfl (m_gets j 1 _ hj (by decide)) (Nat.le_refl _) (Nat.le_refl _) ?_
      refine al0 (n := 36) dX9_become_35 rfl ?_
      refine k_bipush (a := 29) (n := 38) dX9_become_36 rfl rfl ?_
      refine k_bipush (a := 7) (n := 40) dX9_become_38 rfl rfl ?_
      refine il1 (n := 41) dX9_become_40 rfl ?_
      refine k_imul (n := 42) dX9_become_41 rfl ?_
      refine k_iadd (n := 43) dX9_become_42 rfl ?_
      refine il2 (n := 44) dX9_become_43 rfl ?_
      refine k_bipush (a := 10) (n := 46) dX9_become_44 rfl rfl ?_
      refine k_idiv (n := 47) dX9_become_46 rfl (by decide) ?_
      rw [show (29 : Int32) + 7 * nI j = nI (29 + 7 * j) by show nI 29 + nI 7 * nI j = _; rw [pk_mul, nI_add]]
      refine qiX9_51 (n := 50) dX9_become_47 rfl rfl (Nat.le_of_ble_eq_true rfl) (by omega) rfl (m_becomes (29 + 7 * j) _ (by omega)) (Nat.le_refl _) (Nat.le_refl _) ?_
      refine k_ireturn (ty := .int) dX9_become_50 rfl rfl (Nat.le_refl _) (Nat.le_refl _) ?_
      (refine ⟨?_, ?_⟩ <;> simp only [kT, s_become, sB, ke0, ke1, if_pos h5, kcl (show j < 1000 by omega), if_pos h15] <;> first | rfl | (rw [pk_un (by omega)]))
    · refine al0 (n := 19) dX9_become_18 rfl ?_
      refine cX9_45 (n := 21) dX9_become_19 rfl rfl ?_
      refine qiX9_46 (n := 24) dX9_become_21 rfl rfl (Nat.le_of_ble_eq_true rfl) (by omega) rfl (m_errs 1 _ (by decide) rfl) (Nat.le_refl _) (Nat.le_refl _) ?_
      refine k_ireturn (ty := .int) dX9_become_24 rfl rfl (Nat.le_refl _) (Nat.le_refl _) ?_
      (refine ⟨?_, ?_⟩ <;> simp only [kT, s_become, sB, ke0, ke1, if_pos h5, kcl (show j < 1000 by omega), if_neg h15] <;> first | rfl | (rw [pk_un (by omega)]))
end M3

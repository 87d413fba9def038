theorem RI.kind {r : Nat → Int32} (hR : RI r) {j : Nat} (hj : j < 8) : ∃ c, r (29 + 7 * j) = nI c ∧ c < 7 := (hR.2.2.2.2.2.2.2.1 j hj).1
theorem RI.place {r : Nat → Int32} (hR : RI r) {j : Nat} (hj : j < 8) : ∃ c, r (29 + 7 * j + 4) = nI c ∧ c < 8 := (hR.2.2.2.2.2.2.2.1 j hj).2
theorem RI_upd {r : Nat → Int32} (hR : RI r) {i : Nat} (v : Int32) (h : i ≠ 9 ∧ i ≠ 8 ∧ i ≠ 11 ∧ i ≠ 3 ∧ i ≠ 4 ∧ i ≠ 5 ∧ i ≠ 1 ∧ i ≠ 6 ∧ i ≠ 7) (h2 : ∀ k, k < 8 → i ≠ 29 + 7 * k ∧ i ≠ 29 + 7 * k + 4) : RI (upd r i v) := by
  obtain ⟨a1, a2, a3, a4, a5, a6, a7, a8, a9⟩ := hR
  have e : ∀ j, j ≠ i → upd r i v j = r j := fun j hj => pk_un hj
  refine ⟨?_, ?_, ?_, ?_, ?_, ?_, ?_, fun k hk => ?_, fun k hk => ?_⟩
  · rw [e 9 (by omega)]; exact a1
  · rw [e 8 (by omega)]; exact a2
  · rw [e 11 (by omega)]; exact a3
  · rw [e 3 (by omega)]; exact a4
  · rw [e 4 (by omega)]; exact a5
  · rw [e 5 (by omega)]; exact a6
  · rw [e 1 (by omega)]; exact a7
  · rw [e _ (fun q => (h2 k hk).1 q.symm), e _ (fun q => (h2 k hk).2 q.symm)]; exact a8 k hk
  · rw [e _ (by omega)]; exact a9 k hk
def wearF (r : Nat → Int32) (j : Nat) : Int32 := if r (29 + 7 * j) = 1 then 0 else if r (29 + 7 * j) = 4 then r (29 + 7 * j + 1) else if r (29 + 7 * j) = 2 then 1 + r (29 + 7 * j + 3) / 10 else if r (29 + 7 * j) = 5 then 1 + r (29 + 7 * j + 3) / 10 else if r (29 + 7 * j) = 6 then 2 else 1
def needF (r : Nat → Int32) (j : Nat) : Int32 :=
  let v := lawF r 0 (r (29 + 7 * j + 2)) (r (29 + 7 * j + 3)) (r 1)
  let l := if v ≤ 1 then 1 else v - 1
  let c := v + (r (29 + 7 * j + 1) - r (29 + 7 * j + 1) / 3 * 3)
  if r (29 + 7 * j) = 1 then l else if r (29 + 7 * j) = 4 then l + 2 else if r (29 + 7 * j) = 2 then c else if r (29 + 7 * j) = 5 then 2 * c else if r (29 + 7 * j) = 3 then 1 else if r (29 + 7 * j) = 6 then 3 else v
/-- nobody turns it -/
abbrev stF (r : Nat → Int32) : Prop := r 8 = 0 ∨ r (21 + 2 * (r 11).toNatClampNeg) ≤ r (21 + 2 * (r 11).toNatClampNeg + 1)
abbrev frF (r : Nat → Int32) (p : Int32) (n : Nat) : Prop := ∀ i, i < n → ¬ (r (29 + 7 * i + 5) = 1 ∧ r (29 + 7 * i + 4) = p)
section M6
variable {E : kE} {d : Nat} {I : Nat → Nat → Int32} {r : Nat → Int32}
set_option maxHeartbeats 2000000 in
set_option maxRecDepth 20000 in
theorem m_wears (hd : 1 ≤ d) (hR : RI r) (j : Nat) (hj : j < 8) : Ct E d mX9_wears 0 0 [.ref 81, .int (nI j)] (kJ (kset I 82 r)) (kR (wearF r j) (kset I 82 r)) := by
  obtain ⟨c, hc, h7⟩ := hR.kind hj
  refine Ct.of (L := [some (.ref 81), some (.int (nI j))]) rfl rfl (Nat.le_of_ble_eq_true rfl) ?_
  refine al0 (n := 1) dX9_wears_0 rfl ?_
  refine il1 (n := 2) dX9_wears_1 rfl ?_
  refine k_iconst (a := 0) (n := 3) dX9_wears_2 rfl rfl ?_
  refine qiX9_80 (n := 6) dX9_wears_3 rfl rfl (Nat.le_of_ble_eq_true rfl) (by omega) rfl (m_its j 0 hj (by decide)) (Nat.le_refl _) (Nat.le_refl _) ?_
  rw [Nat.add_zero (29 + 7 * j)]
  rw [hc]
  rcases (show c = 0 ∨ c = 1 ∨ c = 2 ∨ c = 3 ∨ c = 4 ∨ c = 5 ∨ c = 6 by omega) with rfl | rfl | rfl | rfl | rfl | rfl | rfl
  · refine k_swOut (t := 67) dX9_wears_6 (Or.inl (by decide)) (by decide) ?_
    refine k_iconst (a := 1) (n := 68) dX9_wears_67 rfl rfl ?_
    refine k_ireturn (ty := .int) dX9_wears_68 rfl rfl (Nat.le_refl _) (Nat.le_refl _) ?_
    exact ⟨by simp only [wearF, hc]; rfl, rfl⟩
  · refine k_swIn (t := 44) (off := 38) dX9_wears_6 (by decide) (by decide) (by decide) (by decide) ?_
    refine k_iconst (a := 0) (n := 45) dX9_wears_44 rfl rfl ?_
    refine k_ireturn (ty := .int) dX9_wears_45 rfl rfl (Nat.le_refl _) (Nat.le_refl _) ?_
    exact ⟨by simp only [wearF, hc]; rfl, rfl⟩
  · refine k_swIn (t := 53) (off := 47) dX9_wears_6 (by decide) (by decide) (by decide) (by decide) ?_
    refine k_iconst (a := 1) (n := 54) dX9_wears_53 rfl rfl ?_
    refine al0 (n := 55) dX9_wears_54 rfl ?_
    refine il1 (n := 56) dX9_wears_55 rfl ?_
    refine k_iconst (a := 3) (n := 57) dX9_wears_56 rfl rfl ?_
    refine qiX9_80 (n := 60) dX9_wears_57 rfl rfl (Nat.le_of_ble_eq_true rfl) (by omega) rfl (m_its j 3 hj (by decide)) (Nat.le_refl _) (Nat.le_refl _) ?_
    refine k_bipush (a := 10) (n := 62) dX9_wears_60 rfl rfl ?_
    refine k_idiv (n := 63) dX9_wears_62 rfl (by decide) ?_
    refine k_iadd (n := 64) dX9_wears_63 rfl ?_
    refine k_ireturn (ty := .int) dX9_wears_64 rfl rfl (Nat.le_refl _) (Nat.le_refl _) ?_
    exact ⟨by simp only [wearF, hc]; rfl, rfl⟩
  · refine k_swIn (t := 67) (off := 61) dX9_wears_6 (by decide) (by decide) (by decide) (by decide) ?_
    refine k_iconst (a := 1) (n := 68) dX9_wears_67 rfl rfl ?_
    refine k_ireturn (ty := .int) dX9_wears_68 rfl rfl (Nat.le_refl _) (Nat.le_refl _) ?_
    exact ⟨by simp only [wearF, hc]; rfl, rfl⟩
  · refine k_swIn (t := 46) (off := 40) dX9_wears_6 (by decide) (by decide) (by decide) (by decide) ?_
    refine al0 (n := 47) dX9_wears_46 rfl ?_
    refine il1 (n := 48) dX9_wears_47 rfl ?_
    refine k_iconst (a := 1) (n := 49) dX9_wears_48 rfl rfl ?_
    refine qiX9_80 (n := 52) dX9_wears_49 rfl rfl (Nat.le_of_ble_eq_true rfl) (by omega) rfl (m_its j 1 hj (by decide)) (Nat.le_refl _) (Nat.le_refl _) ?_
    refine k_ireturn (ty := .int) dX9_wears_52 rfl rfl (Nat.le_refl _) (Nat.le_refl _) ?_
    exact ⟨by simp only [wearF, hc]; rfl, rfl⟩
  · refine k_swIn (t := 53) (off := 47) dX9_wears_6 (by decide) (by decide) (by decide) (by decide) ?_
    refine k_iconst (a := 1) (n := 54) dX9_wears_53 rfl rfl ?_
    refine al0 (n := 55) dX9_wears_54 rfl ?_
    refine il1 (n := 56) dX9_wears_55 rfl ?_
    refine k_iconst (a := 3) (n := 57) dX9_wears_56 rfl rfl ?_
    refine qiX9_80 (n := 60) dX9_wears_57 rfl rfl (Nat.le_of_ble_eq_true rfl) (by omega) rfl (m_its j 3 hj (by decide)) (Nat.le_refl _) (Nat.le_refl _) ?_
    refine k_bipush (a := 10) (n := 62) dX9_wears_60 rfl rfl ?_
    refine k_idiv (n := 63) dX9_wears_62 rfl (by decide) ?_
    refine k_iadd (n := 64) dX9_wears_63 rfl ?_
    refine k_ireturn (ty := .int) dX9_wears_64 rfl rfl (Nat.le_refl _) (Nat.le_refl _) ?_
    exact ⟨by simp only [wearF, hc]; rfl, rfl⟩
  · refine k_swIn (t := 65) (off := 59) dX9_wears_6 (by decide) (by decide) (by decide) (by decide) ?_
    refine k_iconst (a := 2) (n := 66) dX9_wears_65 rfl rfl ?_
    refine k_ireturn (ty := .int) dX9_wears_66 rfl rfl (Nat.le_refl _) (Nat.le_refl _) ?_
    exact ⟨by simp only [wearF, hc]; rfl, rfl⟩
set_option maxHeartbeats 2000000 in
set_option maxRecDepth 20000 in
theorem m_isStanding (hR : RI r) : Ct E d mX9_isStanding 0 0 [.ref 81] (kJ (kset I 82 r)) (kR (kb (stF r)) (kset I 82 r)) := by
  obtain ⟨-, -, ⟨c, hc, h4⟩, -⟩ := id hR
  have hcl : (r 11).toNatClampNeg = c := by rw [hc]; exact kcl (by omega)
  refine Ct.of (L := [some (.ref 81), none]) rfl rfl (Nat.le_of_ble_eq_true rfl) ?_
  refine k_bipush (a := 21) (n := 2) dX9_isStanding_0 rfl rfl ?_
  refine k_iconst (a := 2) (n := 3) dX9_isStanding_2 rfl rfl ?_
  refine al0 (n := 4) dX9_isStanding_3 rfl ?_
  refine gX9_7 (n := 7) dX9_isStanding_4 rfl rfl rfl rfl ?_
  refine k_bipush (a := 11) (n := 9) dX9_isStanding_7 rfl rfl ?_
  refine js_iald (j := 11) (n := 10) dX9_isStanding_9 rfl rfl rfl (by decide) (by decide) ?_
  refine k_imul (n := 11) dX9_isStanding_10 rfl ?_
  refine k_iadd (n := 12) dX9_isStanding_11 rfl ?_
  refine is1 (n := 13) dX9_isStanding_12 rfl trivial ?_
  refine al0 (n := 14) dX9_isStanding_13 rfl ?_
  refine gX9_7 (n := 17) dX9_isStanding_14 rfl rfl rfl rfl ?_
  refine k_bipush (a := 8) (n := 19) dX9_isStanding_17 rfl rfl ?_
  refine js_iald (j := 8) (n := 20) dX9_isStanding_19 rfl rfl rfl (by decide) (by decide) ?_
  refine k_if_eq (t := 40) (n := 23) dX9_isStanding_20 (by decide) rfl (fun h20 => ?_) (fun h20 => ?_)
  · refine k_iconst (a := 1) (n := 41) dX9_isStanding_40 rfl rfl ?_
    refine k_goto (n := 45) dX9_isStanding_41 (by decide) ?_
    refine k_ireturn (ty := .boolean) dX9_isStanding_45 rfl (by first | rfl | exact knb _) (Nat.le_refl _) (Nat.le_refl _) ?_
    first | exact kRt (Or.inl h20) | exact kRt (Or.inr (by rw [hcl]; exact Int32.not_lt.mp h37)) | exact kRf (fun h => h.elim h20 (fun h => by rw [hcl] at h; exact Int32.not_lt.mpr h h37))
  · refine al0 (n := 24) dX9_isStanding_23 rfl ?_
    refine gX9_7 (n := 27) dX9_isStanding_24 rfl rfl rfl rfl ?_
    refine il1 (n := 28) dX9_isStanding_27 rfl ?_
    refine k_iconst (a := 1) (n := 29) dX9_isStanding_28 rfl rfl ?_
    refine k_iadd (n := 30) dX9_isStanding_29 rfl ?_
    refine js_iald (j := 21 + 2 * c + 1) (n := 31) dX9_isStanding_30 rfl rfl (by rw [hc]; show nI 21 + nI 2 * nI c + nI 1 = _; rw [pk_mul, nI_add, nI_add]) (by omega) (by decide) ?_
    refine al0 (n := 32) dX9_isStanding_31 rfl ?_
    refine gX9_7 (n := 35) dX9_isStanding_32 rfl rfl rfl rfl ?_
    refine il1 (n := 36) dX9_isStanding_35 rfl ?_
    refine js_iald (j := 21 + 2 * c) (n := 37) dX9_isStanding_36 rfl rfl (by rw [hc]; show nI 21 + nI 2 * nI c = _; rw [pk_mul, nI_add]) (by omega) (by decide) ?_
    refine k_icmp_lt (t := 44) (n := 40) dX9_isStanding_37 (by decide) rfl (fun h37 => ?_) (fun h37 => ?_)
    · refine k_iconst (a := 0) (n := 45) dX9_isStanding_44 rfl rfl ?_
      refine k_ireturn (ty := .boolean) dX9_isStanding_45 rfl (by first | rfl | exact knb _) (Nat.le_refl _) (Nat.le_refl _) ?_
      first | exact kRt (Or.inl h20) | exact kRt (Or.inr (by rw [hcl]; exact Int32.not_lt.mp h37)) | exact kRf (fun h => h.elim h20 (fun h => by rw [hcl] at h; exact Int32.not_lt.mpr h h37))
    · refine k_iconst (a := 1) (n := 41) dX9_isStanding_40 rfl rfl ?_
      refine k_goto (n := 45) dX9_isStanding_41 (by decide) ?_
      refine k_ireturn (ty := .boolean) dX9_isStanding_45 rfl (by first | rfl | exact knb _) (Nat.le_refl _) (Nat.le_refl _) ?_
      first | exact kRt (Or.inl h20) | exact kRt (Or.inr (by rw [hcl]; exact Int32.not_lt.mp h37)) | exact kRf (fun h => h.elim h20 (fun h => by rw [hcl] at h; exact Int32.not_lt.mpr h h37))
set_option maxHeartbeats 2000000 in
set_option maxRecDepth 20000 in
theorem m_isFree_l (p : Int32) (c : Nat) (hc : r 9 = nI c) (h8 : c ≤ 8) (hd : 1 ≤ d) (m : Nat) : ∀ (i : Nat), i + m = c → Wd E d mX9_isFree 0 0 0 0 4 [some (.ref 81), some (.int p), some (.int (kb (frF r p i))), some (.int (nI i))] [] (kJ (kset I 82 r)) (kR (kb (frF r p c)) (kset I 82 r)) := by
  induction m with
  | zero =>
    intro i hi
    have e : i = c := by omega
    subst e
    refine il3 (n := 5) dX9_isFree_4 rfl ?_
    refine al0 (n := 6) dX9_isFree_5 rfl ?_
    refine gX9_7 (n := 9) dX9_isFree_6 rfl rfl rfl rfl ?_
    refine k_bipush (a := 9) (n := 11) dX9_isFree_9 rfl rfl ?_
    refine js_iald (j := 9) (n := 12) dX9_isFree_11 rfl rfl rfl (by decide) (by decide) ?_
    refine k_icmp_ge (t := 51) (n := 15) dX9_isFree_12 (by decide) rfl (fun h12 => ?_) (fun h12 => ?_)
    · refine il2 (n := 52) dX9_isFree_51 rfl ?_
      refine k_ireturn (ty := .boolean) dX9_isFree_52 rfl (by first | rfl | exact knb _) (Nat.le_refl _) (Nat.le_refl _) ?_
      exact ⟨rfl, rfl⟩
    · exact absurd (by rw [hc]; exact Int32.le_refl _) h12
  | succ m ih =>
    intro i hi
    refine il3 (n := 5) dX9_isFree_4 rfl ?_
    refine al0 (n := 6) dX9_isFree_5 rfl ?_
    refine gX9_7 (n := 9) dX9_isFree_6 rfl rfl rfl rfl ?_
    refine k_bipush (a := 9) (n := 11) dX9_isFree_9 rfl rfl ?_
    refine js_iald (j := 9) (n := 12) dX9_isFree_11 rfl rfl rfl (by decide) (by decide) ?_
    refine k_icmp_ge (t := 51) (n := 15) dX9_isFree_12 (by decide) rfl (fun h12 => ?_) (fun h12 => ?_)
    · exact absurd h12 (by rw [hc]; exact nI_ge (by omega) (by omega))
    · refine il2 (n := 16) dX9_isFree_15 rfl ?_
      refine k_ifb_eq (t := 43) (n := 19) dX9_isFree_16 (by decide) rfl (fun h16 => ?_) (fun h16 => ?_)
      · refine k_iconst (a := 0) (n := 44) dX9_isFree_43 rfl rfl ?_
        refine is2 (n := 45) dX9_isFree_44 rfl trivial ?_
        refine ii3 (n := 48) dX9_isFree_45 rfl (ki1 _) trivial ?_
        rw [nI_1]
        refine k_goto (n := 4) dX9_isFree_48 (by decide) ?_
        have e : frF r p (i + 1) ↔ frF r p i ∧ ¬ (r (29 + 7 * i + 5) = 1 ∧ r (29 + 7 * i + 4) = p) := ⟨fun h => ⟨fun k hk => h k (by omega), h i (by omega)⟩, fun h k hk => by
          rcases Nat.lt_or_ge k i with q | q
          · exact h.1 k q
          · rw [show k = i by omega]; exact h.2⟩
        have h := ih (i + 1) (by omega)
        first
          | (rw [kb_t (e.mpr ⟨by assumption, fun q => absurd q.1 (by assumption)⟩)] at h; exact h)
          | (rw [kb_t (e.mpr ⟨by assumption, fun q => absurd q.2 (by assumption)⟩)] at h; exact h)
          | (rw [kb_f (fun q => (by assumption : ¬ frF r p i) (e.mp q).1)] at h; exact h)
          | (rw [kb_f (fun q => (e.mp q).2 ⟨by assumption, by assumption⟩)] at h; exact h)
      · refine al0 (n := 20) dX9_isFree_19 rfl ?_
        refine il3 (n := 21) dX9_isFree_20 rfl ?_
        refine k_iconst (a := 5) (n := 22) dX9_isFree_21 rfl rfl ?_
        refine qiX9_80 (n := 25) dX9_isFree_22 rfl rfl (Nat.le_of_ble_eq_true rfl) (by omega) rfl (m_its i 5 (by omega) (by decide)) (Nat.le_refl _) (Nat.le_refl _) ?_
        refine k_iconst (a := 1) (n := 26) dX9_isFree_25 rfl rfl ?_
        refine k_icmp_ne (t := 39) (n := 29) dX9_isFree_26 (by decide) rfl (fun h26 => ?_) (fun h26 => ?_)
        · refine k_iconst (a := 1) (n := 40) dX9_isFree_39 rfl rfl ?_
          refine k_goto (n := 44) dX9_isFree_40 (by decide) ?_
          refine is2 (n := 45) dX9_isFree_44 rfl trivial ?_
          refine ii3 (n := 48) dX9_isFree_45 rfl (ki1 _) trivial ?_
          rw [nI_1]
          refine k_goto (n := 4) dX9_isFree_48 (by decide) ?_
          have e : frF r p (i + 1) ↔ frF r p i ∧ ¬ (r (29 + 7 * i + 5) = 1 ∧ r (29 + 7 * i + 4) = p) := ⟨fun h => ⟨fun k hk => h k (by omega), h i (by omega)⟩, fun h k hk => by
            rcases Nat.lt_or_ge k i with q | q
            · exact h.1 k q
            · rw [show k = i by omega]; exact h.2⟩
          have h := ih (i + 1) (by omega)
          first
            | (rw [kb_t (e.mpr ⟨by assumption, fun q => absurd q.1 (by assumption)⟩)] at h; exact h)
            | (rw [kb_t (e.mpr ⟨by assumption, fun q => absurd q.2 (by assumption)⟩)] at h; exact h)
            | (rw [kb_f (fun q => (by assumption : ¬ frF r p i) (e.mp q).1)] at h; exact h)
            | (rw [kb_f (fun q => (e.mp q).2 ⟨by assumption, by assumption⟩)] at h; exact h)
        · refine al0 (n := 30) dX9_isFree_29 rfl ?_
          refine il3 (n := 31) dX9_isFree_30 rfl ?_
          refine k_iconst (a := 4) (n := 32) dX9_isFree_31 rfl rfl ?_
          refine qiX9_80 (n := 35) dX9_isFree_32 rfl rfl (Nat.le_of_ble_eq_true rfl) (by omega) rfl (m_its i 4 (by omega) (by decide)) (Nat.le_refl _) (Nat.le_refl _) ?_
          refine il1 (n := 36) dX9_isFree_35 rfl ?_
          refine k_icmp_eq (t := 43) (n := 39) dX9_isFree_36 (by decide) rfl (fun h36 => ?_) (fun h36 => ?_)
          · refine k_iconst (a := 0) (n := 44) dX9_isFree_43 rfl rfl ?_
            refine is2 (n := 45) dX9_isFree_44 rfl trivial ?_
            refine ii3 (n := 48) dX9_isFree_45 rfl (ki1 _) trivial ?_
            rw [nI_1]
            refine k_goto (n := 4) dX9_isFree_48 (by decide) ?_
            have e : frF r p (i + 1) ↔ frF r p i ∧ ¬ (r (29 + 7 * i + 5) = 1 ∧ r (29 + 7 * i + 4) = p) := ⟨fun h => ⟨fun k hk => h k (by omega), h i (by omega)⟩, fun h k hk => by
              rcases Nat.lt_or_ge k i with q | q
              · exact h.1 k q
              · rw [show k = i by omega]; exact h.2⟩
            have h := ih (i + 1) (by omega)
            first
              | (rw [kb_t (e.mpr ⟨by assumption, fun q => absurd q.1 (by assumption)⟩)] at h; exact h)
              | (rw [kb_t (e.mpr ⟨by assumption, fun q => absurd q.2 (by assumption)⟩)] at h; exact h)
              | (rw [kb_f (fun q => (by assumption : ¬ frF r p i) (e.mp q).1)] at h; exact h)
              | (rw [kb_f (fun q => (e.mp q).2 ⟨by assumption, by assumption⟩)] at h; exact h)
          · refine k_iconst (a := 1) (n := 40) dX9_isFree_39 rfl rfl ?_
            refine k_goto (n := 44) dX9_isFree_40 (by decide) ?_
            refine is2 (n := 45) dX9_isFree_44 rfl trivial ?_
            refine ii3 (n := 48) dX9_isFree_45 rfl (ki1 _) trivial ?_
            rw [nI_1]
            refine k_goto (n := 4) dX9_isFree_48 (by decide) ?_
            have e : frF r p (i + 1) ↔ frF r p i ∧ ¬ (r (29 + 7 * i + 5) = 1 ∧ r (29 + 7 * i + 4) = p) := ⟨fun h => ⟨fun k hk => h k (by omega), h i (by omega)⟩, fun h k hk => by
              rcases Nat.lt_or_ge k i with q | q
              · exact h.1 k q
              · rw [show k = i by omega]; exact h.2⟩
            have h := ih (i + 1) (by omega)
            first
              | (rw [kb_t (e.mpr ⟨by assumption, fun q => absurd q.1 (by assumption)⟩)] at h; exact h)
              | (rw [kb_t (e.mpr ⟨by assumption, fun q => absurd q.2 (by assumption)⟩)] at h; exact h)
              | (rw [kb_f (fun q => (by assumption : ¬ frF r p i) (e.mp q).1)] at h; exact h)
              | (rw [kb_f (fun q => (e.mp q).2 ⟨by assumption, by assumption⟩)] at h; exact h)
set_option maxHeartbeats 2000000 in
set_option maxRecDepth 20000 in
theorem m_isFree (hd : 1 ≤ d) (hR : RI r) (p : Int32) : Ct E d mX9_isFree 0 0 [.ref 81, .int p] (kJ (kset I 82 r)) (kR (kb (frF r p (sMany r))) (kset I 82 r)) := by
  obtain ⟨⟨c, hc, h8⟩, -⟩ := hR
  have e : sMany r = c := by unfold sMany; rw [hc]; exact kcl (by omega)
  rw [e]
  refine Ct.of (L := [some (.ref 81), some (.int p), none, none]) rfl rfl (Nat.le_of_ble_eq_true rfl) ?_
  refine k_iconst (a := 1) (n := 1) dX9_isFree_0 rfl rfl ?_
  refine is2 (n := 2) dX9_isFree_1 rfl trivial ?_
  refine k_iconst (a := 0) (n := 3) dX9_isFree_2 rfl rfl ?_
  refine is3 (n := 4) dX9_isFree_3 rfl trivial ?_
  have h := m_isFree_l (E := E) (d := d) (I := I) (r := r) p c hc h8 hd c 0 (by omega)
  rw [kb_t (show frF r p 0 from fun i hi => absurd hi (by omega))] at h
  exact h
end M6

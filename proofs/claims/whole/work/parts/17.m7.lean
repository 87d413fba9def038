section M7
variable {E : kE} {d : Nat} {I : Nat → Nat → Int32} {r : Nat → Int32}
set_option maxHeartbeats 2000000 in
set_option maxRecDepth 20000 in
theorem m_needs (hd : 61 ≤ d) (hR : RI r) (j : Nat) (hj : j < 8) : Ct E d mX9_needs 0 0 [.ref 81, .int (nI j)] (kJ (kset I 82 r)) (kS1 (needF r j) I r) := by
  obtain ⟨c, hc, h7⟩ := hR.kind hj
  refine Ct.of (L := [some (.ref 81), some (.int (nI j)), none, none, none]) rfl rfl (Nat.le_of_ble_eq_true rfl) ?_
  refine al0 (n := 1) dX9_needs_0 rfl ?_
  refine k_iconst (a := 0) (n := 2) dX9_needs_1 rfl rfl ?_
  refine al0 (n := 3) dX9_needs_2 rfl ?_
  refine il1 (n := 4) dX9_needs_3 rfl ?_
  refine k_iconst (a := 2) (n := 5) dX9_needs_4 rfl rfl ?_
  refine qiX9_80 (n := 8) dX9_needs_5 rfl rfl (Nat.le_of_ble_eq_true rfl) (by omega) rfl (m_its j 2 hj (by decide)) (Nat.le_refl _) (Nat.le_refl _) ?_
  refine al0 (n := 9) dX9_needs_8 rfl ?_
  refine il1 (n := 10) dX9_needs_9 rfl ?_
  refine k_iconst (a := 3) (n := 11) dX9_needs_10 rfl rfl ?_
  refine qiX9_80 (n := 14) dX9_needs_11 rfl rfl (Nat.le_of_ble_eq_true rfl) (by omega) rfl (m_its j 3 hj (by decide)) (Nat.le_refl _) (Nat.le_refl _) ?_
  refine al0 (n := 15) dX9_needs_14 rfl ?_
  refine gX9_7 (n := 18) dX9_needs_15 rfl rfl rfl rfl ?_
  refine k_iconst (a := 1) (n := 19) dX9_needs_18 rfl rfl ?_
  refine js_iald (j := 1) (n := 20) dX9_needs_19 rfl rfl rfl (by decide) (by decide) ?_
  refine qX9_158 (n := 23) dX9_needs_20 rfl rfl (Nat.le_of_ble_eq_true rfl) (by omega) (Nat.le_refl _) (Nat.le_refl _) rfl (m_lawOf (by omega) hR 0 (by decide) _ _ _) ?_
  rintro _ _ ⟨J1, rfl, rfl, hJ1⟩
  dsimp only [Option.toList, List.cons_append, List.nil_append, Nat.add_zero]
  refine is2 (n := 24) dX9_needs_23 rfl trivial ?_
  refine il2 (n := 25) dX9_needs_24 rfl ?_
  refine k_iconst (a := 1) (n := 26) dX9_needs_25 rfl rfl ?_
  refine k_icmp_le (t := 35) (n := 29) dX9_needs_26 (by decide) rfl (fun h26 => ?_) (fun h26 => ?_)
  · refine k_iconst (a := 1) (n := 36) dX9_needs_35 rfl rfl ?_
    refine is3 (n := 37) dX9_needs_36 rfl trivial ?_
    refine il2 (n := 38) dX9_needs_37 rfl ?_
    refine al0 (n := 39) dX9_needs_38 rfl ?_
    refine il1 (n := 40) dX9_needs_39 rfl ?_
    refine k_iconst (a := 1) (n := 41) dX9_needs_40 rfl rfl ?_
    refine qiX9_80 (n := 44) dX9_needs_41 rfl rfl (Nat.le_of_ble_eq_true rfl) (by omega) rfl (m_its j 1 hj (by decide)) (Nat.le_refl _) (Nat.le_refl _) ?_
    refine k_iconst (a := 3) (n := 45) dX9_needs_44 rfl rfl ?_
    refine k_irem (n := 46) dX9_needs_45 rfl (by decide) ?_
    refine k_iadd (n := 47) dX9_needs_46 rfl ?_
    refine is4 (n := 49) dX9_needs_47 rfl trivial ?_
    refine al0 (n := 50) dX9_needs_49 rfl ?_
    refine il1 (n := 51) dX9_needs_50 rfl ?_
    refine k_iconst (a := 0) (n := 52) dX9_needs_51 rfl rfl ?_
    refine qiX9_80 (n := 55) dX9_needs_52 rfl rfl (Nat.le_of_ble_eq_true rfl) (by omega) rfl (m_its j 0 hj (by decide)) (Nat.le_refl _) (Nat.le_refl _) ?_
    rw [Nat.add_zero (29 + 7 * j)]
    rw [hc]
    rcases (show c = 0 ∨ c = 1 ∨ c = 2 ∨ c = 3 ∨ c = 4 ∨ c = 5 ∨ c = 6 by omega) with rfl | rfl | rfl | rfl | rfl | rfl | rfl
    · refine k_swOut (t := 110) dX9_needs_55 (Or.inl (by decide)) (by decide) ?_
      refine il2 (n := 111) dX9_needs_110 rfl ?_
      refine k_ireturn (ty := .int) dX9_needs_111 rfl rfl (Nat.le_refl _) (Nat.le_refl _) ?_
      exact ⟨J1, by simp only [needF, hc, if_pos h26, if_neg (show ¬ nI 0 = 1 by decide), if_neg (show ¬ nI 0 = 2 by decide), if_neg (show ¬ nI 0 = 3 by decide), if_neg (show ¬ nI 0 = 4 by decide), if_neg (show ¬ nI 0 = 5 by decide), if_neg (show ¬ nI 0 = 6 by decide)], rfl, hJ1⟩
    · refine k_swIn (t := 92) (off := 37) dX9_needs_55 (by decide) (by decide) (by decide) (by decide) ?_
      refine il3 (n := 93) dX9_needs_92 rfl ?_
      refine k_ireturn (ty := .int) dX9_needs_93 rfl rfl (Nat.le_refl _) (Nat.le_refl _) ?_
      exact ⟨J1, by simp only [needF, hc, if_pos h26, if_pos (show nI 1 = 1 from rfl), if_neg (show ¬ nI 1 = 2 by decide), if_neg (show ¬ nI 1 = 3 by decide), if_neg (show ¬ nI 1 = 4 by decide), if_neg (show ¬ nI 1 = 5 by decide), if_neg (show ¬ nI 1 = 6 by decide)], rfl, hJ1⟩
    · refine k_swIn (t := 98) (off := 43) dX9_needs_55 (by decide) (by decide) (by decide) (by decide) ?_
      refine il4 (n := 100) dX9_needs_98 rfl ?_
      refine k_ireturn (ty := .int) dX9_needs_100 rfl rfl (Nat.le_refl _) (Nat.le_refl _) ?_
      exact ⟨J1, by simp only [needF, hc, if_pos h26, if_neg (show ¬ nI 2 = 1 by decide), if_pos (show nI 2 = 2 from rfl), if_neg (show ¬ nI 2 = 3 by decide), if_neg (show ¬ nI 2 = 4 by decide), if_neg (show ¬ nI 2 = 5 by decide), if_neg (show ¬ nI 2 = 6 by decide)], rfl, hJ1⟩
    · refine k_swIn (t := 106) (off := 51) dX9_needs_55 (by decide) (by decide) (by decide) (by decide) ?_
      refine k_iconst (a := 1) (n := 107) dX9_needs_106 rfl rfl ?_
      refine k_ireturn (ty := .int) dX9_needs_107 rfl rfl (Nat.le_refl _) (Nat.le_refl _) ?_
      exact ⟨J1, by simp only [needF, hc, if_pos h26, if_neg (show ¬ nI 3 = 1 by decide), if_neg (show ¬ nI 3 = 2 by decide), if_pos (show nI 3 = 3 from rfl), if_neg (show ¬ nI 3 = 4 by decide), if_neg (show ¬ nI 3 = 5 by decide), if_neg (show ¬ nI 3 = 6 by decide)], rfl, hJ1⟩
    · refine k_swIn (t := 94) (off := 39) dX9_needs_55 (by decide) (by decide) (by decide) (by decide) ?_
      refine il3 (n := 95) dX9_needs_94 rfl ?_
      refine k_iconst (a := 2) (n := 96) dX9_needs_95 rfl rfl ?_
      refine k_iadd (n := 97) dX9_needs_96 rfl ?_
      refine k_ireturn (ty := .int) dX9_needs_97 rfl rfl (Nat.le_refl _) (Nat.le_refl _) ?_
      exact ⟨J1, by simp only [needF, hc, if_pos h26, if_neg (show ¬ nI 4 = 1 by decide), if_neg (show ¬ nI 4 = 2 by decide), if_neg (show ¬ nI 4 = 3 by decide), if_pos (show nI 4 = 4 from rfl), if_neg (show ¬ nI 4 = 5 by decide), if_neg (show ¬ nI 4 = 6 by decide)], rfl, hJ1⟩
    · refine k_swIn (t := 101) (off := 46) dX9_needs_55 (by decide) (by decide) (by decide) (by decide) ?_
      refine k_iconst (a := 2) (n := 102) dX9_needs_101 rfl rfl ?_
      refine il4 (n := 104) dX9_needs_102 rfl ?_
      refine k_imul (n := 105) dX9_needs_104 rfl ?_
      refine k_ireturn (ty := .int) dX9_needs_105 rfl rfl (Nat.le_refl _) (Nat.le_refl _) ?_
      exact ⟨J1, by simp only [needF, hc, if_pos h26, if_neg (show ¬ nI 5 = 1 by decide), if_neg (show ¬ nI 5 = 2 by decide), if_neg (show ¬ nI 5 = 3 by decide), if_neg (show ¬ nI 5 = 4 by decide), if_pos (show nI 5 = 5 from rfl), if_neg (show ¬ nI 5 = 6 by decide)], rfl, hJ1⟩
    · refine k_swIn (t := 108) (off := 53) dX9_needs_55 (by decide) (by decide) (by decide) (by decide) ?_
      refine k_iconst (a := 3) (n := 109) dX9_needs_108 rfl rfl ?_
      refine k_ireturn (ty := .int) dX9_needs_109 rfl rfl (Nat.le_refl _) (Nat.le_refl _) ?_
      exact ⟨J1, by simp only [needF, hc, if_pos h26, if_neg (show ¬ nI 6 = 1 by decide), if_neg (show ¬ nI 6 = 2 by decide), if_neg (show ¬ nI 6 = 3 by decide), if_neg (show ¬ nI 6 = 4 by decide), if_neg (show ¬ nI 6 = 5 by decide), if_pos (show nI 6 = 6 from rfl)], rfl, hJ1⟩
  · refine il2 (n := 30) dX9_needs_29 rfl ?_
    refine k_iconst (a := 1) (n := 31) dX9_needs_30 rfl rfl ?_
    refine k_isub (n := 32) dX9_needs_31 rfl ?_
    refine k_goto (n := 36) dX9_needs_32 (by decide) ?_
    refine is3 (n := 37) dX9_needs_36 rfl trivial ?_
    refine il2 (n := 38) dX9_needs_37 rfl ?_
    refine al0 (n := 39) dX9_needs_38 rfl ?_
    refine il1 (n := 40) dX9_needs_39 rfl ?_
    refine k_iconst (a := 1) (n := 41) dX9_needs_40 rfl rfl ?_
    refine qiX9_80 (n := 44) dX9_needs_41 rfl rfl (Nat.le_of_ble_eq_true rfl) (by omega) rfl (m_its j 1 hj (by decide)) (Nat.le_refl _) (Nat.le_refl _) ?_
    refine k_iconst (a := 3) (n := 45) dX9_needs_44 rfl rfl ?_
    refine k_irem (n := 46) dX9_needs_45 rfl (by decide) ?_
    refine k_iadd (n := 47) dX9_needs_46 rfl ?_
    refine is4 (n := 49) dX9_needs_47 rfl trivial ?_
    refine al0 (n := 50) dX9_needs_49 rfl ?_
    refine il1 (n := 51) dX9_needs_50 rfl ?_
    refine k_iconst (a := 0) (n := 52) dX9_needs_51 rfl rfl ?_
    refine qiX9_80 (n := 55) dX9_needs_52 rfl rfl (Nat.le_of_ble_eq_true rfl) (by omega) rfl (m_its j 0 hj (by decide)) (Nat.le_refl _) (Nat.le_refl _) ?_
    rw [Nat.add_zero (29 + 7 * j)]
    rw [hc]
    rcases (show c = 0 ∨ c = 1 ∨ c = 2 ∨ c = 3 ∨ c = 4 ∨ c = 5 ∨ c = 6 by omega) with rfl | rfl | rfl | rfl | rfl | rfl | rfl
    · refine k_swOut (t := 110) dX9_needs_55 (Or.inl (by decide)) (by decide) ?_
      refine il2 (n := 111) dX9_needs_110 rfl ?_
      refine k_ireturn (ty := .int) dX9_needs_111 rfl rfl (Nat.le_refl _) (Nat.le_refl _) ?_
      exact ⟨J1, by simp only [needF, hc, if_neg h26, if_neg (show ¬ nI 0 = 1 by decide), if_neg (show ¬ nI 0 = 2 by decide), if_neg (show ¬ nI 0 = 3 by decide), if_neg (show ¬ nI 0 = 4 by decide), if_neg (show ¬ nI 0 = 5 by decide), if_neg (show ¬ nI 0 = 6 by decide)], rfl, hJ1⟩
    · refine k_swIn (t := 92) (off := 37) dX9_needs_55 (by decide) (by decide) (by decide) (by decide) ?_
      refine il3 (n := 93) dX9_needs_92 rfl ?_
      refine k_ireturn (ty := .int) dX9_needs_93 rfl rfl (Nat.le_refl _) (Nat.le_refl _) ?_
      exact ⟨J1, by simp only [needF, hc, if_neg h26, if_pos (show nI 1 = 1 from rfl), if_neg (show ¬ nI 1 = 2 by decide), if_neg (show ¬ nI 1 = 3 by decide), if_neg (show ¬ nI 1 = 4 by decide), if_neg (show ¬ nI 1 = 5 by decide), if_neg (show ¬ nI 1 = 6 by decide)], rfl, hJ1⟩
    · refine k_swIn (t := 98) (off := 43) dX9_needs_55 (by decide) (by decide) (by decide) (by decide) ?_
      refine il4 (n := 100) dX9_needs_98 rfl ?_
      refine k_ireturn (ty := .int) dX9_needs_100 rfl rfl (Nat.le_refl _) (Nat.le_refl _) ?_
      exact ⟨J1, by simp only [needF, hc, if_neg h26, if_neg (show ¬ nI 2 = 1 by decide), if_pos (show nI 2 = 2 from rfl), if_neg (show ¬ nI 2 = 3 by decide), if_neg (show ¬ nI 2 = 4 by decide), if_neg (show ¬ nI 2 = 5 by decide), if_neg (show ¬ nI 2 = 6 by decide)], rfl, hJ1⟩
    · refine k_swIn (t := 106) (off := 51) dX9_needs_55 (by decide) (by decide) (by decide) (by decide) ?_
      refine k_iconst (a := 1) (n := 107) dX9_needs_106 rfl rfl ?_
      refine k_ireturn (ty := .int) dX9_needs_107 rfl rfl (Nat.le_refl _) (Nat.le_refl _) ?_
      exact ⟨J1, by simp only [needF, hc, if_neg h26, if_neg (show ¬ nI 3 = 1 by decide), if_neg (show ¬ nI 3 = 2 by decide), if_pos (show nI 3 = 3 from rfl), if_neg (show ¬ nI 3 = 4 by decide), if_neg (show ¬ nI 3 = 5 by decide), if_neg (show ¬ nI 3 = 6 by decide)], rfl, hJ1⟩
    · refine k_swIn (t := 94) (off := 39) dX9_needs_55 (by decide) (by decide) (by decide) (by decide) ?_
      refine il3 (n := 95) dX9_needs_94 rfl ?_
      refine k_iconst (a := 2) (n := 96) dX9_needs_95 rfl rfl ?_
      refine k_iadd (n := 97) dX9_needs_96 rfl ?_
      refine k_ireturn (ty := .int) dX9_needs_97 rfl rfl (Nat.le_refl _) (Nat.le_refl _) ?_
      exact ⟨J1, by simp only [needF, hc, if_neg h26, if_neg (show ¬ nI 4 = 1 by decide), if_neg (show ¬ nI 4 = 2 by decide), if_neg (show ¬ nI 4 = 3 by decide), if_pos (show nI 4 = 4 from rfl), if_neg (show ¬ nI 4 = 5 by decide), if_neg (show ¬ nI 4 = 6 by decide)], rfl, hJ1⟩
    · refine k_swIn (t := 101) (off := 46) dX9_needs_55 (by decide) (by decide) (by decide) (by decide) ?_
      refine k_iconst (a := 2) (n := 102) dX9_needs_101 rfl rfl ?_
      refine il4 (n := 104) dX9_needs_102 rfl ?_
      refine k_imul (n := 105) dX9_needs_104 rfl ?_
      refine k_ireturn (ty := .int) dX9_needs_105 rfl rfl (Nat.le_refl _) (Nat.le_refl _) ?_
      exact ⟨J1, by simp only [needF, hc, if_neg h26, if_neg (show ¬ nI 5 = 1 by decide), if_neg (show ¬ nI 5 = 2 by decide), if_neg (show ¬ nI 5 = 3 by decide), if_neg (show ¬ nI 5 = 4 by decide), if_pos (show nI 5 = 5 from rfl), if_neg (show ¬ nI 5 = 6 by decide)], rfl, hJ1⟩
    · refine k_swIn (t := 108) (off := 53) dX9_needs_55 (by decide) (by decide) (by decide) (by decide) ?_
      refine k_iconst (a := 3) (n := 109) dX9_needs_108 rfl rfl ?_
      refine k_ireturn (ty := .int) dX9_needs_109 rfl rfl (Nat.le_refl _) (Nat.le_refl _) ?_
      exact ⟨J1, by simp only [needF, hc, if_neg h26, if_neg (show ¬ nI 6 = 1 by decide), if_neg (show ¬ nI 6 = 2 by decide), if_neg (show ¬ nI 6 = 3 by decide), if_neg (show ¬ nI 6 = 4 by decide), if_neg (show ¬ nI 6 = 5 by decide), if_pos (show nI 6 = 6 from rfl)], rfl, hJ1⟩
def jmpF (r : Nat → Int32) (j : Nat) (at_ : Int32) : Nat → Int32 :=
  let q := 13 + (r (29 + 7 * j + 4)).toNatClampNeg
  let r1 := upd r (29 + 7 * j + 6) (heldF (r (29 + 7 * j + 6) - 1) 0 99)
  if lawF r 1 (r (29 + 7 * j + 2)) (r q) at_ = 1 then upd r1 q (heldF (r1 q + wearF r1 j) 0 999) else upd r (29 + 7 * j + 5) 3
theorem RI_j {r : Nat → Int32} (hR : RI r) {j q : Nat} (hj : j < 8) (hq : q = 5 ∨ q = 6) (v : Int32) : RI (upd r (29 + 7 * j + q) v) := RI_upd hR v (by omega) (fun k hk => by omega)
theorem RI_w {r : Nat → Int32} (hR : RI r) {p : Nat} (hp : p < 8) (v : Int32) : RI (upd r (13 + p) v) := RI_upd hR v (by omega) (fun k hk => by omega)
theorem RI_t {r : Nat → Int32} (hR : RI r) {p : Nat} (hp : p < 4) (v : Int32) : RI (upd r (21 + 2 * p + 1) v) := RI_upd hR v (by omega) (fun k hk => by omega)
theorem RI_c {r : Nat → Int32} (hR : RI r) {i : Nat} (hi : i = 0 ∨ i = 2 ∨ i = 10 ∨ i = 12) (v : Int32) : RI (upd r i v) := RI_upd hR v (by omega) (fun k hk => by omega)
theorem RI_jmp {r : Nat → Int32} (hR : RI r) {j : Nat} (hj : j < 8) (a : Int32) : RI (jmpF r j a) := by
  obtain ⟨p, hp, h8⟩ := hR.place hj
  have e : (r (29 + 7 * j + 4)).toNatClampNeg = p := by rw [hp]; exact kcl (by omega)
  unfold jmpF
  simp only [e]
  split
  · exact RI_w (RI_j hR hj (Or.inr rfl) _) h8 _
  · exact RI_j hR hj (Or.inl rfl) _
set_option maxHeartbeats 2000000 in
set_option maxRecDepth 20000 in
theorem m_jumpsOrNot (hd : 61 ≤ d) (hR : RI r) (j : Nat) (hj : j < 8) (a : Int32) : Ct E d mX9_jumpsOrNot 0 0 [.ref 81, .int (nI j), .int a] (kJ (kset I 82 r)) (kSv I (jmpF r j a)) := by
  obtain ⟨p, hp, h8⟩ := hR.place hj
  have e : (r (29 + 7 * j + 4)).toNatClampNeg = p := by rw [hp]; exact kcl (by omega)
  refine Ct.of (L := [some (.ref 81), some (.int (nI j)), some (.int a), none]) rfl rfl (Nat.le_of_ble_eq_true rfl) ?_
  refine k_bipush (a := 13) (n := 2) dX9_jumpsOrNot_0 rfl rfl ?_
  refine al0 (n := 3) dX9_jumpsOrNot_2 rfl ?_
  refine il1 (n := 4) dX9_jumpsOrNot_3 rfl ?_
  refine k_iconst (a := 4) (n := 5) dX9_jumpsOrNot_4 rfl rfl ?_
  refine qiX9_80 (n := 8) dX9_jumpsOrNot_5 rfl rfl (Nat.le_of_ble_eq_true rfl) (by omega) rfl (m_its j 4 hj (by decide)) (Nat.le_refl _) (Nat.le_refl _) ?_
  rw [hp]
  refine k_iadd (n := 9) dX9_jumpsOrNot_8 rfl ?_
  rw [show (13 : Int32) + nI p = nI (13 + p) from nI_add 13 p]
  refine is3 (n := 10) dX9_jumpsOrNot_9 rfl trivial ?_
  refine al0 (n := 11) dX9_jumpsOrNot_10 rfl ?_
  refine k_iconst (a := 1) (n := 12) dX9_jumpsOrNot_11 rfl rfl ?_
  refine al0 (n := 13) dX9_jumpsOrNot_12 rfl ?_
  refine il1 (n := 14) dX9_jumpsOrNot_13 rfl ?_
  refine k_iconst (a := 2) (n := 15) dX9_jumpsOrNot_14 rfl rfl ?_
  refine qiX9_80 (n := 18) dX9_jumpsOrNot_15 rfl rfl (Nat.le_of_ble_eq_true rfl) (by omega) rfl (m_its j 2 hj (by decide)) (Nat.le_refl _) (Nat.le_refl _) ?_
  refine al0 (n := 19) dX9_jumpsOrNot_18 rfl ?_
  refine gX9_7 (n := 22) dX9_jumpsOrNot_19 rfl rfl rfl rfl ?_
  refine il3 (n := 23) dX9_jumpsOrNot_22 rfl ?_
  refine js_iald (j := 13 + p) (n := 24) dX9_jumpsOrNot_23 rfl rfl rfl (by omega) (by decide) ?_
  refine il2 (n := 25) dX9_jumpsOrNot_24 rfl ?_
  refine qX9_158 (n := 28) dX9_jumpsOrNot_25 rfl rfl (Nat.le_of_ble_eq_true rfl) (by omega) (Nat.le_refl _) (Nat.le_refl _) rfl (m_lawOf (by omega) hR 1 (by decide) _ _ _) ?_
  rintro _ _ ⟨J1, rfl, rfl, hJ1⟩
  dsimp only [Option.toList, List.cons_append, List.nil_append, Nat.add_zero]
  refine k_iconst (a := 1) (n := 29) dX9_jumpsOrNot_28 rfl rfl ?_
  refine k_icmp_ne (t := 82) (n := 32) dX9_jumpsOrNot_29 (by decide) rfl (fun h29 => ?_) (fun h29 => ?_)
  · refine al0 (n := 83) dX9_jumpsOrNot_82 rfl ?_
    refine il1 (n := 84) dX9_jumpsOrNot_83 rfl ?_
    refine k_iconst (a := 5) (n := 85) dX9_jumpsOrNot_84 rfl rfl ?_
    refine k_iconst (a := 3) (n := 86) dX9_jumpsOrNot_85 rfl rfl ?_
    refine qiX9_63 (n := 89) dX9_jumpsOrNot_86 rfl rfl (Nat.le_of_ble_eq_true rfl) (by omega) rfl (m_gets j 5 _ hj (by decide)) (Nat.le_refl _) (Nat.le_refl _) ?_
    refine k_return dX9_jumpsOrNot_89 rfl (Nat.le_refl _) (Nat.le_refl _) ?_
    exact ⟨J1, rfl, by simp only [jmpF, e, if_neg h29] <;> rfl, hJ1⟩
  · refine al0 (n := 33) dX9_jumpsOrNot_32 rfl ?_
    refine il1 (n := 34) dX9_jumpsOrNot_33 rfl ?_
    refine k_bipush (a := 6) (n := 36) dX9_jumpsOrNot_34 rfl rfl ?_
    refine al0 (n := 37) dX9_jumpsOrNot_36 rfl ?_
    refine il1 (n := 38) dX9_jumpsOrNot_37 rfl ?_
    refine k_bipush (a := 6) (n := 40) dX9_jumpsOrNot_38 rfl rfl ?_
    refine qiX9_80 (n := 43) dX9_jumpsOrNot_40 rfl rfl (Nat.le_of_ble_eq_true rfl) (by omega) rfl (m_its j 6 hj (by decide)) (Nat.le_refl _) (Nat.le_refl _) ?_
    refine k_iconst (a := 1) (n := 44) dX9_jumpsOrNot_43 rfl rfl ?_
    refine k_isub (n := 45) dX9_jumpsOrNot_44 rfl ?_
    refine k_iconst (a := 0) (n := 46) dX9_jumpsOrNot_45 rfl rfl ?_
    refine k_bipush (a := 99) (n := 48) dX9_jumpsOrNot_46 rfl rfl ?_
    refine qiX9_154 (n := 51) dX9_jumpsOrNot_48 rfl rfl (Nat.le_of_ble_eq_true rfl) (by omega) (m_held _ _ _) (Nat.le_refl _) (Nat.le_refl _) ?_
    refine qiX9_63 (n := 54) dX9_jumpsOrNot_51 rfl rfl (Nat.le_of_ble_eq_true rfl) (by omega) rfl (m_gets j 6 _ hj (by decide)) (Nat.le_refl _) (Nat.le_refl _) ?_
    refine al0 (n := 55) dX9_jumpsOrNot_54 rfl ?_
    refine gX9_7 (n := 58) dX9_jumpsOrNot_55 rfl rfl rfl rfl ?_
    refine il3 (n := 59) dX9_jumpsOrNot_58 rfl ?_
    refine al0 (n := 60) dX9_jumpsOrNot_59 rfl ?_
    refine gX9_7 (n := 63) dX9_jumpsOrNot_60 rfl rfl rfl rfl ?_
    refine il3 (n := 64) dX9_jumpsOrNot_63 rfl ?_
    refine js_iald (j := 13 + p) (n := 65) dX9_jumpsOrNot_64 rfl rfl rfl (by omega) (by decide) ?_
    refine al0 (n := 66) dX9_jumpsOrNot_65 rfl ?_
    refine il1 (n := 67) dX9_jumpsOrNot_66 rfl ?_
    refine qiX9_73 (n := 70) dX9_jumpsOrNot_67 rfl rfl (Nat.le_of_ble_eq_true rfl) (by omega) rfl (m_wears (by omega) (RI_j hR hj (Or.inr rfl) _) j hj) (Nat.le_refl _) (Nat.le_refl _) ?_
    refine k_iadd (n := 71) dX9_jumpsOrNot_70 rfl ?_
    refine k_iconst (a := 0) (n := 72) dX9_jumpsOrNot_71 rfl rfl ?_
    refine k_sipush (a := 999) (n := 75) dX9_jumpsOrNot_72 rfl rfl ?_
    refine qiX9_154 (n := 78) dX9_jumpsOrNot_75 rfl rfl (Nat.le_of_ble_eq_true rfl) (by omega) (m_held _ _ _) (Nat.le_refl _) (Nat.le_refl _) ?_
    refine js_iast (j := 13 + p) (n := 79) dX9_jumpsOrNot_78 rfl rfl rfl (by omega) (by decide) ?_
    refine k_goto (n := 89) dX9_jumpsOrNot_79 (by decide) ?_
    refine k_return dX9_jumpsOrNot_89 rfl (Nat.le_refl _) (Nat.le_refl _) ?_
    exact ⟨J1, rfl, by simp only [jmpF, e, if_pos h29] <;> rfl, hJ1⟩
def movF (r : Nat → Int32) (j : Nat) : Nat → Int32 :=
  let a := r 0 - r 0 / r 1 * r 1
  let dn := (r 10 >>> (a &&& 31)) &&& 1 = 1
  if r (29 + 7 * j + 5) = 1 then (if dn then jmpF r j a else if r (29 + 7 * j + 6) = 0 then upd r (29 + 7 * j + 5) 2 else r)
  else if r (29 + 7 * j + 5) = 0 then (if (r 12 >>> (nI j &&& 31)) &&& 1 = 1 then (if dn then r else if frF r (r (29 + 7 * j + 4)) (sMany r) then upd (upd r (29 + 7 * j + 5) 1) (29 + 7 * j + 6) (needF (upd r (29 + 7 * j + 5) 1) j) else r) else r) else r
theorem RI_mov {r : Nat → Int32} (hR : RI r) {j : Nat} (hj : j < 8) : RI (movF r j) := by
  unfold movF
  (try dsimp only)
  repeat' split
  all_goals first | exact hR | exact RI_jmp hR hj _ | exact RI_j hR hj (Or.inl rfl) _ | exact RI_j (RI_j hR hj (Or.inl rfl) _) hj (Or.inr rfl) _
set_option maxHeartbeats 2000000 in
set_option maxRecDepth 20000 in
theorem m_moves (hd : 62 ≤ d) (hR : RI r) (j : Nat) (hj : j < 8) : Ct E d mX9_moves 0 0 [.ref 81, .int (nI j)] (kJ (kset I 82 r)) (kSv I (movF r j)) := by
  refine Ct.of (L := [some (.ref 81), some (.int (nI j)), none, none]) rfl rfl (Nat.le_of_ble_eq_true rfl) ?_
  refine al0 (n := 1) dX9_moves_0 rfl ?_
  refine gX9_7 (n := 4) dX9_moves_1 rfl rfl rfl rfl ?_
  refine k_iconst (a := 0) (n := 5) dX9_moves_4 rfl rfl ?_
  refine js_iald (j := 0) (n := 6) dX9_moves_5 rfl rfl rfl (by decide) (by decide) ?_
  refine al0 (n := 7) dX9_moves_6 rfl ?_
  refine gX9_7 (n := 10) dX9_moves_7 rfl rfl rfl rfl ?_
  refine k_iconst (a := 1) (n := 11) dX9_moves_10 rfl rfl ?_
  refine js_iald (j := 1) (n := 12) dX9_moves_11 rfl rfl rfl (by decide) (by decide) ?_
  refine k_irem (n := 13) dX9_moves_12 rfl (by obtain ⟨-, -, -, -, -, -, ⟨c, hc, h1, h2⟩, -⟩ := hR; rw [hc]; exact nI_ne0 (by omega) (by omega)) ?_
  refine is2 (n := 14) dX9_moves_13 rfl trivial ?_
  refine al0 (n := 15) dX9_moves_14 rfl ?_
  refine gX9_7 (n := 18) dX9_moves_15 rfl rfl rfl rfl ?_
  refine k_bipush (a := 10) (n := 20) dX9_moves_18 rfl rfl ?_
  refine js_iald (j := 10) (n := 21) dX9_moves_20 rfl rfl rfl (by decide) (by decide) ?_
  refine il2 (n := 22) dX9_moves_21 rfl ?_
  refine qiX9_76 (n := 25) dX9_moves_22 rfl rfl (Nat.le_of_ble_eq_true rfl) (by omega) (m_has _ _) (Nat.le_refl _) (Nat.le_refl _) ?_
  refine is3 (n := 26) dX9_moves_25 rfl trivial ?_
  refine al0 (n := 27) dX9_moves_26 rfl ?_
  refine il1 (n := 28) dX9_moves_27 rfl ?_
  refine k_iconst (a := 5) (n := 29) dX9_moves_28 rfl rfl ?_
  refine qiX9_80 (n := 32) dX9_moves_29 rfl rfl (Nat.le_of_ble_eq_true rfl) (by omega) rfl (m_its j 5 hj (by decide)) (Nat.le_refl _) (Nat.le_refl _) ?_
  refine k_iconst (a := 1) (n := 33) dX9_moves_32 rfl rfl ?_
  refine k_icmp_ne (t := 69) (n := 36) dX9_moves_33 (by decide) rfl (fun h33 => ?_) (fun h33 => ?_)
  · refine al0 (n := 70) dX9_moves_69 rfl ?_
    refine il1 (n := 71) dX9_moves_70 rfl ?_
    refine k_iconst (a := 5) (n := 72) dX9_moves_71 rfl rfl ?_
    refine qiX9_80 (n := 75) dX9_moves_72 rfl rfl (Nat.le_of_ble_eq_true rfl) (by omega) rfl (m_its j 5 hj (by decide)) (Nat.le_refl _) (Nat.le_refl _) ?_
    refine k_if_ne (t := 128) (n := 78) dX9_moves_75 (by decide) rfl (fun h75 => ?_) (fun h75 => ?_)
    · refine k_return dX9_moves_128 rfl (Nat.le_refl _) (Nat.le_refl _) ?_
      first | exact ⟨J1, rfl, by simp only [movF, if_neg h33, if_neg h75], hJ1⟩ | exact ⟨_, rfl, by simp only [movF, if_neg h33, if_neg h75], kJunk.rf _⟩
    · refine al0 (n := 79) dX9_moves_78 rfl ?_
      refine gX9_7 (n := 82) dX9_moves_79 rfl rfl rfl rfl ?_
      refine k_bipush (a := 12) (n := 84) dX9_moves_82 rfl rfl ?_
      refine js_iald (j := 12) (n := 85) dX9_moves_84 rfl rfl rfl (by decide) (by decide) ?_
      refine il1 (n := 86) dX9_moves_85 rfl ?_
      refine qiX9_76 (n := 89) dX9_moves_86 rfl rfl (Nat.le_of_ble_eq_true rfl) (by omega) (m_has _ _) (Nat.le_refl _) (Nat.le_refl _) ?_
      refine k_ifb_eq (t := 128) (n := 92) dX9_moves_89 (by decide) rfl (fun h89 => ?_) (fun h89 => ?_)
      · refine k_return dX9_moves_128 rfl (Nat.le_refl _) (Nat.le_refl _) ?_
        first | exact ⟨J1, rfl, by simp only [movF, if_neg h33, if_pos h75, if_neg h89], hJ1⟩ | exact ⟨_, rfl, by simp only [movF, if_neg h33, if_pos h75, if_neg h89], kJunk.rf _⟩
      · refine il3 (n := 93) dX9_moves_92 rfl ?_
        refine k_ifb_ne (t := 128) (n := 96) dX9_moves_93 (by decide) rfl (fun h93 => ?_) (fun h93 => ?_)
        · refine k_return dX9_moves_128 rfl (Nat.le_refl _) (Nat.le_refl _) ?_
          first | exact ⟨J1, rfl, by simp only [movF, if_neg h33, if_pos h75, if_pos h89, if_pos h93], hJ1⟩ | exact ⟨_, rfl, by simp only [movF, if_neg h33, if_pos h75, if_pos h89, if_pos h93], kJunk.rf _⟩
        · refine al0 (n := 97) dX9_moves_96 rfl ?_
          refine al0 (n := 98) dX9_moves_97 rfl ?_
          refine il1 (n := 99) dX9_moves_98 rfl ?_
          refine k_iconst (a := 4) (n := 100) dX9_moves_99 rfl rfl ?_
          refine qiX9_80 (n := 103) dX9_moves_100 rfl rfl (Nat.le_of_ble_eq_true rfl) (by omega) rfl (m_its j 4 hj (by decide)) (Nat.le_refl _) (Nat.le_refl _) ?_
          refine qiX9_171 (n := 106) dX9_moves_103 rfl rfl (Nat.le_of_ble_eq_true rfl) (by omega) rfl (m_isFree (by omega) hR _) (Nat.le_refl _) (Nat.le_refl _) ?_
          refine k_ifb_eq (t := 128) (n := 109) dX9_moves_106 (by decide) rfl (fun h106 => ?_) (fun h106 => ?_)
          · refine k_return dX9_moves_128 rfl (Nat.le_refl _) (Nat.le_refl _) ?_
            first | exact ⟨J1, rfl, by simp only [movF, if_neg h33, if_pos h75, if_pos h89, if_neg h93, if_neg h106], hJ1⟩ | exact ⟨_, rfl, by simp only [movF, if_neg h33, if_pos h75, if_pos h89, if_neg h93, if_neg h106], kJunk.rf _⟩
          · refine al0 (n := 110) dX9_moves_109 rfl ?_
            refine il1 (n := 111) dX9_moves_110 rfl ?_
            refine k_iconst (a := 5) (n := 112) dX9_moves_111 rfl rfl ?_
            refine k_iconst (a := 1) (n := 113) dX9_moves_112 rfl rfl ?_
            refine qiX9_63 (n := 116) dX9_moves_113 rfl rfl (Nat.le_of_ble_eq_true rfl) (by omega) rfl (m_gets j 5 _ hj (by decide)) (Nat.le_refl _) (Nat.le_refl _) ?_
            refine al0 (n := 117) dX9_moves_116 rfl ?_
            refine il1 (n := 118) dX9_moves_117 rfl ?_
            refine k_bipush (a := 6) (n := 120) dX9_moves_118 rfl rfl ?_
            refine al0 (n := 121) dX9_moves_120 rfl ?_
            refine il1 (n := 122) dX9_moves_121 rfl ?_
            refine qX9_70 (n := 125) dX9_moves_122 rfl rfl (Nat.le_of_ble_eq_true rfl) (by omega) (Nat.le_refl _) (Nat.le_refl _) rfl (m_needs (by omega) (RI_j hR hj (Or.inl rfl) _) j hj) ?_
            rintro _ _ ⟨J1, rfl, rfl, hJ1⟩
            dsimp only [Option.toList, List.cons_append, List.nil_append, Nat.add_zero]
            refine qiX9_63 (n := 128) dX9_moves_125 rfl rfl (Nat.le_of_ble_eq_true rfl) (by omega) rfl (m_gets j 6 _ hj (by decide)) (Nat.le_refl _) (Nat.le_refl _) ?_
            refine k_return dX9_moves_128 rfl (Nat.le_refl _) (Nat.le_refl _) ?_
            first | exact ⟨J1, rfl, by simp only [movF, if_neg h33, if_pos h75, if_pos h89, if_neg h93, if_pos h106], hJ1⟩ | exact ⟨_, rfl, by simp only [movF, if_neg h33, if_pos h75, if_pos h89, if_neg h93, if_pos h106], kJunk.rf _⟩
  · refine il3 (n := 37) dX9_moves_36 rfl ?_
    refine k_ifb_eq (t := 49) (n := 40) dX9_moves_37 (by decide) rfl (fun h37 => ?_) (fun h37 => ?_)
    · refine al0 (n := 50) dX9_moves_49 rfl ?_
      refine il1 (n := 51) dX9_moves_50 rfl ?_
      refine k_bipush (a := 6) (n := 53) dX9_moves_51 rfl rfl ?_
      refine qiX9_80 (n := 56) dX9_moves_53 rfl rfl (Nat.le_of_ble_eq_true rfl) (by omega) rfl (m_its j 6 hj (by decide)) (Nat.le_refl _) (Nat.le_refl _) ?_
      refine k_if_ne (t := 128) (n := 59) dX9_moves_56 (by decide) rfl (fun h56 => ?_) (fun h56 => ?_)
      · refine k_return dX9_moves_128 rfl (Nat.le_refl _) (Nat.le_refl _) ?_
        first | exact ⟨J1, rfl, by simp only [movF, if_pos h33, if_neg h37, if_neg h56], hJ1⟩ | exact ⟨_, rfl, by simp only [movF, if_pos h33, if_neg h37, if_neg h56], kJunk.rf _⟩
      · refine al0 (n := 60) dX9_moves_59 rfl ?_
        refine il1 (n := 61) dX9_moves_60 rfl ?_
        refine k_iconst (a := 5) (n := 62) dX9_moves_61 rfl rfl ?_
        refine k_iconst (a := 2) (n := 63) dX9_moves_62 rfl rfl ?_
        refine qiX9_63 (n := 66) dX9_moves_63 rfl rfl (Nat.le_of_ble_eq_true rfl) (by omega) rfl (m_gets j 5 _ hj (by decide)) (Nat.le_refl _) (Nat.le_refl _) ?_
        refine k_goto (n := 128) dX9_moves_66 (by decide) ?_
        refine k_return dX9_moves_128 rfl (Nat.le_refl _) (Nat.le_refl _) ?_
        first | exact ⟨J1, rfl, by simp only [movF, if_pos h33, if_neg h37, if_pos h56], hJ1⟩ | exact ⟨_, rfl, by simp only [movF, if_pos h33, if_neg h37, if_pos h56], kJunk.rf _⟩
    · refine al0 (n := 41) dX9_moves_40 rfl ?_
      refine il1 (n := 42) dX9_moves_41 rfl ?_
      refine il2 (n := 43) dX9_moves_42 rfl ?_
      refine qX9_167 (n := 46) dX9_moves_43 rfl rfl (Nat.le_of_ble_eq_true rfl) (by omega) (Nat.le_refl _) (Nat.le_refl _) rfl (m_jumpsOrNot (by omega) hR j hj _) ?_
      rintro _ _ ⟨J1, rfl, rfl, hJ1⟩
      dsimp only [Option.toList, List.nil_append, Nat.add_zero]
      refine k_goto (n := 128) dX9_moves_46 (by decide) ?_
      refine k_return dX9_moves_128 rfl (Nat.le_refl _) (Nat.le_refl _) ?_
      exact ⟨J1, rfl, by simp only [movF, if_pos h33, if_pos h37], hJ1⟩
def tirF (r : Nat → Int32) : Nat → (Nat → Int32)
  | 0 => r
  | n + 1 => upd (tirF r n) (21 + 2 * n + 1) (heldF (tirF r n (21 + 2 * n + 1) + (if nI n = tirF r n 11 then 1 else -1)) 0 99)
def ovrF (r : Nat → Int32) (j : Nat) : Nat → Int32 := if r (29 + 7 * j + 5) = 1 then upd r (29 + 7 * j + 5) 2 else if r (29 + 7 * j + 5) = 0 then (if (r 12 >>> (nI j &&& 31)) &&& 1 = 1 then upd r (29 + 7 * j + 5) 2 else r) else r
def crsF (st : Prop) [Decidable st] (r : Nat → Int32) : Nat → (Nat → Int32)
  | 0 => r
  | n + 1 => if st then ovrF (crsF st r n) n else movF (crsF st r n) n
def sTurn (r : Nat → Int32) : Nat := (r 8).toNatClampNeg
def mid1 (r : Nat → Int32) : Nat → Int32 := if stF r then r else tirF r (sTurn r)
def beatF (r : Nat → Int32) : Nat → Int32 := upd (crsF (stF r) (mid1 r) (sMany r)) 0 (crsF (stF r) (mid1 r) (sMany r) 0 + 1)
theorem RI_tir {r : Nat → Int32} (hR : RI r) : ∀ n, n ≤ 4 → RI (tirF r n)
  | 0, _ => hR
  | n + 1, h => RI_t (RI_tir hR n (by omega)) (by omega) _
theorem tir_fix (r : Nat → Int32) {i : Nat} (hi : ∀ p, i ≠ 21 + 2 * p + 1) : ∀ n, tirF r n i = r i
  | 0 => rfl
  | n + 1 => by rw [tirF, pk_un (hi n)]; exact tir_fix r hi n
theorem RI_ovr {r : Nat → Int32} (hR : RI r) {j : Nat} (hj : j < 8) : RI (ovrF r j) := by
  unfold ovrF
  repeat' split
  all_goals first | exact hR | exact RI_j hR hj (Or.inl rfl) _
theorem RI_crs {st : Prop} [Decidable st] {r : Nat → Int32} (hR : RI r) : ∀ n, n ≤ 8 → RI (crsF st r n)
  | 0, _ => hR
  | n + 1, h => by
    unfold crsF
    split
    · exact RI_ovr (RI_crs hR n (by omega)) (by omega)
    · exact RI_mov (RI_crs hR n (by omega)) (by omega)
theorem RI_mid {r : Nat → Int32} (hR : RI r) : RI (mid1 r) := by
  unfold mid1
  split
  · exact hR
  · obtain ⟨-, ⟨c, hc, h4⟩, -⟩ := id hR
    exact RI_tir hR _ (by unfold sTurn; rw [hc, kcl (by omega)]; exact h4)
theorem RI_beat {r : Nat → Int32} (hR : RI r) : RI (beatF r) := by
  obtain ⟨⟨c, hc, h8⟩, -⟩ := id hR
  exact RI_c (RI_crs (RI_mid hR) _ (by unfold sMany; rw [hc, kcl (by omega)]; exact h8)) (Or.inl rfl) _
/-- what one crosser's turn leaves as it is -/
theorem jmp_fix {r : Nat → Int32} {j : Nat} {a : Int32} {i : Nat} (h : i = 9 ∨ i = 8 ∨ i = 0 ∨ i = 1 ∨ i = 10 ∨ i = 11 ∨ i = 12) : jmpF r j a i = r i := by
  unfold jmpF
  (try dsimp only)
  split
  · rw [pk_un (by omega), pk_un (by omega)]
  · rw [pk_un (by omega)]
theorem mov_fix {r : Nat → Int32} {j i : Nat} (h : i = 9 ∨ i = 8 ∨ i = 0 ∨ i = 1 ∨ i = 10 ∨ i = 11 ∨ i = 12) : movF r j i = r i := by
  unfold movF
  (try dsimp only)
  repeat' split
  all_goals first | rfl | exact jmp_fix h | exact pk_un (by omega) | exact (pk_un (by omega)).trans (pk_un (by omega))
theorem ovr_fix {r : Nat → Int32} {j i : Nat} (h : i = 9 ∨ i = 8 ∨ i = 0 ∨ i = 1 ∨ i = 10 ∨ i = 11 ∨ i = 12) : ovrF r j i = r i := by
  unfold ovrF
  repeat' split
  all_goals first | rfl | exact pk_un (by omega)
theorem crs_fix {st : Prop} [Decidable st] {r : Nat → Int32} {i : Nat} (h : i = 9 ∨ i = 8 ∨ i = 0 ∨ i = 1 ∨ i = 10 ∨ i = 11 ∨ i = 12) : ∀ n, crsF st r n i = r i
  | 0 => rfl
  | n + 1 => by
    unfold crsF
    split
    · rw [ovr_fix h]; exact crs_fix h n
    · rw [mov_fix h]; exact crs_fix h n
theorem mid_fix {r : Nat → Int32} {i : Nat} (hi : ∀ p, i ≠ 21 + 2 * p + 1) : mid1 r i = r i := by
  unfold mid1
  split
  · rfl
  · exact tir_fix r hi _
set_option maxHeartbeats 2000000 in
set_option maxRecDepth 20000 in
theorem m_beat_t (hd : 1 ≤ d) (hR : RI r) (c : Nat) (hc : r 8 = nI c) (h4 : c ≤ 4) (hs : ¬ stF r) (Q : Option Value → kM → Prop) (hQ : ∀ x3 : Option Value, Wd E d mX9_oneBeat 0 0 0 0 72 [some (.ref 81), some (.int (kb (stF r))), some (.int (nI c)), x3] [] (kJ (kset I 82 (tirF r c))) Q) (m : Nat) : ∀ (i : Nat) (x3 : Option Value), i + m = c → Wd E d mX9_oneBeat 0 0 0 0 7 [some (.ref 81), some (.int (kb (stF r))), some (.int (nI i)), x3] [] (kJ (kset I 82 (tirF r i))) Q := by
  induction m with
  | zero =>
    intro i x3 hi
    have e : i = c := by omega
    subst e
    have h8 : tirF r i 8 = nI i := (tir_fix r (by omega) i).trans hc
    refine il2 (n := 8) dX9_oneBeat_7 rfl ?_
    refine al0 (n := 9) dX9_oneBeat_8 rfl ?_
    refine gX9_7 (n := 12) dX9_oneBeat_9 rfl rfl rfl rfl ?_
    refine k_bipush (a := 8) (n := 14) dX9_oneBeat_12 rfl rfl ?_
    refine js_iald (j := 8) (n := 15) dX9_oneBeat_14 rfl rfl rfl (by decide) (by decide) ?_
    refine k_icmp_ge (t := 72) (n := 18) dX9_oneBeat_15 (by decide) rfl (fun h15 => ?_) (fun h15 => ?_)
    · exact hQ x3
    · exact absurd (by rw [h8]; exact Int32.le_refl _) h15
  | succ m ih =>
    intro i x3 hi
    have h8 : tirF r i 8 = nI c := (tir_fix r (by omega) i).trans hc
    refine il2 (n := 8) dX9_oneBeat_7 rfl ?_
    refine al0 (n := 9) dX9_oneBeat_8 rfl ?_
    refine gX9_7 (n := 12) dX9_oneBeat_9 rfl rfl rfl rfl ?_
    refine k_bipush (a := 8) (n := 14) dX9_oneBeat_12 rfl rfl ?_
    refine js_iald (j := 8) (n := 15) dX9_oneBeat_14 rfl rfl rfl (by decide) (by decide) ?_
    refine k_icmp_ge (t := 72) (n := 18) dX9_oneBeat_15 (by decide) rfl (fun h15 => ?_) (fun h15 => ?_)
    · exact absurd h15 (by rw [h8]; exact nI_ge (by omega) (by omega))
    · refine il1 (n := 19) dX9_oneBeat_18 rfl ?_
      refine k_ifb_ne (t := 72) (n := 22) dX9_oneBeat_19 (by decide) rfl (fun h19 => ?_) (fun h19 => ?_)
      · exact absurd h19 hs
      · refine k_bipush (a := 21) (n := 24) dX9_oneBeat_22 rfl rfl ?_
        refine k_iconst (a := 2) (n := 25) dX9_oneBeat_24 rfl rfl ?_
        refine il2 (n := 26) dX9_oneBeat_25 rfl ?_
        refine k_imul (n := 27) dX9_oneBeat_26 rfl ?_
        refine k_iadd (n := 28) dX9_oneBeat_27 rfl ?_
        refine k_iconst (a := 1) (n := 29) dX9_oneBeat_28 rfl rfl ?_
        refine k_iadd (n := 30) dX9_oneBeat_29 rfl ?_
        rw [show (21 : Int32) + 2 * nI i + 1 = nI (21 + 2 * i + 1) by show nI 21 + nI 2 * nI i + nI 1 = _; rw [pk_mul, nI_add, nI_add]]
        refine is3 (n := 31) dX9_oneBeat_30 rfl trivial ?_
        refine al0 (n := 32) dX9_oneBeat_31 rfl ?_
        refine gX9_7 (n := 35) dX9_oneBeat_32 rfl rfl rfl rfl ?_
        refine il3 (n := 36) dX9_oneBeat_35 rfl ?_
        refine al0 (n := 37) dX9_oneBeat_36 rfl ?_
        refine gX9_7 (n := 40) dX9_oneBeat_37 rfl rfl rfl rfl ?_
        refine il3 (n := 41) dX9_oneBeat_40 rfl ?_
        refine js_iald (j := 21 + 2 * i + 1) (n := 42) dX9_oneBeat_41 rfl rfl rfl (by omega) (by decide) ?_
        refine il2 (n := 43) dX9_oneBeat_42 rfl ?_
        refine al0 (n := 44) dX9_oneBeat_43 rfl ?_
        refine gX9_7 (n := 47) dX9_oneBeat_44 rfl rfl rfl rfl ?_
        refine k_bipush (a := 11) (n := 49) dX9_oneBeat_47 rfl rfl ?_
        refine js_iald (j := 11) (n := 50) dX9_oneBeat_49 rfl rfl rfl (by decide) (by decide) ?_
        refine k_icmp_ne (t := 57) (n := 53) dX9_oneBeat_50 (by decide) rfl (fun h50 => ?_) (fun h50 => ?_)
        · refine k_iconst (a := (-1)) (n := 58) dX9_oneBeat_57 rfl rfl ?_
          refine k_iadd (n := 59) dX9_oneBeat_58 rfl ?_
          refine k_iconst (a := 0) (n := 60) dX9_oneBeat_59 rfl rfl ?_
          refine k_bipush (a := 99) (n := 62) dX9_oneBeat_60 rfl rfl ?_
          refine qiX9_154 (n := 65) dX9_oneBeat_62 rfl rfl (Nat.le_of_ble_eq_true rfl) (by omega) (m_held _ _ _) (Nat.le_refl _) (Nat.le_refl _) ?_
          refine js_iast (j := 21 + 2 * i + 1) (n := 66) dX9_oneBeat_65 rfl rfl rfl (by omega) (by decide) ?_
          refine ii2 (n := 69) dX9_oneBeat_66 rfl (ki1 _) trivial ?_
          rw [nI_1]
          refine k_goto (n := 7) dX9_oneBeat_69 (by decide) ?_
          have h := ih (i + 1) (some (.int (nI (21 + 2 * i + 1)))) (by omega)
          simp only [tirF, heldF, if_neg h15, if_neg h19, if_neg h50] at h
          exact h
        · refine k_iconst (a := 1) (n := 54) dX9_oneBeat_53 rfl rfl ?_
          refine k_goto (n := 58) dX9_oneBeat_54 (by decide) ?_
          refine k_iadd (n := 59) dX9_oneBeat_58 rfl ?_
          refine k_iconst (a := 0) (n := 60) dX9_oneBeat_59 rfl rfl ?_
          refine k_bipush (a := 99) (n := 62) dX9_oneBeat_60 rfl rfl ?_
          refine qiX9_154 (n := 65) dX9_oneBeat_62 rfl rfl (Nat.le_of_ble_eq_true rfl) (by omega) (m_held _ _ _) (Nat.le_refl _) (Nat.le_refl _) ?_
          refine js_iast (j := 21 + 2 * i + 1) (n := 66) dX9_oneBeat_65 rfl rfl rfl (by omega) (by decide) ?_
          refine ii2 (n := 69) dX9_oneBeat_66 rfl (ki1 _) trivial ?_
          rw [nI_1]
          refine k_goto (n := 7) dX9_oneBeat_69 (by decide) ?_
          have h := ih (i + 1) (some (.int (nI (21 + 2 * i + 1)))) (by omega)
          simp only [tirF, heldF, if_neg h15, if_neg h19, if_pos h50] at h
          exact h
set_option maxHeartbeats 2000000 in
set_option maxRecDepth 20000 in
theorem m_beat_c (hd : 63 ≤ d) {st : Prop} [Decidable st] (hR : RI r) (c : Nat) (hc : r 9 = nI c) (h8 : c ≤ 8) (Q : Option Value → kM → Prop) (m : Nat) : ∀ (i : Nat) (x3 : Option Value) (J : Nat → Nat → Int32), kJunk I J → i + m = c → (∀ K, kJunk I K → Q none (kJ (kset K 82 (upd (crsF st r c) 0 (crsF st r c 0 + 1))))) → Wd E d mX9_oneBeat 0 0 0 0 74 [some (.ref 81), some (.int (kb st)), some (.int (nI i)), x3] [] (kJ (kset J 82 (crsF st r i))) Q := by
  induction m with
  | zero =>
    intro i x3 J hJ hi hQ
    have e : i = c := by omega
    subst e
    have h9 : crsF st r i 9 = nI i := (crs_fix (by omega) i).trans hc
    refine il2 (n := 75) dX9_oneBeat_74 rfl ?_
    refine al0 (n := 76) dX9_oneBeat_75 rfl ?_
    refine gX9_7 (n := 79) dX9_oneBeat_76 rfl rfl rfl rfl ?_
    refine k_bipush (a := 9) (n := 81) dX9_oneBeat_79 rfl rfl ?_
    refine js_iald (j := 9) (n := 82) dX9_oneBeat_81 rfl rfl rfl (by decide) (by decide) ?_
    refine k_icmp_ge (t := 143) (n := 85) dX9_oneBeat_82 (by decide) rfl (fun h82 => ?_) (fun h82 => ?_)
    · refine al0 (n := 144) dX9_oneBeat_143 rfl ?_
      refine gX9_7 (n := 147) dX9_oneBeat_144 rfl rfl rfl rfl ?_
      refine k_iconst (a := 0) (n := 148) dX9_oneBeat_147 rfl rfl ?_
      refine k_dup2 (n := 149) dX9_oneBeat_148 rfl rfl rfl ?_
      refine js_iald (j := 0) (n := 150) dX9_oneBeat_149 rfl rfl rfl (by decide) (by decide) ?_
      refine k_iconst (a := 1) (n := 151) dX9_oneBeat_150 rfl rfl ?_
      refine k_iadd (n := 152) dX9_oneBeat_151 rfl ?_
      refine js_iast (j := 0) (n := 153) dX9_oneBeat_152 rfl rfl rfl (by decide) (by decide) ?_
      refine k_return dX9_oneBeat_153 rfl (Nat.le_refl _) (Nat.le_refl _) ?_
      exact hQ J hJ
    · exact absurd (by rw [h9]; exact Int32.le_refl _) h82
  | succ m ih =>
    intro i x3 J hJ hi hQ
    have h9 : crsF st r i 9 = nI c := (crs_fix (by omega) i).trans hc
    have hRi := RI_crs (st := st) hR i (by omega)
    refine il2 (n := 75) dX9_oneBeat_74 rfl ?_
    refine al0 (n := 76) dX9_oneBeat_75 rfl ?_
    refine gX9_7 (n := 79) dX9_oneBeat_76 rfl rfl rfl rfl ?_
    refine k_bipush (a := 9) (n := 81) dX9_oneBeat_79 rfl rfl ?_
    refine js_iald (j := 9) (n := 82) dX9_oneBeat_81 rfl rfl rfl (by decide) (by decide) ?_
    refine k_icmp_ge (t := 143) (n := 85) dX9_oneBeat_82 (by decide) rfl (fun h82 => ?_) (fun h82 => ?_)
    · exact absurd h82 (by rw [h9]; exact nI_ge (by omega) (by omega))
    · refine il1 (n := 86) dX9_oneBeat_85 rfl ?_
      refine k_ifb_ne (t := 97) (n := 89) dX9_oneBeat_86 (by decide) rfl (fun h86 => ?_) (fun h86 => ?_)
      · refine al0 (n := 98) dX9_oneBeat_97 rfl ?_
        refine il2 (n := 99) dX9_oneBeat_98 rfl ?_
        refine k_iconst (a := 5) (n := 100) dX9_oneBeat_99 rfl rfl ?_
        refine qiX9_80 (n := 103) dX9_oneBeat_100 rfl rfl (Nat.le_of_ble_eq_true rfl) (by omega) rfl (m_its i 5 (by omega) (by decide)) (Nat.le_refl _) (Nat.le_refl _) ?_
        refine k_iconst (a := 1) (n := 104) dX9_oneBeat_103 rfl rfl ?_
        refine k_icmp_eq (t := 130) (n := 107) dX9_oneBeat_104 (by decide) rfl (fun h104 => ?_) (fun h104 => ?_)
        · refine al0 (n := 131) dX9_oneBeat_130 rfl ?_
          refine il2 (n := 132) dX9_oneBeat_131 rfl ?_
          refine k_iconst (a := 5) (n := 133) dX9_oneBeat_132 rfl rfl ?_
          refine k_iconst (a := 2) (n := 134) dX9_oneBeat_133 rfl rfl ?_
          refine qiX9_63 (n := 137) dX9_oneBeat_134 rfl rfl (Nat.le_of_ble_eq_true rfl) (by omega) rfl (m_gets i 5 _ (by omega) (by decide)) (Nat.le_refl _) (Nat.le_refl _) ?_
          refine ii2 (n := 140) dX9_oneBeat_137 rfl (ki1 _) trivial ?_
          rw [nI_1]
          refine k_goto (n := 74) dX9_oneBeat_140 (by decide) ?_
          first
            | (have h := ih (i + 1) x3 J1 (hJ.tr hJ1) (by omega) hQ
               simp only [crsF, ovrF, if_neg h82, if_pos h86, if_pos h104] at h
               exact h)
            | (have h := ih (i + 1) x3 J hJ (by omega) hQ
               simp only [crsF, ovrF, if_neg h82, if_pos h86, if_pos h104] at h
               exact h)
        · refine al0 (n := 108) dX9_oneBeat_107 rfl ?_
          refine il2 (n := 109) dX9_oneBeat_108 rfl ?_
          refine k_iconst (a := 5) (n := 110) dX9_oneBeat_109 rfl rfl ?_
          refine qiX9_80 (n := 113) dX9_oneBeat_110 rfl rfl (Nat.le_of_ble_eq_true rfl) (by omega) rfl (m_its i 5 (by omega) (by decide)) (Nat.le_refl _) (Nat.le_refl _) ?_
          refine k_if_ne (t := 137) (n := 116) dX9_oneBeat_113 (by decide) rfl (fun h113 => ?_) (fun h113 => ?_)
          · refine ii2 (n := 140) dX9_oneBeat_137 rfl (ki1 _) trivial ?_
            rw [nI_1]
            refine k_goto (n := 74) dX9_oneBeat_140 (by decide) ?_
            first
              | (have h := ih (i + 1) x3 J1 (hJ.tr hJ1) (by omega) hQ
                 simp only [crsF, ovrF, if_neg h82, if_pos h86, if_neg h104, if_neg h113] at h
                 exact h)
              | (have h := ih (i + 1) x3 J hJ (by omega) hQ
                 simp only [crsF, ovrF, if_neg h82, if_pos h86, if_neg h104, if_neg h113] at h
                 exact h)
          · refine al0 (n := 117) dX9_oneBeat_116 rfl ?_
            refine gX9_7 (n := 120) dX9_oneBeat_117 rfl rfl rfl rfl ?_
            refine k_bipush (a := 12) (n := 122) dX9_oneBeat_120 rfl rfl ?_
            refine js_iald (j := 12) (n := 123) dX9_oneBeat_122 rfl rfl rfl (by decide) (by decide) ?_
            refine il2 (n := 124) dX9_oneBeat_123 rfl ?_
            refine qiX9_76 (n := 127) dX9_oneBeat_124 rfl rfl (Nat.le_of_ble_eq_true rfl) (by omega) (m_has _ _) (Nat.le_refl _) (Nat.le_refl _) ?_
            refine k_ifb_eq (t := 137) (n := 130) dX9_oneBeat_127 (by decide) rfl (fun h127 => ?_) (fun h127 => ?_)
            · refine ii2 (n := 140) dX9_oneBeat_137 rfl (ki1 _) trivial ?_
              rw [nI_1]
              refine k_goto (n := 74) dX9_oneBeat_140 (by decide) ?_
              first
                | (have h := ih (i + 1) x3 J1 (hJ.tr hJ1) (by omega) hQ
                   simp only [crsF, ovrF, if_neg h82, if_pos h86, if_neg h104, if_pos h113, if_neg h127] at h
                   exact h)
                | (have h := ih (i + 1) x3 J hJ (by omega) hQ
                   simp only [crsF, ovrF, if_neg h82, if_pos h86, if_neg h104, if_pos h113, if_neg h127] at h
                   exact h)
            · refine al0 (n := 131) dX9_oneBeat_130 rfl ?_
              refine il2 (n := 132) dX9_oneBeat_131 rfl ?_
              refine k_iconst (a := 5) (n := 133) dX9_oneBeat_132 rfl rfl ?_
              refine k_iconst (a := 2) (n := 134) dX9_oneBeat_133 rfl rfl ?_
              refine qiX9_63 (n := 137) dX9_oneBeat_134 rfl rfl (Nat.le_of_ble_eq_true rfl) (by omega) rfl (m_gets i 5 _ (by omega) (by decide)) (Nat.le_refl _) (Nat.le_refl _) ?_
              refine ii2 (n := 140) dX9_oneBeat_137 rfl (ki1 _) trivial ?_
              rw [nI_1]
              refine k_goto (n := 74) dX9_oneBeat_140 (by decide) ?_
              first
                | (have h := ih (i + 1) x3 J1 (hJ.tr hJ1) (by omega) hQ
                   simp only [crsF, ovrF, if_neg h82, if_pos h86, if_neg h104, if_pos h113, if_pos h127] at h
                   exact h)
                | (have h := ih (i + 1) x3 J hJ (by omega) hQ
                   simp only [crsF, ovrF, if_neg h82, if_pos h86, if_neg h104, if_pos h113, if_pos h127] at h
                   exact h)
      · refine al0 (n := 90) dX9_oneBeat_89 rfl ?_
        refine il2 (n := 91) dX9_oneBeat_90 rfl ?_
        refine qX9_178 (n := 94) dX9_oneBeat_91 rfl rfl (Nat.le_of_ble_eq_true rfl) (by omega) (Nat.le_refl _) (Nat.le_refl _) rfl (m_moves (by omega) hRi i (by omega)) ?_
        rintro _ _ ⟨J1, rfl, rfl, hJ1⟩
        dsimp only [Option.toList, List.nil_append, Nat.add_zero]
        refine k_goto (n := 137) dX9_oneBeat_94 (by decide) ?_
        refine ii2 (n := 140) dX9_oneBeat_137 rfl (ki1 _) trivial ?_
        rw [nI_1]
        refine k_goto (n := 74) dX9_oneBeat_140 (by decide) ?_
        first
          | (have h := ih (i + 1) x3 J1 (hJ.tr hJ1) (by omega) hQ
             simp only [crsF, ovrF, if_neg h82, if_neg h86] at h
             exact h)
          | (have h := ih (i + 1) x3 J hJ (by omega) hQ
             simp only [crsF, ovrF, if_neg h82, if_neg h86] at h
             exact h)
set_option maxHeartbeats 2000000 in
set_option maxRecDepth 20000 in
theorem m_oneBeat (hd : 64 ≤ d) (hR : RI r) : Ct E d mX9_oneBeat 0 0 [.ref 81] (kJ (kset I 82 r)) (kSv I (beatF r)) := by
  obtain ⟨⟨c, hc, h8⟩, ⟨t, ht, h4⟩, -⟩ := id hR
  have eM : sMany r = c := by unfold sMany; rw [hc]; exact kcl (by omega)
  have eT : sTurn r = t := by unfold sTurn; rw [ht]; exact kcl (by omega)
  have hc1 : mid1 r 9 = nI c := (mid_fix (by omega)).trans hc
  have key : ∀ x2 x3 : Option Value, kno x2 → Wd E d mX9_oneBeat 0 0 0 0 72 [some (.ref 81), some (.int (kb (stF r))), x2, x3] [] (kJ (kset I 82 (mid1 r))) (kSv I (beatF r)) := by
    intro x2 x3 hx2
    refine k_iconst (a := 0) (n := 73) dX9_oneBeat_72 rfl rfl ?_
    refine is2 (n := 74) dX9_oneBeat_73 rfl trivial ?_
    exact m_beat_c (by omega) (RI_mid hR) c hc1 h8 _ c 0 x3 I (kJunk.rf I) (by omega) (fun K hK => ⟨K, rfl, by simp only [beatF, eM], hK⟩)
  refine Ct.of (L := [some (.ref 81), none, none, none]) rfl rfl (Nat.le_of_ble_eq_true rfl) ?_
  refine al0 (n := 1) dX9_oneBeat_0 rfl ?_
  refine qiX9_174 (n := 4) dX9_oneBeat_1 rfl rfl (Nat.le_of_ble_eq_true rfl) (by omega) rfl (m_isStanding hR) (Nat.le_refl _) (Nat.le_refl _) ?_
  refine is1 (n := 5) dX9_oneBeat_4 rfl trivial ?_
  refine k_iconst (a := 0) (n := 6) dX9_oneBeat_5 rfl rfl ?_
  refine is2 (n := 7) dX9_oneBeat_6 rfl trivial ?_
  by_cases hs : stF r
  · refine il2 (n := 8) dX9_oneBeat_7 rfl ?_
    refine al0 (n := 9) dX9_oneBeat_8 rfl ?_
    refine gX9_7 (n := 12) dX9_oneBeat_9 rfl rfl rfl rfl ?_
    refine k_bipush (a := 8) (n := 14) dX9_oneBeat_12 rfl rfl ?_
    refine js_iald (j := 8) (n := 15) dX9_oneBeat_14 rfl rfl rfl (by decide) (by decide) ?_
    have hm : mid1 r = r := if_pos hs
    have key2 := key (some (.int 0)) none trivial
    rw [hm] at key2
    refine k_icmp_ge (t := 72) (n := 18) dX9_oneBeat_15 (by decide) rfl (fun h15 => key2) (fun h15 => ?_)
    refine il1 (n := 19) dX9_oneBeat_18 rfl ?_
    exact k_ifb_ne (t := 72) (n := 22) dX9_oneBeat_19 (by decide) rfl (fun _ => key2) (fun h => absurd hs h)
  · refine m_beat_t (by omega) hR t ht h4 hs _ (fun x3 => ?_) t 0 none (by omega)
    have hm : mid1 r = tirF r t := by rw [mid1, if_neg hs, eT]
    rw [← hm]
    exact key _ x3 trivial
end M7

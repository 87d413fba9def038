theorem ki1 (a : Int32) : a + Int32.ofInt 1 = a + 1 := rfl
theorem kim1 (a : Int32) : a + Int32.ofInt (-1) = a + (-1) := rfl
theorem ki6 (a : Int32) : a + Int32.ofInt 6 = a + 6 := rfl
/-- a truth as a number -/
def kb (c : Prop) [Decidable c] : Int32 := if c then 1 else 0
theorem kb_t {c : Prop} [Decidable c] (h : c) : kb c = 1 := if_pos h
theorem kb_f {c : Prop} [Decidable c] (h : ¬ c) : kb c = 0 := if_neg h
theorem kb_0 {c : Prop} [Decidable c] : kb c = 0 ↔ ¬ c := by unfold kb; split <;> simp_all
theorem kb_1 {c : Prop} [Decidable c] : kb c = 1 ↔ c := by unfold kb; split <;> simp_all
theorem kb_iff {c e : Prop} [Decidable c] [Decidable e] (h : c ↔ e) : kb c = kb e := by unfold kb; simp only [h]
theorem knb (c : Prop) [Decidable c] : narrow .boolean (.int (kb c)) = .int (kb c) := by unfold kb; split <;> rfl
section KB
variable {E : kE} {d : Nat} {y : kY} {cl sl mc ms pc n : Nat} {L : List (Option Value)} {st : List Value} {M : kM} {Q : Option Value → kM → Prop}
theorem k_ifb_eq {c : Prop} [Decidable c] {off : Int} {t : Nat} (hd : decode y.2.1 pc = .ok (.ifCond .eq off, 3)) (ht : (pc : Int) + off = (t : Int)) (hn : pc + 3 = n) (kt : ¬ c → Wd E d y cl sl mc ms t L st M Q) (kf : c → Wd E d y cl sl mc ms n L st M Q) : Wd E d y cl sl mc ms pc L (.int (kb c) :: st) M Q := k_if_eq hd ht hn (fun h => kt (kb_0.mp h)) (fun h => kf (Classical.byContradiction fun g => h (kb_0.mpr g)))
theorem k_ifb_ne {c : Prop} [Decidable c] {off : Int} {t : Nat} (hd : decode y.2.1 pc = .ok (.ifCond .ne off, 3)) (ht : (pc : Int) + off = (t : Int)) (hn : pc + 3 = n) (kt : c → Wd E d y cl sl mc ms t L st M Q) (kf : ¬ c → Wd E d y cl sl mc ms n L st M Q) : Wd E d y cl sl mc ms pc L (.int (kb c) :: st) M Q := k_if_ne hd ht hn (fun h => kt (Classical.byContradiction fun g => h (kb_0.mpr g))) (fun h => kf (kb_0.mp h))
end KB
/-- the answer's truth, path by path -/
theorem kRt {c : Prop} [Decidable c] {I : Nat → Nat → Int32} (h : c) : kR (kb c) I (some (.int 1)) (kJ I) := ⟨by rw [kb_t h], rfl⟩
theorem kRf {c : Prop} [Decidable c] {I : Nat → Nat → Int32} (h : ¬ c) : kR (kb c) I (some (.int 0)) (kJ I) := ⟨by rw [kb_f h], rfl⟩
section M1
variable {E : kE} {d : Nat} {I : Nat → Nat → Int32} {r : Nat → Int32}
set_option maxHeartbeats 2000000 in
set_option maxRecDepth 20000 in
theorem m_in (v a b : Int32) : Ct E d mX9_in 0 0 [.int v, .int a, .int b] (kJ I) (kR (kb (a ≤ v ∧ v ≤ b)) I) := by
  refine Ct.of (L := [some (.int v), some (.int a), some (.int b)]) rfl rfl (Nat.le_of_ble_eq_true rfl) ?_
  refine il0 (n := 1) dX9_in_0 rfl ?_
  refine il1 (n := 2) dX9_in_1 rfl ?_
  refine k_icmp_lt (t := 14) (n := 5) dX9_in_2 (by decide) rfl (fun h2 => ?_) (fun h2 => ?_)
  · refine k_iconst (a := 0) (n := 15) dX9_in_14 rfl rfl ?_
    refine k_ireturn (ty := .boolean) dX9_in_15 rfl (by first | rfl | exact knb _) (Nat.le_refl _) (Nat.le_refl _) ?_
    first | exact kRt ⟨Int32.not_lt.mp (by assumption), Int32.not_lt.mp (by assumption)⟩ | exact kRf (fun h => absurd h.1 (Int32.not_le.mpr (by assumption))) | exact kRf (fun h => absurd h.2 (Int32.not_le.mpr (by assumption)))
  · refine il0 (n := 6) dX9_in_5 rfl ?_
    refine il2 (n := 7) dX9_in_6 rfl ?_
    refine k_icmp_gt (t := 14) (n := 10) dX9_in_7 (by decide) rfl (fun h7 => ?_) (fun h7 => ?_)
    · refine k_iconst (a := 0) (n := 15) dX9_in_14 rfl rfl ?_
      refine k_ireturn (ty := .boolean) dX9_in_15 rfl (by first | rfl | exact knb _) (Nat.le_refl _) (Nat.le_refl _) ?_
      first | exact kRt ⟨Int32.not_lt.mp (by assumption), Int32.not_lt.mp (by assumption)⟩ | exact kRf (fun h => absurd h.1 (Int32.not_le.mpr (by assumption))) | exact kRf (fun h => absurd h.2 (Int32.not_le.mpr (by assumption)))
    · refine k_iconst (a := 1) (n := 11) dX9_in_10 rfl rfl ?_
      refine k_goto (n := 15) dX9_in_11 (by decide) ?_
      refine k_ireturn (ty := .boolean) dX9_in_15 rfl (by first | rfl | exact knb _) (Nat.le_refl _) (Nat.le_refl _) ?_
      first | exact kRt ⟨Int32.not_lt.mp (by assumption), Int32.not_lt.mp (by assumption)⟩ | exact kRf (fun h => absurd h.1 (Int32.not_le.mpr (by assumption))) | exact kRf (fun h => absurd h.2 (Int32.not_le.mpr (by assumption)))
set_option maxHeartbeats 2000000 in
set_option maxRecDepth 20000 in
theorem m_held (v a b : Int32) : Ct E d mX9_held 0 0 [.int v, .int a, .int b] (kJ I) (kR (if v < a then a else if b < v then b else v) I) := by
  refine Ct.of (L := [some (.int v), some (.int a), some (.int b)]) rfl rfl (Nat.le_of_ble_eq_true rfl) ?_
  refine il0 (n := 1) dX9_held_0 rfl ?_
  refine il1 (n := 2) dX9_held_1 rfl ?_
  refine k_icmp_ge (t := 9) (n := 5) dX9_held_2 (by decide) rfl (fun h2 => ?_) (fun h2 => ?_)
  · refine il0 (n := 10) dX9_held_9 rfl ?_
    refine il2 (n := 11) dX9_held_10 rfl ?_
    refine k_icmp_le (t := 18) (n := 14) dX9_held_11 (by decide) rfl (fun h11 => ?_) (fun h11 => ?_)
    · refine il0 (n := 19) dX9_held_18 rfl ?_
      refine k_ireturn (ty := .int) dX9_held_19 rfl rfl (Nat.le_refl _) (Nat.le_refl _) ?_
      refine ⟨?_, rfl⟩
      congr 2
      (repeat' split) <;> first | rfl | (exfalso; simp only [Int32.lt_iff_toInt_lt, Int32.le_iff_toInt_le] at *; omega)
    · refine il2 (n := 15) dX9_held_14 rfl ?_
      refine k_goto (n := 19) dX9_held_15 (by decide) ?_
      refine k_ireturn (ty := .int) dX9_held_19 rfl rfl (Nat.le_refl _) (Nat.le_refl _) ?_
      refine ⟨?_, rfl⟩
      congr 2
      (repeat' split) <;> first | rfl | (exfalso; simp only [Int32.lt_iff_toInt_lt, Int32.le_iff_toInt_le] at *; omega)
  · refine il1 (n := 6) dX9_held_5 rfl ?_
    refine k_goto (n := 19) dX9_held_6 (by decide) ?_
    refine k_ireturn (ty := .int) dX9_held_19 rfl rfl (Nat.le_refl _) (Nat.le_refl _) ?_
    refine ⟨?_, rfl⟩
    congr 2
    (repeat' split) <;> first | rfl | (exfalso; simp only [Int32.lt_iff_toInt_lt, Int32.le_iff_toInt_le] at *; omega)
set_option maxHeartbeats 2000000 in
set_option maxRecDepth 20000 in
theorem m_has (s k : Int32) : Ct E d mX9_has 0 0 [.int s, .int k] (kJ I) (kR (kb ((s >>> (k &&& 31)) &&& 1 = 1)) I) := by
  refine Ct.of (L := [some (.int s), some (.int k)]) rfl rfl (Nat.le_of_ble_eq_true rfl) ?_
  refine il0 (n := 1) dX9_has_0 rfl ?_
  refine il1 (n := 2) dX9_has_1 rfl ?_
  refine k_ishr (n := 3) dX9_has_2 rfl ?_
  refine k_iconst (a := 1) (n := 4) dX9_has_3 rfl rfl ?_
  refine k_iand (n := 5) dX9_has_4 rfl ?_
  refine k_iconst (a := 1) (n := 6) dX9_has_5 rfl rfl ?_
  refine k_icmp_ne (t := 13) (n := 9) dX9_has_6 (by decide) rfl (fun h6 => ?_) (fun h6 => ?_)
  · refine k_iconst (a := 0) (n := 14) dX9_has_13 rfl rfl ?_
    refine k_ireturn (ty := .boolean) dX9_has_14 rfl (by first | rfl | exact knb _) (Nat.le_refl _) (Nat.le_refl _) ?_
    first | exact kRt (by assumption) | exact kRf (by assumption)
  · refine k_iconst (a := 1) (n := 10) dX9_has_9 rfl rfl ?_
    refine k_goto (n := 14) dX9_has_10 (by decide) ?_
    refine k_ireturn (ty := .boolean) dX9_has_14 rfl (by first | rfl | exact knb _) (Nat.le_refl _) (Nat.le_refl _) ?_
    first | exact kRt (by assumption) | exact kRf (by assumption)
set_option maxHeartbeats 2000000 in
set_option maxRecDepth 20000 in
theorem m_its (j q : Nat) (hj : j < 8) (hq : q < 7) : Ct E d mX9_its 0 0 [.ref 81, .int (nI j), .int (nI q)] (kJ (kset I 82 r)) (kR (r (29 + 7 * j + q)) (kset I 82 r)) := by
  refine Ct.of (L := [some (.ref 81), some (.int (nI j)), some (.int (nI q))]) rfl rfl (Nat.le_of_ble_eq_true rfl) ?_
  refine al0 (n := 1) dX9_its_0 rfl ?_
  refine gX9_7 (n := 4) dX9_its_1 rfl rfl rfl rfl ?_
  refine k_bipush (a := 29) (n := 6) dX9_its_4 rfl rfl ?_
  refine k_bipush (a := 7) (n := 8) dX9_its_6 rfl rfl ?_
  refine il1 (n := 9) dX9_its_8 rfl ?_
  refine k_imul (n := 10) dX9_its_9 rfl ?_
  refine k_iadd (n := 11) dX9_its_10 rfl ?_
  refine il2 (n := 12) dX9_its_11 rfl ?_
  refine k_iadd (n := 13) dX9_its_12 rfl ?_
  refine js_iald (j := 29 + 7 * j + q) (n := 14) dX9_its_13 rfl rfl (by show nI 29 + nI 7 * nI j + nI q = _; rw [pk_mul, nI_add, nI_add]) (by omega) (by decide) ?_
  refine k_ireturn (ty := .int) dX9_its_14 rfl rfl (Nat.le_refl _) (Nat.le_refl _) ?_
  exact ⟨rfl, rfl⟩
set_option maxHeartbeats 2000000 in
set_option maxRecDepth 20000 in
theorem m_gets (j q : Nat) (a : Int32) (hj : j < 8) (hq : q < 7) : Ct E d mX9_gets 0 0 [.ref 81, .int (nI j), .int (nI q), .int a] (kJ (kset I 82 r)) (kRv (kset I 82 (upd r (29 + 7 * j + q) a))) := by
  refine Ct.of (L := [some (.ref 81), some (.int (nI j)), some (.int (nI q)), some (.int a)]) rfl rfl (Nat.le_of_ble_eq_true rfl) ?_
  refine al0 (n := 1) dX9_gets_0 rfl ?_
  refine gX9_7 (n := 4) dX9_gets_1 rfl rfl rfl rfl ?_
  refine k_bipush (a := 29) (n := 6) dX9_gets_4 rfl rfl ?_
  refine k_bipush (a := 7) (n := 8) dX9_gets_6 rfl rfl ?_
  refine il1 (n := 9) dX9_gets_8 rfl ?_
  refine k_imul (n := 10) dX9_gets_9 rfl ?_
  refine k_iadd (n := 11) dX9_gets_10 rfl ?_
  refine il2 (n := 12) dX9_gets_11 rfl ?_
  refine k_iadd (n := 13) dX9_gets_12 rfl ?_
  refine il3 (n := 14) dX9_gets_13 rfl ?_
  refine js_iast (j := 29 + 7 * j + q) (n := 15) dX9_gets_14 rfl rfl (by show nI 29 + nI 7 * nI j + nI q = _; rw [pk_mul, nI_add, nI_add]) (by omega) (by decide) ?_
  refine k_return dX9_gets_15 rfl (Nat.le_refl _) (Nat.le_refl _) ?_
  exact ⟨rfl, rfl⟩
set_option maxHeartbeats 2000000 in
set_option maxRecDepth 20000 in
theorem m_becomes (j : Nat) (a : Int32) (hj : j < 255) : Ct E d mX9_becomes 0 0 [.ref 81, .int (nI j), .int a] (kJ (kset I 82 r)) (kR (r j) (kset I 82 (upd r j a))) := by
  refine Ct.of (L := [some (.ref 81), some (.int (nI j)), some (.int a), none]) rfl rfl (Nat.le_of_ble_eq_true rfl) ?_
  refine al0 (n := 1) dX9_becomes_0 rfl ?_
  refine gX9_7 (n := 4) dX9_becomes_1 rfl rfl rfl rfl ?_
  refine il1 (n := 5) dX9_becomes_4 rfl ?_
  refine js_iald (j := j) (n := 6) dX9_becomes_5 rfl rfl rfl hj (by decide) ?_
  refine is3 (n := 7) dX9_becomes_6 rfl trivial ?_
  refine al0 (n := 8) dX9_becomes_7 rfl ?_
  refine gX9_7 (n := 11) dX9_becomes_8 rfl rfl rfl rfl ?_
  refine il1 (n := 12) dX9_becomes_11 rfl ?_
  refine il2 (n := 13) dX9_becomes_12 rfl ?_
  refine js_iast (j := j) (n := 14) dX9_becomes_13 rfl rfl rfl hj (by decide) ?_
  refine il3 (n := 15) dX9_becomes_14 rfl ?_
  refine k_ireturn (ty := .int) dX9_becomes_15 rfl rfl (Nat.le_refl _) (Nat.le_refl _) ?_
  exact ⟨rfl, rfl⟩
set_option maxHeartbeats 2000000 in
set_option maxRecDepth 20000 in
theorem m_isPlace (hd : 1 ≤ d) (v : Int32) : Ct E d mX9_isPlace 0 0 [.ref 81, .int v] (kJ (kset I 82 r)) (kR (kb (0 ≤ v ∧ v ≤ r 3 - 1)) (kset I 82 r)) := by
  refine Ct.of (L := [some (.ref 81), some (.int v)]) rfl rfl (Nat.le_of_ble_eq_true rfl) ?_
  refine il1 (n := 1) dX9_isPlace_0 rfl ?_
  refine k_iconst (a := 0) (n := 2) dX9_isPlace_1 rfl rfl ?_
  refine al0 (n := 3) dX9_isPlace_2 rfl ?_
  refine gX9_7 (n := 6) dX9_isPlace_3 rfl rfl rfl rfl ?_
  refine k_iconst (a := 3) (n := 7) dX9_isPlace_6 rfl rfl ?_
  refine js_iald (j := 3) (n := 8) dX9_isPlace_7 rfl rfl rfl (by decide) (by decide) ?_
  refine k_iconst (a := 1) (n := 9) dX9_isPlace_8 rfl rfl ?_
  refine k_isub (n := 10) dX9_isPlace_9 rfl ?_
  refine qiX9_41 (n := 13) dX9_isPlace_10 rfl rfl (Nat.le_of_ble_eq_true rfl) (by omega) (m_in v 0 _) (Nat.le_refl _) (Nat.le_refl _) ?_
  refine k_ireturn (ty := .boolean) dX9_isPlace_13 rfl (by first | rfl | exact knb _) (Nat.le_refl _) (Nat.le_refl _) ?_
  exact ⟨rfl, rfl⟩
set_option maxHeartbeats 2000000 in
set_option maxRecDepth 20000 in
theorem m_isTurner (hd : 1 ≤ d) (v : Int32) : Ct E d mX9_isTurner 0 0 [.ref 81, .int v] (kJ (kset I 82 r)) (kR (kb (0 ≤ v ∧ v ≤ r 8 - 1)) (kset I 82 r)) := by
  refine Ct.of (L := [some (.ref 81), some (.int v)]) rfl rfl (Nat.le_of_ble_eq_true rfl) ?_
  refine il1 (n := 1) dX9_isTurner_0 rfl ?_
  refine k_iconst (a := 0) (n := 2) dX9_isTurner_1 rfl rfl ?_
  refine al0 (n := 3) dX9_isTurner_2 rfl ?_
  refine gX9_7 (n := 6) dX9_isTurner_3 rfl rfl rfl rfl ?_
  refine k_bipush (a := 8) (n := 8) dX9_isTurner_6 rfl rfl ?_
  refine js_iald (j := 8) (n := 9) dX9_isTurner_8 rfl rfl rfl (by decide) (by decide) ?_
  refine k_iconst (a := 1) (n := 10) dX9_isTurner_9 rfl rfl ?_
  refine k_isub (n := 11) dX9_isTurner_10 rfl ?_
  refine qiX9_41 (n := 14) dX9_isTurner_11 rfl rfl (Nat.le_of_ble_eq_true rfl) (by omega) (m_in v 0 _) (Nat.le_refl _) (Nat.le_refl _) ?_
  refine k_ireturn (ty := .boolean) dX9_isTurner_14 rfl (by first | rfl | exact knb _) (Nat.le_refl _) (Nat.le_refl _) ?_
  exact ⟨rfl, rfl⟩
set_option maxHeartbeats 2000000 in
set_option maxRecDepth 20000 in
theorem m_isCrosser (hd : 1 ≤ d) (v : Int32) : Ct E d mX9_isCrosser 0 0 [.ref 81, .int v] (kJ (kset I 82 r)) (kR (kb (0 ≤ v ∧ v ≤ r 9 - 1)) (kset I 82 r)) := by
  refine Ct.of (L := [some (.ref 81), some (.int v)]) rfl rfl (Nat.le_of_ble_eq_true rfl) ?_
  refine il1 (n := 1) dX9_isCrosser_0 rfl ?_
  refine k_iconst (a := 0) (n := 2) dX9_isCrosser_1 rfl rfl ?_
  refine al0 (n := 3) dX9_isCrosser_2 rfl ?_
  refine gX9_7 (n := 6) dX9_isCrosser_3 rfl rfl rfl rfl ?_
  refine k_bipush (a := 9) (n := 8) dX9_isCrosser_6 rfl rfl ?_
  refine js_iald (j := 9) (n := 9) dX9_isCrosser_8 rfl rfl rfl (by decide) (by decide) ?_
  refine k_iconst (a := 1) (n := 10) dX9_isCrosser_9 rfl rfl ?_
  refine k_isub (n := 11) dX9_isCrosser_10 rfl ?_
  refine qiX9_41 (n := 14) dX9_isCrosser_11 rfl rfl (Nat.le_of_ble_eq_true rfl) (by omega) (m_in v 0 _) (Nat.le_refl _) (Nat.le_refl _) ?_
  refine k_ireturn (ty := .boolean) dX9_isCrosser_14 rfl (by first | rfl | exact knb _) (Nat.le_refl _) (Nat.le_refl _) ?_
  exact ⟨rfl, rfl⟩
set_option maxHeartbeats 2000000 in
set_option maxRecDepth 20000 in
theorem m_isSet (hd : 1 ≤ d) (v : Int32) : Ct E d mX9_isSet 0 0 [.ref 81, .int v] (kJ (kset I 82 r)) (kR (kb (0 ≤ v ∧ v ≤ ((1 : Int32) <<< (r 9 &&& 31)) - 1)) (kset I 82 r)) := by
  refine Ct.of (L := [some (.ref 81), some (.int v)]) rfl rfl (Nat.le_of_ble_eq_true rfl) ?_
  refine il1 (n := 1) dX9_isSet_0 rfl ?_
  refine k_iconst (a := 0) (n := 2) dX9_isSet_1 rfl rfl ?_
  refine k_iconst (a := 1) (n := 3) dX9_isSet_2 rfl rfl ?_
  refine al0 (n := 4) dX9_isSet_3 rfl ?_
  refine gX9_7 (n := 7) dX9_isSet_4 rfl rfl rfl rfl ?_
  refine k_bipush (a := 9) (n := 9) dX9_isSet_7 rfl rfl ?_
  refine js_iald (j := 9) (n := 10) dX9_isSet_9 rfl rfl rfl (by decide) (by decide) ?_
  refine k_ishl (n := 11) dX9_isSet_10 rfl ?_
  refine k_iconst (a := 1) (n := 12) dX9_isSet_11 rfl rfl ?_
  refine k_isub (n := 13) dX9_isSet_12 rfl ?_
  refine qiX9_41 (n := 16) dX9_isSet_13 rfl rfl (Nat.le_of_ble_eq_true rfl) (by omega) (m_in v 0 _) (Nat.le_refl _) (Nat.le_refl _) ?_
  refine k_ireturn (ty := .boolean) dX9_isSet_16 rfl (by first | rfl | exact knb _) (Nat.le_refl _) (Nat.le_refl _) ?_
  exact ⟨rfl, rfl⟩
end M1

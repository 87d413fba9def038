section C17
variable {E : kE} {d u e a s : Nat} {I J : Nat → Nat → Int32} {B : Nat → Int32}
/-- what the reader reads: B the bytes, e how many, u the use -/
def rC (I : Nat → Nat → Int32) (B : Nat → Int32) (u e : Nat) : Prop := I 67 3 = nI e ∧ e ≤ 50 ∧ u < 2 ∧ I 67 5 = (if u = 0 then 1 else 2) ∧ (∀ k, k < e → I 24 k = B k) ∧ (∀ k, k < e → ∃ x, x < 256 ∧ B k = nI x) ∧ (∀ k, e ≤ k → B k = -1)
def rF (I J : Nat → Nat → Int32) : Prop := (∀ k, k ≠ 67 → k ≠ 68 → J k = I k) ∧ ∀ j, j ≠ 2 → j ≠ 4 → J 67 j = I 67 j
/-- it stands at a, and has written s -/
def rS (I : Nat → Nat → Int32) (B : Nat → Int32) (u e a s : Nat) : Prop := rC I B u e ∧ I 67 4 = nI a ∧ a ≤ e ∧ I 67 2 = nI s ∧ s ≤ a
def rPL (I : Nat → Nat → Int32) (B : Nat → Int32) (u e a s : Nat) (P : pR) (V : Int32 → Int32 → Int32 → Int32) : Option Value → kM → Prop := fun v M => ∃ J s', v = some (.int (kb (P.2.2 = true))) ∧ M = kJ J ∧ rF I J ∧ rS J B u e P.2.1 s' ∧ s ≤ s' ∧ s' + a ≤ s + P.2.1 ∧ (∀ q, q < s → J 68 q = I 68 q) ∧ (P.2.2 = true → s < s' ∧ (∀ q, s ≤ q → q < s' → okI (J 68 q)) ∧ EV (J 68) s s' V)
def pzP (B : Nat → Int32) (u n md a op : Nat) : pR := pz (B, u, 0, 0, 0) n md 0 a op
def pzV (B : Nat → Int32) (u n md a op : Nat) : Int32 → Int32 → Int32 → Int32 := fun x y z => (pz (B, u, x, y, z) n md 0 a op).1
def RLK (E : kE) (n md : Nat) : Prop := ∀ (d : Nat) (I : Nat → Nat → Int32) (B : Nat → Int32) (u e a op s : Nat), rS I B u e a s → op ≤ 5 → 16 * (e + 1 - a) + rkF md ≤ n → 9 * (5 - op) + (5 - md) + 8 ≤ d → Ct E d mX4_readLevel 0 0 [.ref 67, .int (nI md), .int (nI op)] (kJ I) (rPL I B u e a s (pzP B u n md a op) (pzV B u n md a op))
def RUK (E : kE) (n : Nat) : Prop := ∀ (d : Nat) (I : Nat → Nat → Int32) (B : Nat → Int32) (u e a op s : Nat), rS I B u e a s → op ≤ 5 → 16 * (e + 1 - a) + rkF 5 ≤ n → 9 * (5 - op) + 7 ≤ d → Ct E d mX4_readUnit 0 0 [.ref 67, .int (nI op)] (kJ I) (rPL I B u e a s (pzP B u n 5 a op) (pzV B u n 5 a op))
theorem rF.rf (I : Nat → Nat → Int32) : rF I I := ⟨fun _ _ _ => rfl, fun _ _ _ => rfl⟩
theorem rF.tr {K : Nat → Nat → Int32} (h : rF I J) (g : rF J K) : rF I K := ⟨fun k a b => (g.1 k a b).trans (h.1 k a b), fun j a b => (g.2 j a b).trans (h.2 j a b)⟩
theorem rC.fr (h : rC I B u e) (hf : rF I J) : rC J B u e := ⟨(hf.2 3 (by decide) (by decide)).trans h.1, h.2.1, h.2.2.1, (hf.2 5 (by decide) (by decide)).trans h.2.2.2.1, fun k hk => by rw [hf.1 24 (by decide) (by decide)]; exact h.2.2.2.2.1 k hk, h.2.2.2.2.2.1, h.2.2.2.2.2.2⟩
theorem rC.ch (h : rC I B u e) (k : Nat) : B k = -1 ∨ ∃ x, x < 256 ∧ B k = nI x := by
  rcases Nat.lt_or_ge k e with q | q
  · exact Or.inr (h.2.2.2.2.2.1 k q)
  · exact Or.inl (h.2.2.2.2.2.2 k q)
theorem rC.lt (h : rC I B u e) {k : Nat} (hk : ¬ B k = -1) : k < e := by
  rcases Nat.lt_or_ge k e with q | q
  · exact q
  · exact absurd (h.2.2.2.2.2.2 k q) hk
theorem rS.at1 (h : rS I B u e a s) (ha : a < e) (e1 : kset I 67 (upd (I 67) 4 (nI a + 1)) = J) : rS J B u e (a + 1) s ∧ rF I J ∧ J 68 = I 68 := by
  have hf : rF I J := ⟨fun k p q => by rw [← e1, kset_ne _ _ p], fun j p q => by rw [← e1, kset_same, pk_un q]⟩
  have hsa := h.2.2.2.2
  refine ⟨⟨h.1.fr hf, ?_, ha, ?_, by omega⟩, hf, by rw [← e1, kset_ne _ _ (by decide)]⟩
  · rw [← e1, kset_same, pk_us, nI_1]
  · rw [← e1, kset_same, pk_un (by decide)]; exact h.2.2.2.1
def wrF (I : Nat → Nat → Int32) (s : Nat) (v : Int32) : Nat → Nat → Int32 := kset (kset I 68 (upd (I 68) s v)) 67 (upd (I 67) 2 (nI s + 1))
theorem rS.wr (h : rS I B u e a s) (v : Int32) (hs : s + 1 ≤ a) : rS (wrF I s v) B u e a (s + 1) ∧ rF I (wrF I s v) ∧ wrF I s v 68 = upd (I 68) s v := by
  have hf : rF I (wrF I s v) := ⟨fun k p q => by unfold wrF; rw [kset_ne _ _ p, kset_ne _ _ q], fun j p q => by unfold wrF; rw [kset_same, pk_un p]⟩
  refine ⟨⟨h.1.fr hf, ?_, h.2.2.1, ?_, hs⟩, hf, ?_⟩
  · unfold wrF; rw [kset_same, pk_un (by decide)]; exact h.2.1
  · unfold wrF; rw [kset_same, pk_us, nI_1]
  · unfold wrF; rw [kset_ne _ _ (by decide), kset_same]
set_option maxHeartbeats 2000000 in
set_option maxRecDepth 20000 in
theorem c_ahead (h : rS I B u e a s) : Ct E d mX4_ahead 0 0 [.ref 67] (kJ I) (kR (B a) I) := by
  obtain ⟨⟨h3, h50, hu, h5, ht, hx, hm⟩, h4, hae, h2, hsa⟩ := h
  refine Ct.of (L := [some (.ref 67)]) rfl rfl (Nat.le_of_ble_eq_true rfl) ?_
  refine al0 (n := 1) dX4_ahead_0 rfl ?_
  refine gX4_39 (n := 4) dX4_ahead_1 rfl rfl rfl ?_
  refine k_top h4 ?_
  refine al0 (n := 5) dX4_ahead_4 rfl ?_
  refine gX4_32 (n := 8) dX4_ahead_5 rfl rfl rfl ?_
  refine k_top h3 ?_
  refine k_icmp_ge (t := 23) (n := 11) dX4_ahead_8 (by decide) rfl (fun h8 => ?_) (fun h8 => ?_)
  · have ea : a = e := Nat.le_antisymm hae (Nat.le_of_not_lt fun z => nI_ge z (by omega) h8)
    refine k_iconst (a := (-1)) (n := 24) dX4_ahead_23 rfl rfl ?_
    refine k_ireturn (ty := .int) dX4_ahead_24 rfl rfl (Nat.le_refl _) (Nat.le_refl _) ?_
    first | exact ⟨rfl, rfl⟩ | exact ⟨by rw [hm a (by omega)], rfl⟩
  · have hlt : a < e := Nat.lt_of_not_le fun z => h8 (Int32.not_lt.mp (nI_nlt z (by omega)))
    refine al0 (n := 12) dX4_ahead_11 rfl ?_
    refine gX4_21 (n := 15) dX4_ahead_12 rfl rfl rfl rfl ?_
    refine al0 (n := 16) dX4_ahead_15 rfl ?_
    refine gX4_39 (n := 19) dX4_ahead_16 rfl rfl rfl ?_
    refine k_top h4 ?_
    refine j_iald (j := a) (n := 20) dX4_ahead_19 rfl rfl rfl (by omega) (by decide) ?_
    refine k_top (ht a hlt) ?_
    refine k_goto (n := 24) dX4_ahead_20 (by decide) ?_
    refine k_ireturn (ty := .int) dX4_ahead_24 rfl rfl (Nat.le_refl _) (Nat.le_refl _) ?_
    first | exact ⟨rfl, rfl⟩ | exact ⟨by rw [hm a (by omega)], rfl⟩
set_option maxHeartbeats 2000000 in
set_option maxRecDepth 20000 in
theorem c_wr (h2 : I 67 2 = nI s) (h50 : s < 50) (v : Int32) : Ct E d mX4_write 0 0 [.ref 67, .int v] (kJ I) (kRv (wrF I s v)) := by
  refine Ct.of (L := [some (.ref 67), some (.int v)]) rfl rfl (Nat.le_of_ble_eq_true rfl) ?_
  refine al0 (n := 1) dX4_write_0 rfl ?_
  refine gX4_36 (n := 4) dX4_write_1 rfl rfl rfl ?_
  refine k_top h2 ?_
  refine al0 (n := 5) dX4_write_4 rfl ?_
  refine gX4_9 (n := 8) dX4_write_5 rfl rfl rfl rfl ?_
  refine k_alen (n := 9) dX4_write_8 rfl (jR rfl) ?_
  refine k_icmp_ge (t := 32) (n := 12) dX4_write_9 (by decide) rfl (fun h9 => ?_) (fun h9 => ?_)
  · exact absurd h9 (nI_ge (show s < 50 from h50) (by decide))
  · refine al0 (n := 13) dX4_write_12 rfl ?_
    refine gX4_9 (n := 16) dX4_write_13 rfl rfl rfl rfl ?_
    refine al0 (n := 17) dX4_write_16 rfl ?_
    refine gX4_36 (n := 20) dX4_write_17 rfl rfl rfl ?_
    refine k_top h2 ?_
    refine il1 (n := 21) dX4_write_20 rfl ?_
    refine j_iast (j := s) (n := 22) dX4_write_21 rfl rfl rfl h50 (by decide) ?_
    refine k_gen (fun I1 e1 => ?_)
    refine al0 (n := 23) dX4_write_22 rfl ?_
    refine k_dup (n := 24) dX4_write_23 rfl rfl ?_
    refine gX4_36 (n := 27) dX4_write_24 rfl rfl rfl ?_
    refine k_top (show I1 67 2 = nI s by rw [← e1, kset_ne _ _ (by decide)]; exact h2) ?_
    refine k_iconst (a := 1) (n := 28) dX4_write_27 rfl rfl ?_
    refine k_iadd (n := 29) dX4_write_28 rfl ?_
    refine pX4_36 (n := 32) dX4_write_29 rfl rfl rfl ?_
    refine k_gen (fun I2 e2 => ?_)
    refine k_return dX4_write_32 rfl (Nat.le_refl _) (Nat.le_refl _) ?_
    subst e1 e2
    exact ⟨rfl, by unfold wrF; rw [kset_ne _ _ (show (67 : Nat) ≠ 68 by decide)]⟩
set_option maxHeartbeats 2000000 in
set_option maxRecDepth 20000 in
theorem c_dig (v : Int32) : Ct E d mX4_isDigit 0 0 [.int v] (kJ I) (kR (kb (48 ≤ v ∧ v ≤ 57)) I) := by
  refine Ct.of (L := [some (.int v)]) rfl rfl (Nat.le_of_ble_eq_true rfl) ?_
  refine il0 (n := 1) dX4_isDigit_0 rfl ?_
  refine k_bipush (a := 48) (n := 3) dX4_isDigit_1 rfl rfl ?_
  refine k_icmp_lt (t := 16) (n := 6) dX4_isDigit_3 (by decide) rfl (fun h3 => ?_) (fun h3 => ?_)
  · refine k_iconst (a := 0) (n := 17) dX4_isDigit_16 rfl rfl ?_
    refine k_ireturn (ty := .boolean) dX4_isDigit_17 rfl (by first | rfl | exact knb _) (Nat.le_refl _) (Nat.le_refl _) ?_
    first | exact kRt ⟨Int32.not_lt.mp (by assumption), Int32.not_lt.mp (by assumption)⟩ | exact kRf (fun h => absurd h.1 (Int32.not_le.mpr (by assumption))) | exact kRf (fun h => absurd h.2 (Int32.not_le.mpr (by assumption)))
  · refine il0 (n := 7) dX4_isDigit_6 rfl ?_
    refine k_bipush (a := 57) (n := 9) dX4_isDigit_7 rfl rfl ?_
    refine k_icmp_gt (t := 16) (n := 12) dX4_isDigit_9 (by decide) rfl (fun h9 => ?_) (fun h9 => ?_)
    · refine k_iconst (a := 0) (n := 17) dX4_isDigit_16 rfl rfl ?_
      refine k_ireturn (ty := .boolean) dX4_isDigit_17 rfl (by first | rfl | exact knb _) (Nat.le_refl _) (Nat.le_refl _) ?_
      first | exact kRt ⟨Int32.not_lt.mp (by assumption), Int32.not_lt.mp (by assumption)⟩ | exact kRf (fun h => absurd h.1 (Int32.not_le.mpr (by assumption))) | exact kRf (fun h => absurd h.2 (Int32.not_le.mpr (by assumption)))
    · refine k_iconst (a := 1) (n := 13) dX4_isDigit_12 rfl rfl ?_
      refine k_goto (n := 17) dX4_isDigit_13 (by decide) ?_
      refine k_ireturn (ty := .boolean) dX4_isDigit_17 rfl (by first | rfl | exact knb _) (Nat.le_refl _) (Nat.le_refl _) ?_
      first | exact kRt ⟨Int32.not_lt.mp (by assumption), Int32.not_lt.mp (by assumption)⟩ | exact kRf (fun h => absurd h.1 (Int32.not_le.mpr (by assumption))) | exact kRf (fun h => absurd h.2 (Int32.not_le.mpr (by assumption)))
theorem lv_df : ∀ x, x < 256 → ¬ (x = 37 ∨ x = 38 ∨ x = 42 ∨ x = 43 ∨ x = 45 ∨ x = 47 ∨ x = 60 ∨ x = 61 ∨ x = 62 ∨ x = 124) → Op.lookupswitch.offset (([(37, 99), (38, 93), (42, 99), (43, 97), (45, 97), (47, 99), (60, 95), (61, 95), (62, 95), (124, 91)] : List (Int × Int))) 101 (nI x).toInt = 101 ∧ lvF (nI x) = -1 := by decide +kernel
set_option maxHeartbeats 2000000 in
set_option maxRecDepth 20000 in
theorem c_lvl {v : Int32} (hv : v = -1 ∨ ∃ x, x < 256 ∧ v = nI x) : Ct E d mX4_levelOf 0 0 [.int v] (kJ I) (kR (lvF v) I) := by
  refine Ct.of (L := [some (.int v)]) rfl rfl (Nat.le_of_ble_eq_true rfl) ?_
  refine il0 (n := 1) dX4_levelOf_0 rfl ?_
  rcases hv with rfl | ⟨x, hx, rfl⟩
  · refine k_lookup (t := 102) (off := 101) dX4_levelOf_1 (by decide) (by decide) (by decide) ?_
    refine k_iconst (a := (-1)) (n := 103) dX4_levelOf_102 rfl rfl ?_
    refine k_ireturn (ty := .int) dX4_levelOf_103 rfl rfl (Nat.le_refl _) (Nat.le_refl _) ?_
    exact ⟨by decide, rfl⟩
  · by_cases hk : x = 37 ∨ x = 38 ∨ x = 42 ∨ x = 43 ∨ x = 45 ∨ x = 47 ∨ x = 60 ∨ x = 61 ∨ x = 62 ∨ x = 124
    · rcases hk with rfl | rfl | rfl | rfl | rfl | rfl | rfl | rfl | rfl | rfl
      · refine k_lookup (t := 100) (off := 99) dX4_levelOf_1 (by decide) (by decide) (by decide) ?_
        refine k_iconst (a := 4) (n := 101) dX4_levelOf_100 rfl rfl ?_
        refine k_ireturn (ty := .int) dX4_levelOf_101 rfl rfl (Nat.le_refl _) (Nat.le_refl _) ?_
        exact ⟨by decide, rfl⟩
      · refine k_lookup (t := 94) (off := 93) dX4_levelOf_1 (by decide) (by decide) (by decide) ?_
        refine k_iconst (a := 1) (n := 95) dX4_levelOf_94 rfl rfl ?_
        refine k_ireturn (ty := .int) dX4_levelOf_95 rfl rfl (Nat.le_refl _) (Nat.le_refl _) ?_
        exact ⟨by decide, rfl⟩
      · refine k_lookup (t := 100) (off := 99) dX4_levelOf_1 (by decide) (by decide) (by decide) ?_
        refine k_iconst (a := 4) (n := 101) dX4_levelOf_100 rfl rfl ?_
        refine k_ireturn (ty := .int) dX4_levelOf_101 rfl rfl (Nat.le_refl _) (Nat.le_refl _) ?_
        exact ⟨by decide, rfl⟩
      · refine k_lookup (t := 98) (off := 97) dX4_levelOf_1 (by decide) (by decide) (by decide) ?_
        refine k_iconst (a := 3) (n := 99) dX4_levelOf_98 rfl rfl ?_
        refine k_ireturn (ty := .int) dX4_levelOf_99 rfl rfl (Nat.le_refl _) (Nat.le_refl _) ?_
        exact ⟨by decide, rfl⟩
      · refine k_lookup (t := 98) (off := 97) dX4_levelOf_1 (by decide) (by decide) (by decide) ?_
        refine k_iconst (a := 3) (n := 99) dX4_levelOf_98 rfl rfl ?_
        refine k_ireturn (ty := .int) dX4_levelOf_99 rfl rfl (Nat.le_refl _) (Nat.le_refl _) ?_
        exact ⟨by decide, rfl⟩
      · refine k_lookup (t := 100) (off := 99) dX4_levelOf_1 (by decide) (by decide) (by decide) ?_
        refine k_iconst (a := 4) (n := 101) dX4_levelOf_100 rfl rfl ?_
        refine k_ireturn (ty := .int) dX4_levelOf_101 rfl rfl (Nat.le_refl _) (Nat.le_refl _) ?_
        exact ⟨by decide, rfl⟩
      · refine k_lookup (t := 96) (off := 95) dX4_levelOf_1 (by decide) (by decide) (by decide) ?_
        refine k_iconst (a := 2) (n := 97) dX4_levelOf_96 rfl rfl ?_
        refine k_ireturn (ty := .int) dX4_levelOf_97 rfl rfl (Nat.le_refl _) (Nat.le_refl _) ?_
        exact ⟨by decide, rfl⟩
      · refine k_lookup (t := 96) (off := 95) dX4_levelOf_1 (by decide) (by decide) (by decide) ?_
        refine k_iconst (a := 2) (n := 97) dX4_levelOf_96 rfl rfl ?_
        refine k_ireturn (ty := .int) dX4_levelOf_97 rfl rfl (Nat.le_refl _) (Nat.le_refl _) ?_
        exact ⟨by decide, rfl⟩
      · refine k_lookup (t := 96) (off := 95) dX4_levelOf_1 (by decide) (by decide) (by decide) ?_
        refine k_iconst (a := 2) (n := 97) dX4_levelOf_96 rfl rfl ?_
        refine k_ireturn (ty := .int) dX4_levelOf_97 rfl rfl (Nat.le_refl _) (Nat.le_refl _) ?_
        exact ⟨by decide, rfl⟩
      · refine k_lookup (t := 92) (off := 91) dX4_levelOf_1 (by decide) (by decide) (by decide) ?_
        refine k_iconst (a := 0) (n := 93) dX4_levelOf_92 rfl rfl ?_
        refine k_ireturn (ty := .int) dX4_levelOf_93 rfl rfl (Nat.le_refl _) (Nat.le_refl _) ?_
        exact ⟨by decide, rfl⟩
    · obtain ⟨k1, k2⟩ := lv_df x hx hk
      refine k_lookup (t := 102) (off := 101) dX4_levelOf_1 (by decide) k1 (by decide) ?_
      refine k_iconst (a := (-1)) (n := 103) dX4_levelOf_102 rfl rfl ?_
      refine k_ireturn (ty := .int) dX4_levelOf_103 rfl rfl (Nat.le_refl _) (Nat.le_refl _) ?_
      exact ⟨by rw [k2], rfl⟩
set_option maxHeartbeats 2000000 in
set_option maxRecDepth 20000 in
theorem c_num_l (hd : 1 ≤ d) (Q : Option Value → kM → Prop) (s : Nat) (v0 : Int32) (a0 : Nat) (h50 : s < 50) (hQ : ∀ K, rF I K → rS K B u e (numF B 4 v0 a0).2 s → K 68 = I 68 → Q none (kJ (wrF K s (numF B 4 v0 a0).1))) (m : Nat) : ∀ (i a : Nat) (v : Int32) (J : Nat → Nat → Int32), rF I J → rS J B u e a s → J 68 = I 68 → i + m = 4 → numF B m v a = numF B 4 v0 a0 → Wd E d mX4_readNumber 0 0 0 0 4 [some (.ref 67), some (.int v), some (.int (nI i))] [] (kJ J) Q := by
  induction m with
  | zero =>
    intro i a v J hf hS h68 hi hn
    have e0 : i = 4 := by omega
    subst e0
    have ev : (v, a) = numF B 4 v0 a0 := hn
    refine il2 (n := 5) dX4_readNumber_4 rfl ?_
    refine k_iconst (a := 4) (n := 6) dX4_readNumber_5 rfl rfl ?_
    refine k_icmp_ge (t := 48) (n := 9) dX4_readNumber_6 (by decide) rfl (fun h6 => ?_) (fun h6 => ?_)
    · refine al0 (n := 49) dX4_readNumber_48 rfl ?_
      refine il1 (n := 50) dX4_readNumber_49 rfl ?_
      refine qiX4_58 (n := 53) dX4_readNumber_50 rfl rfl (Nat.le_of_ble_eq_true rfl) (by omega) rfl (c_wr hS.2.2.2.1 h50 _) (Nat.le_refl _) (Nat.le_refl _) ?_
      refine k_return dX4_readNumber_53 rfl (Nat.le_refl _) (Nat.le_refl _) ?_
      have z := hQ J hf (by rw [← ev]; exact hS) h68
      rw [← ev] at z
      exact z
    · exact absurd (Int32.le_refl _) h6
  | succ m ih =>
    intro i a v J hf hS h68 hi hn
    refine il2 (n := 5) dX4_readNumber_4 rfl ?_
    refine k_iconst (a := 4) (n := 6) dX4_readNumber_5 rfl rfl ?_
    refine k_icmp_ge (t := 48) (n := 9) dX4_readNumber_6 (by decide) rfl (fun h6 => ?_) (fun h6 => ?_)
    · exact absurd h6 (nI_ge (show i < 4 by omega) (by decide))
    · refine al0 (n := 10) dX4_readNumber_9 rfl ?_
      refine qiX4_50 (n := 13) dX4_readNumber_10 rfl rfl (Nat.le_of_ble_eq_true rfl) (by omega) rfl (c_ahead hS) (Nat.le_refl _) (Nat.le_refl _) ?_
      refine qiX4_62 (n := 16) dX4_readNumber_13 rfl rfl (Nat.le_of_ble_eq_true rfl) (by omega) (c_dig _) (Nat.le_refl _) (Nat.le_refl _) ?_
      refine k_ifb_eq (t := 48) (n := 19) dX4_readNumber_16 (by decide) rfl (fun h16 => ?_) (fun h16 => ?_)
      · refine al0 (n := 49) dX4_readNumber_48 rfl ?_
        refine il1 (n := 50) dX4_readNumber_49 rfl ?_
        refine qiX4_58 (n := 53) dX4_readNumber_50 rfl rfl (Nat.le_of_ble_eq_true rfl) (by omega) rfl (c_wr hS.2.2.2.1 h50 _) (Nat.le_refl _) (Nat.le_refl _) ?_
        refine k_return dX4_readNumber_53 rfl (Nat.le_refl _) (Nat.le_refl _) ?_
        have ev : (v, a) = numF B 4 v0 a0 := by rw [← hn, numF, if_neg h16]
        have z := hQ J hf (by rw [← ev]; exact hS) h68
        rw [← ev] at z
        exact z
      · have hlt : a < e := hS.1.lt (fun z => absurd (z ▸ h16.1 : (48 : Int32) ≤ -1) (by decide))
        refine il1 (n := 20) dX4_readNumber_19 rfl ?_
        refine k_bipush (a := 10) (n := 22) dX4_readNumber_20 rfl rfl ?_
        refine k_imul (n := 23) dX4_readNumber_22 rfl ?_
        refine al0 (n := 24) dX4_readNumber_23 rfl ?_
        refine qiX4_50 (n := 27) dX4_readNumber_24 rfl rfl (Nat.le_of_ble_eq_true rfl) (by omega) rfl (c_ahead hS) (Nat.le_refl _) (Nat.le_refl _) ?_
        refine k_iadd (n := 28) dX4_readNumber_27 rfl ?_
        refine k_bipush (a := 48) (n := 30) dX4_readNumber_28 rfl rfl ?_
        refine k_isub (n := 31) dX4_readNumber_30 rfl ?_
        refine is1 (n := 32) dX4_readNumber_31 rfl trivial ?_
        refine al0 (n := 33) dX4_readNumber_32 rfl ?_
        refine k_dup (n := 34) dX4_readNumber_33 rfl rfl ?_
        refine gX4_39 (n := 37) dX4_readNumber_34 rfl rfl rfl ?_
        refine k_top hS.2.1 ?_
        refine k_iconst (a := 1) (n := 38) dX4_readNumber_37 rfl rfl ?_
        refine k_iadd (n := 39) dX4_readNumber_38 rfl ?_
        refine pX4_39 (n := 42) dX4_readNumber_39 rfl rfl rfl ?_
        refine k_gen (fun I1 e1 => ?_)
        obtain ⟨hS1, hf1, g68⟩ := hS.at1 hlt e1
        refine ii2 (n := 45) dX4_readNumber_42 rfl (ki1 _) trivial ?_
        rw [nI_1]
        refine k_goto (n := 4) dX4_readNumber_45 (by decide) ?_
        refine ih (i + 1) (a + 1) _ I1 (hf.tr hf1) hS1 (g68.trans h68) (by omega) ?_
        rw [← hn, numF, if_pos h16, Int32.mul_comm v 10]
set_option maxHeartbeats 2000000 in
set_option maxRecDepth 20000 in
theorem c_num (hd : 1 ≤ d) (h : rS I B u e a s) (h50 : s < 50) : Ct E d mX4_readNumber 0 0 [.ref 67] (kJ I) (fun v M => ∃ K, v = none ∧ M = kJ (wrF K s (numF B 4 0 a).1) ∧ rF I K ∧ rS K B u e (numF B 4 0 a).2 s ∧ K 68 = I 68) := by
  refine Ct.of (L := [some (.ref 67), none, none]) rfl rfl (Nat.le_of_ble_eq_true rfl) ?_
  refine k_iconst (a := 0) (n := 1) dX4_readNumber_0 rfl rfl ?_
  refine is1 (n := 2) dX4_readNumber_1 rfl trivial ?_
  refine k_iconst (a := 0) (n := 3) dX4_readNumber_2 rfl rfl ?_
  refine is2 (n := 4) dX4_readNumber_3 rfl trivial ?_
  exact c_num_l hd _ s 0 a h50 (fun K h1 h2 h3 => ⟨K, rfl, rfl, h1, h2, h3⟩) 4 0 a 0 I (rF.rf I) h rfl (by omega) rfl
theorem lv_ne : ∀ L, L < 5 → ¬ (-1 : Int32) = nI L := by decide +kernel
set_option maxHeartbeats 2000000 in
set_option maxRecDepth 20000 in
theorem c_rbody {n L op i : Nat} (hC : RLK E n (L + 1)) (hL : L < 5) (hop : op ≤ 5) (sn : Nat) (hsn : sn ≤ 50) (hi : i < sn) (hd : 9 * (5 - op) + (5 - L) + 8 ≤ d) (hS : rS J B u e a s) (hfu : a < e → 16 * (e + 1 - (a + 1)) + rkF (L + 1) ≤ n) (Q : Option Value → kM → Prop) (hend : ¬ lvF (B a) = nI L → Q (some (.int 1)) (kJ J)) (hfail : lvF (B a) = nI L → a < e → ∀ K s2, rF J K → rS K B u e (pzP B u n (L + 1) (a + 1) op).2.1 s2 → s ≤ s2 → s2 + (a + 1) ≤ s + (pzP B u n (L + 1) (a + 1) op).2.1 → (∀ q, q < s → K 68 q = J 68 q) → (pzP B u n (L + 1) (a + 1) op).2.2 = false → Q (some (.int 0)) (kJ K)) (hcont : lvF (B a) = nI L → a < e → ∀ K s2, rF J K → rS K B u e (pzP B u n (L + 1) (a + 1) op).2.1 s2 → s ≤ s2 → s2 + (a + 1) ≤ s + (pzP B u n (L + 1) (a + 1) op).2.1 → (∀ q, q < s → K 68 q = J 68 q) → (pzP B u n (L + 1) (a + 1) op).2.2 = true → s < s2 → (∀ q, s ≤ q → q < s2 → okI (K 68 q)) → EV (K 68) s s2 (pzV B u n (L + 1) (a + 1) op) → ∀ x5, Wd E d mX4_readLevel 0 0 0 0 39 [some (.ref 67), some (.int (nI L)), some (.int (nI op)), some (.int (nI sn)), some (.int (nI (i + 1))), x5] [] (kJ (wrF K s2 (-(B a)))) Q) (x5 : Option Value) : Wd E d mX4_readLevel 0 0 0 0 39 [some (.ref 67), some (.int (nI L)), some (.int (nI op)), some (.int (nI sn)), some (.int (nI i)), x5] [] (kJ J) Q := by
  refine il4 (n := 41) dX4_readLevel_39 rfl ?_
  refine il3 (n := 42) dX4_readLevel_41 rfl ?_
  refine k_icmp_ge (t := 98) (n := 45) dX4_readLevel_42 (by decide) rfl (fun h42 => ?_) (fun h42 => ?_)
  · exact absurd h42 (nI_ge hi (by omega))
  · refine al0 (n := 46) dX4_readLevel_45 rfl ?_
    refine qiX4_50 (n := 49) dX4_readLevel_46 rfl rfl (Nat.le_of_ble_eq_true rfl) (by omega) rfl (c_ahead hS) (Nat.le_refl _) (Nat.le_refl _) ?_
    refine qiX4_54 (n := 52) dX4_readLevel_49 rfl rfl (Nat.le_of_ble_eq_true rfl) (by omega) (c_lvl (hS.1.ch a)) (Nat.le_refl _) (Nat.le_refl _) ?_
    refine il1 (n := 53) dX4_readLevel_52 rfl ?_
    refine k_icmp_ne (t := 98) (n := 56) dX4_readLevel_53 (by decide) rfl (fun h53 => ?_) (fun h53 => ?_)
    · refine k_iconst (a := 1) (n := 99) dX4_readLevel_98 rfl rfl ?_
      refine k_ireturn (ty := .boolean) dX4_readLevel_99 rfl (by first | rfl | exact knb _) (Nat.le_refl _) (Nat.le_refl _) ?_
      exact hend h53
    · have hae : a < e := hS.1.lt (fun z => lv_ne L hL (by rw [← h53, z, lv_m1]))
      refine al0 (n := 57) dX4_readLevel_56 rfl ?_
      refine qiX4_50 (n := 60) dX4_readLevel_57 rfl rfl (Nat.le_of_ble_eq_true rfl) (by omega) rfl (c_ahead hS) (Nat.le_refl _) (Nat.le_refl _) ?_
      refine is5 (n := 62) dX4_readLevel_60 rfl trivial ?_
      refine al0 (n := 63) dX4_readLevel_62 rfl ?_
      refine k_dup (n := 64) dX4_readLevel_63 rfl rfl ?_
      refine gX4_39 (n := 67) dX4_readLevel_64 rfl rfl rfl ?_
      refine k_top hS.2.1 ?_
      refine k_iconst (a := 1) (n := 68) dX4_readLevel_67 rfl rfl ?_
      refine k_iadd (n := 69) dX4_readLevel_68 rfl ?_
      refine pX4_39 (n := 72) dX4_readLevel_69 rfl rfl rfl ?_
      refine k_gen (fun I1 e1 => ?_)
      obtain ⟨hS1, hf1, g68⟩ := hS.at1 hae e1
      refine al0 (n := 73) dX4_readLevel_72 rfl ?_
      refine il1 (n := 74) dX4_readLevel_73 rfl ?_
      refine k_iconst (a := 1) (n := 75) dX4_readLevel_74 rfl rfl ?_
      refine k_iadd (n := 76) dX4_readLevel_75 rfl ?_
      rw [nI_1]
      refine il2 (n := 77) dX4_readLevel_76 rfl ?_
      refine qX4_42 (n := 80) dX4_readLevel_77 rfl rfl (Nat.le_of_ble_eq_true rfl) (by omega) (Nat.le_refl _) (Nat.le_refl _) rfl (hC (d - 1) I1 B u e (a + 1) op s hS1 hop (hfu hae) (by omega)) ?_
      rintro _ _ ⟨K, s2, rfl, rfl, g1, g2, g3, g4, g5, g6⟩
      dsimp only [Option.toList, List.cons_append, List.nil_append, Nat.add_zero]
      refine k_ifb_ne (t := 85) (n := 83) dX4_readLevel_80 (by decide) rfl (fun h80 => ?_) (fun h80 => ?_)
      · obtain ⟨g7, g8, g9⟩ := g6 h80
        refine al0 (n := 86) dX4_readLevel_85 rfl ?_
        refine il5 (n := 88) dX4_readLevel_86 rfl ?_
        refine k_ineg (n := 89) dX4_readLevel_88 rfl ?_
        refine qiX4_58 (n := 92) dX4_readLevel_89 rfl rfl (Nat.le_of_ble_eq_true rfl) (by omega) rfl (c_wr g2.2.2.2.1 (by have := g2.2.2.1; have := g2.1.2.1; have := hS.2.2.2.2; omega) _) (Nat.le_refl _) (Nat.le_refl _) ?_
        refine ii4 (n := 95) dX4_readLevel_92 rfl (ki1 _) trivial ?_
        rw [nI_1]
        refine k_goto (n := 39) dX4_readLevel_95 (by decide) ?_
        exact hcont h53 hae K s2 (hf1.tr g1) g2 g3 g4 (fun q hq => by rw [g5 q hq, g68]) h80 g7 g8 g9 _
      · refine k_iconst (a := 0) (n := 84) dX4_readLevel_83 rfl rfl ?_
        refine k_ireturn (ty := .boolean) dX4_readLevel_84 rfl (by first | rfl | exact knb _) (Nat.le_refl _) (Nat.le_refl _) ?_
        exact hfail h53 hae K s2 (hf1.tr g1) g2 g3 g4 (fun q hq => by rw [g5 q hq, g68]) (by simpa using h80)
end C17

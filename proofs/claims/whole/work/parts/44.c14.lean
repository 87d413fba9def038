section C14
variable {E : kE} {d c t : Nat} {I J : Nat → Nat → Int32} {r : Nat → Int32}
/-- what never changes of the laws at K -/
def LC (K : Nat) (I : Nat → Nat → Int32) : Prop := ∀ u, u < 2 → I (K + 1 + 3 * u) 2 = (if u = 0 then 1 else 0) ∧ I (K + 1 + 3 * u) 3 = (if u = 0 then 9 else 1)
theorem LK.lc {K : Nat} (h : LK K I r) : LC K I := fun u hu => by
  rcases (show u = 0 ∨ u = 1 by omega) with rfl | rfl
  · exact ⟨h.1.1, h.1.2.1⟩
  · exact ⟨h.2.1, h.2.2.1⟩
theorem run_cg {g h : Nat → Int32} {a b x : Int32} {s : cS} : ∀ n, (∀ i, i < n → g i = h i) → runF g a b x s n = runF h a b x s n
  | 0, _ => rfl
  | n + 1, e => by rw [runF, runF, run_cg n (fun i hi => e i (by omega)), e n (by omega)]
/-- a law's code, copied -/
theorem LW.cp {K O u : Nat} (h : LW O I r u) (hc : J (K + 1 + 3 * u) 2 = (if u = 0 then 1 else 0) ∧ J (K + 1 + 3 * u) 3 = (if u = 0 then 9 else 1)) {n : Nat} (hn : I (O + 1 + 3 * u) 4 = nI n) (h50 : n ≤ 50) (hz : J (K + 1 + 3 * u) 4 = nI n) (he : ∀ i, i < n → J (K + 2 + 3 * u) i = I (O + 2 + 3 * u) i) : LW K J r u := by
  obtain ⟨-, -, m, hm, hmz, hok, hg⟩ := h
  have e : m = n := by
    have z := congrArg Int32.toNatClampNeg (hmz.symm.trans hn)
    rwa [kcl (by omega), kcl (by omega)] at z
  subst e
  exact ⟨hc.1, hc.2, m, hm, hz, fun i hi => by rw [he i hi]; exact hok i hi, fun s a b x => by rw [run_cg m he]; exact hg s a b x⟩
theorem BR.ag {B : Nat} (h : BR B I r c t) (e : ∀ k, B ≤ k → k < B + 16 → J k = I k) : BR B J r c t := by
  have h8 := h.1.2.1
  have h4 := h.1.2.2.2
  refine ⟨h.1, ?_, fun p q => ?_, fun i hi => ?_, fun i hi j hj => ?_⟩
  · rw [e B (by omega) (by omega)]; exact h.2.1
  · rw [e _ (by omega) (by omega)]; exact h.2.2.1 p q
  · rw [e _ (by omega) (by omega)]; exact h.2.2.2.1 i hi
  · rw [e _ (by omega) (by omega)]; exact h.2.2.2.2 i hi j hj
theorem KR_copy {P O : Nat} (hP : (P = 26 ∧ O = 1) ∨ (P = 1 ∧ O = 26)) (hO : KR O I r c t) (hL : LC P I) {n0 n1 : Nat} (hn0 : I (O + 1) 4 = nI n0) (hn1 : I (O + 4) 4 = nI n1) (h50 : n0 ≤ 50) (h51 : n1 ≤ 50) {T1 T2 T3 I1 I2 I3 I4 I5 : Nat → Nat → Int32}
    (t1 : kset (kset I (P + 1) (upd (I (P + 1)) 4 (nI n0))) (P + 2) (va_cpy (I (O + 2)) (I (P + 2)) 0 0 n0) = T1) (t2 : kset (kset T1 (P + 4) (upd (T1 (P + 4)) 4 (nI n1))) (P + 5) (va_cpy (T1 (O + 5)) (T1 (P + 5)) 0 0 n1) = T2)
    (hb : BR (P + 7) T3 r c t) (hfp : FP (P + 7) T2 T3) (e1 : kset T3 (P + 23) (va_cpy (T3 (O + 23)) (T3 (P + 23)) 0 0 50) = I1) (e2 : kset I1 (P + 24) (va_cpy (I1 (O + 24)) (I1 (P + 24)) 0 0 20) = I2)
    (e3 : kset I2 P (upd (I2 P) 5 (I2 O 5)) = I3) (e4 : kset I3 P (upd (I3 P) 6 (I3 O 6)) = I4) (e5 : kset I4 P (upd (I4 P) 7 (I4 O 7)) = I5) : KR P I5 r c t ∧ ∀ k, (k < P ∨ P + 25 ≤ k) → I5 k = I k := by
  have f1 : ∀ k, k ≠ P + 1 → k ≠ P + 2 → T1 k = I k := fun k a b => by rw [← t1, kset_ne _ _ b, kset_ne _ _ a]
  have f2 : ∀ k, k ≠ P + 4 → k ≠ P + 5 → T2 k = T1 k := fun k a b => by rw [← t2, kset_ne _ _ b, kset_ne _ _ a]
  have f5 : ∀ k, k ≠ P → I5 k = I2 k := fun k a => by rw [← e5, kset_ne _ _ a, ← e4, kset_ne _ _ a, ← e3, kset_ne _ _ a]
  have f2b : ∀ k, k ≠ P + 23 → k ≠ P + 24 → I2 k = T3 k := fun k a b => by rw [← e2, kset_ne _ _ b, ← e1, kset_ne _ _ a]
  have f3 : ∀ k, (k < P + 7 ∨ P + 23 ≤ k) → T3 k = T2 k := fun k a => hfp k (by omega) (by omega) (by omega)
  have fo : ∀ k, (k < P ∨ P + 25 ≤ k) → T2 k = I k := fun k a => by rw [f2 k (by omega) (by omega), f1 k (by omega) (by omega)]
  have all : ∀ k, (k < P ∨ P + 25 ≤ k) → I5 k = I k := fun k a => by rw [f5 k (by omega), f2b k (by omega) (by omega), f3 k (by omega), fo k a]
  have out : ∀ j, j < 25 → (O + j < P ∨ P + 25 ≤ O + j) := fun j hj => by omega
  refine ⟨⟨⟨hb.ag (fun k a b => by rw [f5 k (by omega), f2b k (by omega) (by omega)]), ?_, ?_⟩, ?_, fun k hk => ?_, fun k hk => ?_⟩, all⟩
  · refine hO.1.2.1.cp ?_ hn0 h50 ?_ (fun i hi => ?_)
    · show I5 (P + 1) 2 = 1 ∧ I5 (P + 1) 3 = 9
      rw [f5 _ (by omega), f2b _ (by omega) (by omega), f3 _ (by omega), f2 _ (by omega) (by omega), ← t1, kset_ne _ _ (by omega), kset_same, pk_un (by decide), pk_un (by decide)]
      exact hL 0 (by decide)
    · show I5 (P + 1) 4 = _
      rw [f5 _ (by omega), f2b _ (by omega) (by omega), f3 _ (by omega), f2 _ (by omega) (by omega), ← t1, kset_ne _ _ (by omega), kset_same, pk_us]
    · show I5 (P + 2) i = I (O + 2) i
      rw [f5 _ (by omega), f2b _ (by omega) (by omega), f3 _ (by omega), f2 _ (by omega) (by omega), ← t1, kset_same, sb_cpy0 hi]
  · refine hO.1.2.2.cp ?_ hn1 h51 ?_ (fun i hi => ?_)
    · show I5 (P + 4) 2 = 0 ∧ I5 (P + 4) 3 = 1
      rw [f5 _ (by omega), f2b _ (by omega) (by omega), f3 _ (by omega), ← t2, kset_ne _ _ (by omega), kset_same, pk_un (by decide), pk_un (by decide), f1 _ (by omega) (by omega)]
      exact hL 1 (by decide)
    · show I5 (P + 4) 4 = _
      rw [f5 _ (by omega), f2b _ (by omega) (by omega), f3 _ (by omega), ← t2, kset_ne _ _ (by omega), kset_same, pk_us]
    · show I5 (P + 5) i = I (O + 5) i
      rw [f5 _ (by omega), f2b _ (by omega) (by omega), f3 _ (by omega), ← t2, kset_same, sb_cpy0 hi, f1 _ (by omega) (by omega)]
  · have o2 : I2 O = I O := by rw [f2b _ (by omega) (by omega), f3 _ (by omega), fo O (by omega)]
    have o3 : I3 O = I O := by rw [← e3, kset_ne _ _ (by omega)]; exact o2
    have o4 : I4 O = I O := by rw [← e4, kset_ne _ _ (by omega)]; exact o3
    rw [← e5, kset_same, ← e4, kset_same, ← e3, kset_same] at *
    refine ⟨?_, ?_, ?_⟩
    · rw [pk_un (by decide), pk_un (by decide), pk_us, o2]; exact hO.2.1.1
    · rw [pk_un (by decide), pk_us]
      rw [kset_ne _ _ (by omega), o2]; exact hO.2.1.2.1
    · rw [pk_us]
      rw [kset_ne _ _ (by omega), kset_ne _ _ (by omega), o2]; exact hO.2.1.2.2
  · rw [f5 _ (by omega), ← e2, kset_ne _ _ (by omega), ← e1, kset_same, sb_cpy0 hk, f3 _ (by omega), fo _ (by omega)]; exact hO.2.2.1 k hk
  · rw [f5 _ (by omega), ← e2, kset_same, sb_cpy0 hk, ← e1, kset_ne _ _ (by omega), f3 _ (by omega), fo _ (by omega)]; exact hO.2.2.2 k hk
set_option maxHeartbeats 2000000 in
set_option maxRecDepth 20000 in
theorem c_take {A C F n : Nat} (hA : SS[A]? = some (3, 5)) (h0 : PP A 0 = some C) (hC : SS[C]? = some (100, 50)) (hF : SS[F]? = some (100, 50)) (hAC : C ≠ A) (hAF : F ≠ A) (hn : n ≤ 50) : Ct E d mX3_takeCode 0 0 [.ref A, .ref F, .int (nI n)] (kJ I) (kRv (kset (kset I A (upd (I A) 4 (nI n))) C (va_cpy (I F) (I C) 0 0 n))) := by
  refine Ct.of (L := [some (.ref A), some (.ref F), some (.int (nI n))]) rfl rfl (Nat.le_of_ble_eq_true rfl) ?_
  refine al0 (n := 1) dX3_takeCode_0 rfl ?_
  refine il2 (n := 2) dX3_takeCode_1 rfl ?_
  refine al1 (n := 3) dX3_takeCode_2 rfl ?_
  refine k_alen (n := 4) dX3_takeCode_3 rfl (jR hF) ?_
  refine qX3_29 (n := 7) dX3_takeCode_4 rfl rfl (Nat.le_of_ble_eq_true rfl) (Nat.le_refl _) (Nat.le_refl _) ?_
  rw [show (if (nI 50 : Int32) < nI n then nI 50 else nI n) = nI n from if_neg (nI_nlt hn (by decide))]
  refine al0 (n := 8) dX3_takeCode_7 rfl ?_
  refine gX3_9 (n := 11) dX3_takeCode_8 rfl rfl hA h0 ?_
  refine k_alen (n := 12) dX3_takeCode_11 rfl (jR hC) ?_
  refine qX3_29 (n := 15) dX3_takeCode_12 rfl rfl (Nat.le_of_ble_eq_true rfl) (Nat.le_refl _) (Nat.le_refl _) ?_
  rw [show (if (nI 50 : Int32) < nI n then nI 50 else nI n) = nI n from if_neg (nI_nlt hn (by decide))]
  refine pX3_35 (n := 18) dX3_takeCode_15 rfl rfl hA ?_
  refine k_gen (fun I1 e1 => ?_)
  refine al1 (n := 19) dX3_takeCode_18 rfl ?_
  refine k_iconst (a := 0) (n := 20) dX3_takeCode_19 rfl rfl ?_
  refine al0 (n := 21) dX3_takeCode_20 rfl ?_
  refine gX3_9 (n := 24) dX3_takeCode_21 rfl rfl hA h0 ?_
  refine k_iconst (a := 0) (n := 25) dX3_takeCode_24 rfl rfl ?_
  refine al0 (n := 26) dX3_takeCode_25 rfl ?_
  refine gX3_35 (n := 29) dX3_takeCode_26 rfl rfl hA ?_
  refine k_top (show I1 A 4 = nI n by rw [← e1, kset_same, pk_us]) ?_
  refine qjX3_38 (n := 32) dX3_takeCode_29 rfl rfl (jR hF) hC rfl rfl rfl (a := 0) (b := 0) (z := n) (by omega) (by omega) (by decide) (by decide) (Nat.le_of_ble_eq_true rfl) ?_
  refine k_return dX3_takeCode_32 rfl (Nat.le_refl _) (Nat.le_refl _) ?_
  subst e1
  exact ⟨rfl, by rw [kset_ne _ _ hAF, kset_ne _ _ hAC]⟩
set_option maxHeartbeats 2000000 in
set_option maxRecDepth 20000 in
theorem c_cpK26 (hd : 2 ≤ d) (hO : KR 1 I r c t) (hL : LC 26 I) : Ct E d mX2_copyFrom 0 0 [.ref 26, .ref 1] (kJ I) (fun v M => ∃ J, v = none ∧ M = kJ J ∧ KR 26 J r c t ∧ ∀ k, (k < 26 ∨ 26 + 25 ≤ k) → J k = I k) := by
  obtain ⟨-, -, n0, h50, hn0, -, -⟩ := id hO.1.2.1
  obtain ⟨-, -, n1, h51, hn1, -, -⟩ := id hO.1.2.2
  refine Ct.of (L := [some (.ref 26), some (.ref 1)]) rfl rfl (Nat.le_of_ble_eq_true rfl) ?_
  refine al0 (n := 1) dX2_copyFrom_0 rfl ?_
  refine gX2_18 (n := 4) dX2_copyFrom_1 rfl rfl rfl rfl ?_
  refine al1 (n := 5) dX2_copyFrom_4 rfl ?_
  refine gX2_18 (n := 8) dX2_copyFrom_5 rfl rfl rfl rfl ?_
  refine gX2_49 (n := 11) dX2_copyFrom_8 rfl rfl rfl rfl ?_
  refine al1 (n := 12) dX2_copyFrom_11 rfl ?_
  refine gX2_18 (n := 15) dX2_copyFrom_12 rfl rfl rfl rfl ?_
  refine gX2_52 (n := 18) dX2_copyFrom_15 rfl rfl rfl ?_
  refine k_top hn0 ?_
  refine qiX2_55 (n := 21) dX2_copyFrom_18 rfl rfl (Nat.le_of_ble_eq_true rfl) (by omega) rfl (c_take (A := 27) (C := 28) (F := 3) rfl rfl rfl rfl (by decide) (by decide) h50) (Nat.le_refl _) (Nat.le_refl _) ?_
  refine k_gen (fun T1 t1 => ?_)
  refine al0 (n := 22) dX2_copyFrom_21 rfl ?_
  refine gX2_27 (n := 25) dX2_copyFrom_22 rfl rfl rfl rfl ?_
  refine al1 (n := 26) dX2_copyFrom_25 rfl ?_
  refine gX2_27 (n := 29) dX2_copyFrom_26 rfl rfl rfl rfl ?_
  refine gX2_49 (n := 32) dX2_copyFrom_29 rfl rfl rfl rfl ?_
  refine al1 (n := 33) dX2_copyFrom_32 rfl ?_
  refine gX2_27 (n := 36) dX2_copyFrom_33 rfl rfl rfl rfl ?_
  refine gX2_52 (n := 39) dX2_copyFrom_36 rfl rfl rfl ?_
  refine k_top (show T1 5 4 = nI n1 by rw [← t1, kset_ne _ _ (by decide), kset_ne _ _ (by decide)]; exact hn1) ?_
  refine qiX2_55 (n := 42) dX2_copyFrom_39 rfl rfl (Nat.le_of_ble_eq_true rfl) (by omega) rfl (c_take (A := 30) (C := 31) (F := 6) rfl rfl rfl rfl (by decide) (by decide) h51) (Nat.le_refl _) (Nat.le_refl _) ?_
  refine k_gen (fun T2 t2 => ?_)
  refine al0 (n := 43) dX2_copyFrom_42 rfl ?_
  refine gX2_35 (n := 46) dX2_copyFrom_43 rfl rfl rfl rfl ?_
  refine al1 (n := 47) dX2_copyFrom_46 rfl ?_
  refine gX2_35 (n := 50) dX2_copyFrom_47 rfl rfl rfl rfl ?_
  refine qX2_59 (n := 53) dX2_copyFrom_50 rfl rfl (Nat.le_of_ble_eq_true rfl) (by omega) (Nat.le_refl _) (Nat.le_refl _) rfl (c_cpB (by omega) (P := 33) (O := 8) (by unfold BC; omega) (by unfold BC; omega) (by unfold PO; omega) (hO.1.1.ag (fun k a b => by rw [← t2, kset_ne _ _ (by omega), kset_ne _ _ (by omega), ← t1, kset_ne _ _ (by omega), kset_ne _ _ (by omega)]))) ?_
  rintro _ _ ⟨T3, rfl, rfl, hbr, hfp⟩
  dsimp only [Option.toList, List.nil_append, Nat.add_zero]
  refine al1 (n := 54) dX2_copyFrom_53 rfl ?_
  refine gX2_39 (n := 57) dX2_copyFrom_54 rfl rfl rfl rfl ?_
  refine k_iconst (a := 0) (n := 58) dX2_copyFrom_57 rfl rfl ?_
  refine al0 (n := 59) dX2_copyFrom_58 rfl ?_
  refine gX2_39 (n := 62) dX2_copyFrom_59 rfl rfl rfl rfl ?_
  refine k_iconst (a := 0) (n := 63) dX2_copyFrom_62 rfl rfl ?_
  refine k_bipush (a := 50) (n := 65) dX2_copyFrom_63 rfl rfl ?_
  refine qjX2_63 (n := 68) dX2_copyFrom_65 rfl rfl (jR rfl) (show SS[49]? = some (100, 50) from rfl) rfl rfl rfl (a := 0) (b := 0) (z := 50) (by decide) (by decide) (by decide) (by decide) (Nat.le_of_ble_eq_true rfl) ?_
  refine k_gen (fun I1 e1 => ?_)
  refine al1 (n := 69) dX2_copyFrom_68 rfl ?_
  refine gX2_42 (n := 72) dX2_copyFrom_69 rfl rfl rfl rfl ?_
  refine k_iconst (a := 0) (n := 73) dX2_copyFrom_72 rfl rfl ?_
  refine al0 (n := 74) dX2_copyFrom_73 rfl ?_
  refine gX2_42 (n := 77) dX2_copyFrom_74 rfl rfl rfl rfl ?_
  refine k_iconst (a := 0) (n := 78) dX2_copyFrom_77 rfl rfl ?_
  refine k_bipush (a := 20) (n := 80) dX2_copyFrom_78 rfl rfl ?_
  refine qjX2_63 (n := 83) dX2_copyFrom_80 rfl rfl (jR rfl) (show SS[50]? = some (100, 20) from rfl) rfl rfl rfl (a := 0) (b := 0) (z := 20) (by decide) (by decide) (by decide) (by decide) (Nat.le_of_ble_eq_true rfl) ?_
  refine k_gen (fun I2 e2 => ?_)
  refine al0 (n := 84) dX2_copyFrom_83 rfl ?_
  refine al1 (n := 85) dX2_copyFrom_84 rfl ?_
  refine gX2_69 (n := 88) dX2_copyFrom_85 rfl rfl rfl ?_
  refine pX2_69 (n := 91) dX2_copyFrom_88 rfl rfl rfl ?_
  refine k_gen (fun I3 e3 => ?_)
  refine al0 (n := 92) dX2_copyFrom_91 rfl ?_
  refine al1 (n := 93) dX2_copyFrom_92 rfl ?_
  refine gX2_72 (n := 96) dX2_copyFrom_93 rfl rfl rfl ?_
  refine pX2_72 (n := 99) dX2_copyFrom_96 rfl rfl rfl ?_
  refine k_gen (fun I4 e4 => ?_)
  refine al0 (n := 100) dX2_copyFrom_99 rfl ?_
  refine al1 (n := 101) dX2_copyFrom_100 rfl ?_
  refine gX2_45 (n := 104) dX2_copyFrom_101 rfl rfl rfl ?_
  refine pX2_45 (n := 107) dX2_copyFrom_104 rfl rfl rfl ?_
  refine k_gen (fun I5 e5 => ?_)
  refine k_return dX2_copyFrom_107 rfl (Nat.le_refl _) (Nat.le_refl _) ?_
  exact ⟨I5, rfl, rfl, KR_copy (by omega) hO hL hn0 hn1 h50 h51 t1 t2 hbr hfp e1 e2 e3 e4 e5⟩
set_option maxHeartbeats 2000000 in
set_option maxRecDepth 20000 in
theorem c_cpK1 (hd : 2 ≤ d) (hO : KR 26 I r c t) (hL : LC 1 I) : Ct E d mX2_copyFrom 0 0 [.ref 1, .ref 26] (kJ I) (fun v M => ∃ J, v = none ∧ M = kJ J ∧ KR 1 J r c t ∧ ∀ k, (k < 1 ∨ 1 + 25 ≤ k) → J k = I k) := by
  obtain ⟨-, -, n0, h50, hn0, -, -⟩ := id hO.1.2.1
  obtain ⟨-, -, n1, h51, hn1, -, -⟩ := id hO.1.2.2
  refine Ct.of (L := [some (.ref 1), some (.ref 26)]) rfl rfl (Nat.le_of_ble_eq_true rfl) ?_
  refine al0 (n := 1) dX2_copyFrom_0 rfl ?_
  refine gX2_18 (n := 4) dX2_copyFrom_1 rfl rfl rfl rfl ?_
  refine al1 (n := 5) dX2_copyFrom_4 rfl ?_
  refine gX2_18 (n := 8) dX2_copyFrom_5 rfl rfl rfl rfl ?_
  refine gX2_49 (n := 11) dX2_copyFrom_8 rfl rfl rfl rfl ?_
  refine al1 (n := 12) dX2_copyFrom_11 rfl ?_
  refine gX2_18 (n := 15) dX2_copyFrom_12 rfl rfl rfl rfl ?_
  refine gX2_52 (n := 18) dX2_copyFrom_15 rfl rfl rfl ?_
  refine k_top hn0 ?_
  refine qiX2_55 (n := 21) dX2_copyFrom_18 rfl rfl (Nat.le_of_ble_eq_true rfl) (by omega) rfl (c_take (A := 2) (C := 3) (F := 28) rfl rfl rfl rfl (by decide) (by decide) h50) (Nat.le_refl _) (Nat.le_refl _) ?_
  refine k_gen (fun T1 t1 => ?_)
  refine al0 (n := 22) dX2_copyFrom_21 rfl ?_
  refine gX2_27 (n := 25) dX2_copyFrom_22 rfl rfl rfl rfl ?_
  refine al1 (n := 26) dX2_copyFrom_25 rfl ?_
  refine gX2_27 (n := 29) dX2_copyFrom_26 rfl rfl rfl rfl ?_
  refine gX2_49 (n := 32) dX2_copyFrom_29 rfl rfl rfl rfl ?_
  refine al1 (n := 33) dX2_copyFrom_32 rfl ?_
  refine gX2_27 (n := 36) dX2_copyFrom_33 rfl rfl rfl rfl ?_
  refine gX2_52 (n := 39) dX2_copyFrom_36 rfl rfl rfl ?_
  refine k_top (show T1 30 4 = nI n1 by rw [← t1, kset_ne _ _ (by decide), kset_ne _ _ (by decide)]; exact hn1) ?_
  refine qiX2_55 (n := 42) dX2_copyFrom_39 rfl rfl (Nat.le_of_ble_eq_true rfl) (by omega) rfl (c_take (A := 5) (C := 6) (F := 31) rfl rfl rfl rfl (by decide) (by decide) h51) (Nat.le_refl _) (Nat.le_refl _) ?_
  refine k_gen (fun T2 t2 => ?_)
  refine al0 (n := 43) dX2_copyFrom_42 rfl ?_
  refine gX2_35 (n := 46) dX2_copyFrom_43 rfl rfl rfl rfl ?_
  refine al1 (n := 47) dX2_copyFrom_46 rfl ?_
  refine gX2_35 (n := 50) dX2_copyFrom_47 rfl rfl rfl rfl ?_
  refine qX2_59 (n := 53) dX2_copyFrom_50 rfl rfl (Nat.le_of_ble_eq_true rfl) (by omega) (Nat.le_refl _) (Nat.le_refl _) rfl (c_cpB (by omega) (P := 8) (O := 33) (by unfold BC; omega) (by unfold BC; omega) (by unfold PO; omega) (hO.1.1.ag (fun k a b => by rw [← t2, kset_ne _ _ (by omega), kset_ne _ _ (by omega), ← t1, kset_ne _ _ (by omega), kset_ne _ _ (by omega)]))) ?_
  rintro _ _ ⟨T3, rfl, rfl, hbr, hfp⟩
  dsimp only [Option.toList, List.nil_append, Nat.add_zero]
  refine al1 (n := 54) dX2_copyFrom_53 rfl ?_
  refine gX2_39 (n := 57) dX2_copyFrom_54 rfl rfl rfl rfl ?_
  refine k_iconst (a := 0) (n := 58) dX2_copyFrom_57 rfl rfl ?_
  refine al0 (n := 59) dX2_copyFrom_58 rfl ?_
  refine gX2_39 (n := 62) dX2_copyFrom_59 rfl rfl rfl rfl ?_
  refine k_iconst (a := 0) (n := 63) dX2_copyFrom_62 rfl rfl ?_
  refine k_bipush (a := 50) (n := 65) dX2_copyFrom_63 rfl rfl ?_
  refine qjX2_63 (n := 68) dX2_copyFrom_65 rfl rfl (jR rfl) (show SS[24]? = some (100, 50) from rfl) rfl rfl rfl (a := 0) (b := 0) (z := 50) (by decide) (by decide) (by decide) (by decide) (Nat.le_of_ble_eq_true rfl) ?_
  refine k_gen (fun I1 e1 => ?_)
  refine al1 (n := 69) dX2_copyFrom_68 rfl ?_
  refine gX2_42 (n := 72) dX2_copyFrom_69 rfl rfl rfl rfl ?_
  refine k_iconst (a := 0) (n := 73) dX2_copyFrom_72 rfl rfl ?_
  refine al0 (n := 74) dX2_copyFrom_73 rfl ?_
  refine gX2_42 (n := 77) dX2_copyFrom_74 rfl rfl rfl rfl ?_
  refine k_iconst (a := 0) (n := 78) dX2_copyFrom_77 rfl rfl ?_
  refine k_bipush (a := 20) (n := 80) dX2_copyFrom_78 rfl rfl ?_
  refine qjX2_63 (n := 83) dX2_copyFrom_80 rfl rfl (jR rfl) (show SS[25]? = some (100, 20) from rfl) rfl rfl rfl (a := 0) (b := 0) (z := 20) (by decide) (by decide) (by decide) (by decide) (Nat.le_of_ble_eq_true rfl) ?_
  refine k_gen (fun I2 e2 => ?_)
  refine al0 (n := 84) dX2_copyFrom_83 rfl ?_
  refine al1 (n := 85) dX2_copyFrom_84 rfl ?_
  refine gX2_69 (n := 88) dX2_copyFrom_85 rfl rfl rfl ?_
  refine pX2_69 (n := 91) dX2_copyFrom_88 rfl rfl rfl ?_
  refine k_gen (fun I3 e3 => ?_)
  refine al0 (n := 92) dX2_copyFrom_91 rfl ?_
  refine al1 (n := 93) dX2_copyFrom_92 rfl ?_
  refine gX2_72 (n := 96) dX2_copyFrom_93 rfl rfl rfl ?_
  refine pX2_72 (n := 99) dX2_copyFrom_96 rfl rfl rfl ?_
  refine k_gen (fun I4 e4 => ?_)
  refine al0 (n := 100) dX2_copyFrom_99 rfl ?_
  refine al1 (n := 101) dX2_copyFrom_100 rfl ?_
  refine gX2_45 (n := 104) dX2_copyFrom_101 rfl rfl rfl ?_
  refine pX2_45 (n := 107) dX2_copyFrom_104 rfl rfl rfl ?_
  refine k_gen (fun I5 e5 => ?_)
  refine k_return dX2_copyFrom_107 rfl (Nat.le_refl _) (Nat.le_refl _) ?_
  exact ⟨I5, rfl, rfl, KR_copy (by omega) hO hL hn0 hn1 h50 h51 t1 t2 hbr hfp e1 e2 e3 e4 e5⟩
theorem KR.ag {K : Nat} (h : KR K I r c t) (e : ∀ k, K ≤ k → k < K + 25 → J k = I k) : KR K J r c t := by
  refine ⟨⟨h.1.1.ag (fun k a b => e k (by omega) (by omega)), h.1.2.fr (e _ (by omega) (by omega)) (e _ (by omega) (by omega)) (e _ (by omega) (by omega)) (e _ (by omega) (by omega))⟩, ?_, fun k hk => ?_, fun k hk => ?_⟩
  · rw [e K (by omega) (by omega)]; exact h.2.1
  · rw [e _ (by omega) (by omega)]; exact h.2.2.1 k hk
  · rw [e _ (by omega) (by omega)]; exact h.2.2.2 k hk
set_option maxHeartbeats 2000000 in
set_option maxRecDepth 20000 in
theorem c_image (hd : 3 ≤ d) (hC : CR I r c t) (hL : LC 26 I) : Ct E d mX8_image 0 0 [.ref 0] (kJ I) (fun v M => ∃ J, v = some (.int (I 0 7 + 1)) ∧ M = kJ J ∧ CR J r c t ∧ KR 26 J r c t ∧ J 0 = upd (I 0) 7 (I 0 7 + 1) ∧ ∀ k, (1 ≤ k ∧ k < 26) ∨ 51 ≤ k → J k = I k) := by
  refine Ct.of (L := [some (.ref 0)]) rfl rfl (Nat.le_of_ble_eq_true rfl) ?_
  refine al0 (n := 1) dX8_image_0 rfl ?_
  refine gX8_16 (n := 4) dX8_image_1 rfl rfl rfl rfl ?_
  refine al0 (n := 5) dX8_image_4 rfl ?_
  refine gX8_10 (n := 8) dX8_image_5 rfl rfl rfl rfl ?_
  refine qX8_334 (n := 11) dX8_image_8 rfl rfl (Nat.le_of_ble_eq_true rfl) (by omega) (Nat.le_refl _) (Nat.le_refl _) rfl (c_cpK26 (by omega) hC hL) ?_
  rintro _ _ ⟨K, rfl, rfl, hK, hfK⟩
  dsimp only [Option.toList, List.nil_append, Nat.add_zero]
  refine al0 (n := 12) dX8_image_11 rfl ?_
  refine k_dup (n := 13) dX8_image_12 rfl rfl ?_
  refine gX8_338 (n := 16) dX8_image_13 rfl rfl rfl ?_
  refine k_top (show K 0 7 = I 0 7 by rw [hfK 0 (by omega)]) ?_
  refine k_iconst (a := 1) (n := 17) dX8_image_16 rfl rfl ?_
  refine k_iadd (n := 18) dX8_image_17 rfl ?_
  refine pX8_338 (n := 21) dX8_image_18 rfl rfl rfl ?_
  refine k_gen (fun I1 e1 => ?_)
  refine al0 (n := 22) dX8_image_21 rfl ?_
  refine gX8_338 (n := 25) dX8_image_22 rfl rfl rfl ?_
  refine k_top (show I1 0 7 = I 0 7 + 1 by rw [← e1, kset_same, pk_us]) ?_
  refine k_ireturn (ty := .int) dX8_image_25 rfl rfl (Nat.le_refl _) (Nat.le_refl _) ?_
  have f1 : ∀ k, k ≠ 0 → I1 k = K k := fun k a => by rw [← e1, kset_ne _ _ a]
  have fI : ∀ k, (1 ≤ k ∧ k < 26) ∨ 51 ≤ k → I1 k = I k := fun k a => by rw [f1 k (by omega), hfK k (by omega)]
  refine ⟨I1, rfl, rfl, KR.ag hC (fun k a b => fI k (by omega)), KR.ag hK (fun k a b => f1 k (by omega)), ?_, fI⟩
  rw [← e1, kset_same, hfK 0 (by omega)]
set_option maxHeartbeats 2000000 in
set_option maxRecDepth 20000 in
theorem c_restore (hd : 3 ≤ d) (hC : CR I r c t) {q : Nat → Int32} {c2 t2 : Nat} (hK : ¬ I 0 7 = 0 → KR 26 I q c2 t2) : Ct E d mX8_restore 0 0 [.ref 0] (kJ I) (fun v M => ∃ J, M = kJ J ∧ ((I 0 7 = 0 ∧ v = some (.int (-1000000002)) ∧ J = kerC I 2) ∨ (¬ I 0 7 = 0 ∧ v = some (.int (q 0)) ∧ CR J q c2 t2 ∧ ∀ k, (k = 0 ∨ 26 ≤ k) → J k = I k))) := by
  refine Ct.of (L := [some (.ref 0)]) rfl rfl (Nat.le_of_ble_eq_true rfl) ?_
  refine al0 (n := 1) dX8_restore_0 rfl ?_
  refine gX8_338 (n := 4) dX8_restore_1 rfl rfl rfl ?_
  refine k_if_ne (t := 13) (n := 7) dX8_restore_4 (by decide) rfl (fun h4 => ?_) (fun h4 => ?_)
  · refine al0 (n := 14) dX8_restore_13 rfl ?_
    refine gX8_10 (n := 17) dX8_restore_14 rfl rfl rfl rfl ?_
    refine al0 (n := 18) dX8_restore_17 rfl ?_
    refine gX8_16 (n := 21) dX8_restore_18 rfl rfl rfl rfl ?_
    refine qX8_334 (n := 24) dX8_restore_21 rfl rfl (Nat.le_of_ble_eq_true rfl) (by omega) (Nat.le_refl _) (Nat.le_refl _) rfl (c_cpK1 (by omega) (hK h4) (hC.1.2.lc)) ?_
    rintro _ _ ⟨K, rfl, rfl, hKK, hfK⟩
    dsimp only [Option.toList, List.nil_append, Nat.add_zero]
    have hbK := CR.bl hKK
    refine al0 (n := 25) dX8_restore_24 rfl ?_
    refine gX8_10 (n := 28) dX8_restore_25 rfl rfl rfl rfl ?_
    refine gX8_73 (n := 31) dX8_restore_28 rfl rfl rfl rfl ?_
    refine gX8_227 (n := 34) dX8_restore_31 rfl rfl (hS0 (Or.inl rfl)) ?_
    refine k_top (BL.f8 hbK) ?_
    refine k_ireturn (ty := .int) dX8_restore_34 rfl rfl (Nat.le_refl _) (Nat.le_refl _) ?_
    exact ⟨K, rfl, Or.inr ⟨h4, rfl, hKK, fun k a => hfK k (by omega)⟩⟩
  · refine al0 (n := 8) dX8_restore_7 rfl ?_
    refine k_iconst (a := 2) (n := 9) dX8_restore_8 rfl rfl ?_
    refine qiX8_69 (n := 12) dX8_restore_9 rfl rfl (Nat.le_of_ble_eq_true rfl) (by omega) rfl (c_refuse2 (by omega)) (Nat.le_refl _) (Nat.le_refl _) ?_
    refine k_ireturn (ty := .int) dX8_restore_12 rfl rfl (Nat.le_refl _) (Nat.le_refl _) ?_
    exact ⟨_, rfl, Or.inl ⟨h4, rfl, rfl⟩⟩
end C14

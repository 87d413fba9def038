def BC (B : Nat) : Prop := B = 8 ∨ B = 33 ∨ B = 51
theorem BB.c {B : Nat} (h : BB B) : BC B := h.elim Or.inl (fun h => Or.inr (Or.inr h))
theorem hS0c {B : Nat} (h : BC B) : SS[B]? = some (0, 13) := by rcases h with rfl | rfl | rfl <;> rfl
theorem hS1c {B : Nat} (h : BC B) : SS[B + 1]? = some (100, 8) := by rcases h with rfl | rfl | rfl <;> rfl
theorem hS2c {B : Nat} (h : BC B) : SS[B + 2]? = some (107, 4) := by rcases h with rfl | rfl | rfl <;> rfl
theorem hS3c {B : Nat} (h : BC B) : SS[B + 3]? = some (102, 8) := by rcases h with rfl | rfl | rfl <;> rfl
theorem hS4c {B i : Nat} (h : BC B) (hi : i < 4) : SS[B + 4 + i]? = some (6, 2) := by rcases h with rfl | rfl | rfl <;> first | exact (hS4a i hi).1 | exact (hS4a i hi).2.1 | exact (hS4a i hi).2.2
theorem hS8c {B i : Nat} (h : BC B) (hi : i < 8) : SS[B + 8 + i]? = some (1, 7) := by rcases h with rfl | rfl | rfl <;> first | exact (hS8a i hi).1 | exact (hS8a i hi).2.1 | exact (hS8a i hi).2.2
theorem hP2c {B : Nat} (h : BC B) : PP B 2 = some (B + 1) := by rcases h with rfl | rfl | rfl <;> rfl
theorem hP3c {B : Nat} (h : BC B) : PP B 3 = some (B + 2) := by rcases h with rfl | rfl | rfl <;> rfl
theorem hP4c {B : Nat} (h : BC B) : PP B 4 = some (B + 3) := by rcases h with rfl | rfl | rfl <;> rfl
theorem hP5c {B i : Nat} (h : BC B) (hi : i < 4) : PP (B + 2) i = some (B + 4 + i) := by rcases h with rfl | rfl | rfl <;> first | exact (hP5a i hi).1 | exact (hP5a i hi).2.1 | exact (hP5a i hi).2.2
theorem hP6c {B i : Nat} (h : BC B) (hi : i < 8) : PP (B + 3) i = some (B + 8 + i) := by rcases h with rfl | rfl | rfl <;> first | exact (hP6a i hi).1 | exact (hP6a i hi).2.1 | exact (hP6a i hi).2.2
/-- only the border P has changed -/
def FP (P : Nat) (I J : Nat → Nat → Int32) : Prop := ∀ k, k ≠ P → k ≠ P + 1 → ¬ (P + 4 ≤ k ∧ k < P + 16) → J k = I k
theorem FP.fb {P : Nat} {I J : Nat → Nat → Int32} (h : FP P I J) : FB P I J := fun k a b c _ _ => h k a b c
theorem FP.tr {B : Nat} {I J K : Nat → Nat → Int32} (h : FP B I J) (g : FP B J K) : FP B I K := fun k a b c => (g k a b c).trans (h k a b c)
def kCp (a b n : Nat) (I : Nat → Nat → Int32) : Option Value → kM → Prop := fun v M => ∃ J, v = none ∧ M = kJ J ∧ (∀ k, k ≠ a → J k = I k) ∧ ∀ j, j < n → J a j = I b j
section C6
variable {E : kE} {d P O B c t a b : Nat} {I : Nat → Nat → Int32} {r : Nat → Int32}
set_option maxHeartbeats 2000000 in
set_option maxRecDepth 20000 in
theorem c_cpT (ha : SS[a]? = some (6, 2)) (hb : SS[b]? = some (6, 2)) (hab : b ≠ a) : Ct E d mX6_copyFrom 0 0 [.ref a, .ref b] (kJ I) (kCp a b 2 I) := by
  refine Ct.of (L := [some (.ref a), some (.ref b)]) rfl rfl (Nat.le_of_ble_eq_true rfl) ?_
  refine al0 (n := 1) dX6_copyFrom_0 rfl ?_
  refine al1 (n := 2) dX6_copyFrom_1 rfl ?_
  refine gX6_7 (n := 5) dX6_copyFrom_2 rfl rfl hb ?_
  refine pX6_7 (n := 8) dX6_copyFrom_5 rfl rfl ha ?_
  refine k_gen (fun I1 e1 => ?_)
  refine al0 (n := 9) dX6_copyFrom_8 rfl ?_
  refine al1 (n := 10) dX6_copyFrom_9 rfl ?_
  refine gX6_13 (n := 13) dX6_copyFrom_10 rfl rfl hb ?_
  refine pX6_13 (n := 16) dX6_copyFrom_13 rfl rfl ha ?_
  refine k_gen (fun I2 e2 => ?_)
  refine k_return dX6_copyFrom_16 rfl (Nat.le_refl _) (Nat.le_refl _) ?_
  subst e1 e2
  refine ⟨_, rfl, rfl, fun k hk => by simp only [kset_ne _ _ hk], fun j hj => ?_⟩
  rcases (show j = 0 ∨ j = 1 by omega) with rfl | rfl <;> simp [kset_same, upd, kset_ne _ _ hab]
set_option maxHeartbeats 2000000 in
set_option maxRecDepth 20000 in
theorem c_cpC (ha : SS[a]? = some (1, 7)) (hb : SS[b]? = some (1, 7)) (hab : b ≠ a) : Ct E d mX1_copyFrom 0 0 [.ref a, .ref b] (kJ I) (kCp a b 7 I) := by
  refine Ct.of (L := [some (.ref a), some (.ref b)]) rfl rfl (Nat.le_of_ble_eq_true rfl) ?_
  refine al0 (n := 1) dX1_copyFrom_0 rfl ?_
  refine al1 (n := 2) dX1_copyFrom_1 rfl ?_
  refine gX1_9 (n := 5) dX1_copyFrom_2 rfl rfl hb ?_
  refine pX1_9 (n := 8) dX1_copyFrom_5 rfl rfl ha ?_
  refine k_gen (fun I1 e1 => ?_)
  refine al0 (n := 9) dX1_copyFrom_8 rfl ?_
  refine al1 (n := 10) dX1_copyFrom_9 rfl ?_
  refine gX1_15 (n := 13) dX1_copyFrom_10 rfl rfl hb ?_
  refine pX1_15 (n := 16) dX1_copyFrom_13 rfl rfl ha ?_
  refine k_gen (fun I2 e2 => ?_)
  refine al0 (n := 17) dX1_copyFrom_16 rfl ?_
  refine al1 (n := 18) dX1_copyFrom_17 rfl ?_
  refine gX1_18 (n := 21) dX1_copyFrom_18 rfl rfl hb ?_
  refine pX1_18 (n := 24) dX1_copyFrom_21 rfl rfl ha ?_
  refine k_gen (fun I3 e3 => ?_)
  refine al0 (n := 25) dX1_copyFrom_24 rfl ?_
  refine al1 (n := 26) dX1_copyFrom_25 rfl ?_
  refine gX1_21 (n := 29) dX1_copyFrom_26 rfl rfl hb ?_
  refine pX1_21 (n := 32) dX1_copyFrom_29 rfl rfl ha ?_
  refine k_gen (fun I4 e4 => ?_)
  refine al0 (n := 33) dX1_copyFrom_32 rfl ?_
  refine al1 (n := 34) dX1_copyFrom_33 rfl ?_
  refine gX1_24 (n := 37) dX1_copyFrom_34 rfl rfl hb ?_
  refine pX1_24 (n := 40) dX1_copyFrom_37 rfl rfl ha ?_
  refine k_gen (fun I5 e5 => ?_)
  refine al0 (n := 41) dX1_copyFrom_40 rfl ?_
  refine al1 (n := 42) dX1_copyFrom_41 rfl ?_
  refine gX1_27 (n := 45) dX1_copyFrom_42 rfl rfl hb ?_
  refine pX1_27 (n := 48) dX1_copyFrom_45 rfl rfl ha ?_
  refine k_gen (fun I6 e6 => ?_)
  refine al0 (n := 49) dX1_copyFrom_48 rfl ?_
  refine al1 (n := 50) dX1_copyFrom_49 rfl ?_
  refine gX1_30 (n := 53) dX1_copyFrom_50 rfl rfl hb ?_
  refine pX1_30 (n := 56) dX1_copyFrom_53 rfl rfl ha ?_
  refine k_gen (fun I7 e7 => ?_)
  refine k_return dX1_copyFrom_56 rfl (Nat.le_refl _) (Nat.le_refl _) ?_
  subst e1 e2 e3 e4 e5 e6 e7
  refine ⟨_, rfl, rfl, fun k hk => by simp only [kset_ne _ _ hk], fun j hj => ?_⟩
  rcases (show j = 0 ∨ j = 1 ∨ j = 2 ∨ j = 3 ∨ j = 4 ∨ j = 5 ∨ j = 6 by omega) with rfl | rfl | rfl | rfl | rfl | rfl | rfl <;> simp [kset_same, upd, kset_ne _ _ hab]
/-- how far a border is copied -/
def CI (P : Nat) (I J : Nat → Nat → Int32) (r : Nat → Int32) (nt nc : Nat) : Prop := FP P I J ∧ (∀ p, p < 8 → J (P + 1) p = r (13 + p)) ∧ (∀ i, i < nt → J (P + 4 + i) 0 = r (21 + 2 * i) ∧ J (P + 4 + i) 1 = r (21 + 2 * i + 1)) ∧ (∀ i, i < nc → ∀ j, j < 7 → J (P + 8 + i) j = r (29 + 7 * i + j))
def PO (P O : Nat) : Prop := P + 16 ≤ O ∨ O + 16 ≤ P
theorem BR.fp (h : BR O I r c t) {J : Nat → Nat → Int32} (hp : PO P O) (hf : FP P I J) : BR O J r c t := by
  have h8 := h.1.2.1
  have h4 := h.1.2.2.2
  unfold PO at hp
  refine ⟨h.1, ?_, fun p q => ?_, fun i hi => ?_, fun i hi j hj => ?_⟩
  · rw [hf O (by omega) (by omega) (by omega)]; exact h.2.1
  · rw [hf _ (by omega) (by omega) (by omega)]; exact h.2.2.1 p q
  · rw [hf _ (by omega) (by omega) (by omega)]; exact h.2.2.2.1 i hi
  · rw [hf _ (by omega) (by omega) (by omega)]; exact h.2.2.2.2 i hi j hj
theorem CI.tt {J : Nat → Nat → Int32} {nt : Nat} (h : CI P I J r nt 0) {K : Nat → Nat → Int32} (hn : nt < 4) (h1 : ∀ k, k ≠ P + 4 + nt → K k = J k) (h2 : K (P + 4 + nt) 0 = r (21 + 2 * nt) ∧ K (P + 4 + nt) 1 = r (21 + 2 * nt + 1)) : CI P I K r (nt + 1) 0 := by
  refine ⟨fun k a b c => (h1 k (by omega)).trans (h.1 k a b c), fun p hp => by rw [h1 _ (by omega)]; exact h.2.1 p hp, fun i hi => ?_, fun i hi => absurd hi (by omega)⟩
  rcases Nat.lt_or_ge i nt with q | q
  · rw [h1 _ (by omega)]; exact h.2.2.1 i q
  · rw [show i = nt by omega]; exact h2
theorem CI.cc {J : Nat → Nat → Int32} {nt nc : Nat} (h : CI P I J r nt nc) {K : Nat → Nat → Int32} (hn : nc < 8) (ht : nt ≤ 4) (h1 : ∀ k, k ≠ P + 8 + nc → K k = J k) (h2 : ∀ j, j < 7 → K (P + 8 + nc) j = r (29 + 7 * nc + j)) : CI P I K r nt (nc + 1) := by
  refine ⟨fun k a b c => (h1 k (by omega)).trans (h.1 k a b c), fun p hp => by rw [h1 _ (by omega)]; exact h.2.1 p hp, fun i hi => by rw [h1 _ (by omega)]; exact h.2.2.1 i hi, fun i hi j hj => ?_⟩
  rcases Nat.lt_or_ge i nc with q | q
  · rw [h1 _ (by omega)]; exact h.2.2.2 i q j hj
  · rw [show i = nc by omega]; exact h2 j hj
def kBr (P : Nat) (I : Nat → Nat → Int32) (r : Nat → Int32) (c t : Nat) : Option Value → kM → Prop := fun v M => ∃ J, v = none ∧ M = kJ J ∧ BR P J r c t ∧ FP P I J
set_option maxHeartbeats 2000000 in
set_option maxRecDepth 20000 in
theorem c_cpB_t (hd : 1 ≤ d) (hP : BC P) (hO : BC O) (hPO : PO P O) (hb : BR O I r c t) (Q : Option Value → kM → Prop) (hQ : ∀ K, CI P I K r t 0 → Wd E d mX0_copyFrom 0 0 0 0 46 [some (.ref P), some (.ref O), some (.int (nI t))] [] (kJ K) Q) (m : Nat) : ∀ (i : Nat) (J : Nat → Nat → Int32), CI P I J r i 0 → i + m = t → Wd E d mX0_copyFrom 0 0 0 0 17 [some (.ref P), some (.ref O), some (.int (nI i))] [] (kJ J) Q := by
  induction m with
  | zero =>
    intro i J hJ hi
    have e : i = t := by omega
    subst e
    have hbJ := hb.fp hPO hJ.1
    refine il2 (n := 18) dX0_copyFrom_17 rfl ?_
    refine al1 (n := 19) dX0_copyFrom_18 rfl ?_
    refine gX0_52 (n := 22) dX0_copyFrom_19 rfl rfl (hS0c hO) ?_
    refine k_top (hbJ.2.1.2.2.2.2.1.trans hbJ.1.2.2.1) ?_
    refine k_icmp_ge (t := 46) (n := 25) dX0_copyFrom_22 (by decide) rfl (fun h22 => ?_) (fun h22 => ?_)
    · exact hQ J hJ
    · exact absurd (Int32.le_refl _) h22
  | succ m ih =>
    intro i J hJ hi
    have hic : i < t := by omega
    have h4 := hb.1.2.2.2
    have hbJ := hb.fp hPO hJ.1
    have hne : O + 4 + i ≠ P + 4 + i := by unfold PO at hPO; omega
    refine il2 (n := 18) dX0_copyFrom_17 rfl ?_
    refine al1 (n := 19) dX0_copyFrom_18 rfl ?_
    refine gX0_52 (n := 22) dX0_copyFrom_19 rfl rfl (hS0c hO) ?_
    refine k_top (hbJ.2.1.2.2.2.2.1.trans hbJ.1.2.2.1) ?_
    refine k_icmp_ge (t := 46) (n := 25) dX0_copyFrom_22 (by decide) rfl (fun h22 => ?_) (fun h22 => ?_)
    · exact absurd h22 (nI_ge (by omega) (by omega))
    · refine al0 (n := 26) dX0_copyFrom_25 rfl ?_
      refine gX0_17 (n := 29) dX0_copyFrom_26 rfl rfl (hS0c hP) (hP3c hP) ?_
      refine il2 (n := 30) dX0_copyFrom_29 rfl ?_
      refine j_aald (j := i) (n := 31) dX0_copyFrom_30 rfl (hS2c hP) hOT rfl (by omega) (by decide) (hP5c hP (by omega)) ?_
      refine al1 (n := 32) dX0_copyFrom_31 rfl ?_
      refine gX0_17 (n := 35) dX0_copyFrom_32 rfl rfl (hS0c hO) (hP3c hO) ?_
      refine il2 (n := 36) dX0_copyFrom_35 rfl ?_
      refine j_aald (j := i) (n := 37) dX0_copyFrom_36 rfl (hS2c hO) hOT rfl (by omega) (by decide) (hP5c hO (by omega)) ?_
      refine qX0_55 (n := 40) dX0_copyFrom_37 rfl rfl (Nat.le_of_ble_eq_true rfl) (by omega) (Nat.le_refl _) (Nat.le_refl _) (hS4c hP (by omega)) (c_cpT (hS4c hP (by omega)) (hS4c hO (by omega)) hne) ?_
      rintro _ _ ⟨K, rfl, rfl, hk1, hk2⟩
      dsimp only [Option.toList, List.nil_append, Nat.add_zero]
      refine ii2 (n := 43) dX0_copyFrom_40 rfl (ki1 _) trivial ?_
      rw [nI_1]
      refine k_goto (n := 17) dX0_copyFrom_43 (by decide) ?_
      refine ih (i + 1) K (CI.tt hJ (by omega) hk1 ⟨?_, ?_⟩) (by omega)
      · rw [hk2 0 (by decide)]; exact (hbJ.2.2.2.1 i hic).1
      · rw [hk2 1 (by decide)]; exact (hbJ.2.2.2.1 i hic).2
set_option maxHeartbeats 2000000 in
set_option maxRecDepth 20000 in
theorem c_cpB_c (hd : 1 ≤ d) (hP : BC P) (hO : BC O) (hPO : PO P O) (hb : BR O I r c t) (Q : Option Value → kM → Prop) (hQ : ∀ K, CI P I K r t c → Wd E d mX0_copyFrom 0 0 0 0 77 [some (.ref P), some (.ref O), some (.int (nI c))] [] (kJ K) Q) (m : Nat) : ∀ (i : Nat) (J : Nat → Nat → Int32), CI P I J r t i → i + m = c → Wd E d mX0_copyFrom 0 0 0 0 48 [some (.ref P), some (.ref O), some (.int (nI i))] [] (kJ J) Q := by
  induction m with
  | zero =>
    intro i J hJ hi
    have e : i = c := by omega
    subst e
    have hbJ := hb.fp hPO hJ.1
    refine il2 (n := 49) dX0_copyFrom_48 rfl ?_
    refine al1 (n := 50) dX0_copyFrom_49 rfl ?_
    refine gX0_59 (n := 53) dX0_copyFrom_50 rfl rfl (hS0c hO) ?_
    refine k_top (hbJ.2.1.2.2.2.2.2.2.1.trans hbJ.1.1) ?_
    refine k_icmp_ge (t := 77) (n := 56) dX0_copyFrom_53 (by decide) rfl (fun h53 => ?_) (fun h53 => ?_)
    · exact hQ J hJ
    · exact absurd (Int32.le_refl _) h53
  | succ m ih =>
    intro i J hJ hi
    have hic : i < c := by omega
    have h8 := hb.1.2.1
    have h4 := hb.1.2.2.2
    have hbJ := hb.fp hPO hJ.1
    have hne : O + 8 + i ≠ P + 8 + i := by unfold PO at hPO; omega
    refine il2 (n := 49) dX0_copyFrom_48 rfl ?_
    refine al1 (n := 50) dX0_copyFrom_49 rfl ?_
    refine gX0_59 (n := 53) dX0_copyFrom_50 rfl rfl (hS0c hO) ?_
    refine k_top (hbJ.2.1.2.2.2.2.2.2.1.trans hbJ.1.1) ?_
    refine k_icmp_ge (t := 77) (n := 56) dX0_copyFrom_53 (by decide) rfl (fun h53 => ?_) (fun h53 => ?_)
    · exact absurd h53 (nI_ge (by omega) (by omega))
    · refine al0 (n := 57) dX0_copyFrom_56 rfl ?_
      refine gX0_23 (n := 60) dX0_copyFrom_57 rfl rfl (hS0c hP) (hP4c hP) ?_
      refine il2 (n := 61) dX0_copyFrom_60 rfl ?_
      refine j_aald (j := i) (n := 62) dX0_copyFrom_61 rfl (hS3c hP) hOC rfl (by omega) (by decide) (hP6c hP (by omega)) ?_
      refine al1 (n := 63) dX0_copyFrom_62 rfl ?_
      refine gX0_23 (n := 66) dX0_copyFrom_63 rfl rfl (hS0c hO) (hP4c hO) ?_
      refine il2 (n := 67) dX0_copyFrom_66 rfl ?_
      refine j_aald (j := i) (n := 68) dX0_copyFrom_67 rfl (hS3c hO) hOC rfl (by omega) (by decide) (hP6c hO (by omega)) ?_
      refine qX0_62 (n := 71) dX0_copyFrom_68 rfl rfl (Nat.le_of_ble_eq_true rfl) (by omega) (Nat.le_refl _) (Nat.le_refl _) (hS8c hP (by omega)) (c_cpC (hS8c hP (by omega)) (hS8c hO (by omega)) hne) ?_
      rintro _ _ ⟨K, rfl, rfl, hk1, hk2⟩
      dsimp only [Option.toList, List.nil_append, Nat.add_zero]
      refine ii2 (n := 74) dX0_copyFrom_71 rfl (ki1 _) trivial ?_
      rw [nI_1]
      refine k_goto (n := 48) dX0_copyFrom_74 (by decide) ?_
      refine ih (i + 1) K (CI.cc hJ (by omega) h4 hk1 (fun j hj => ?_)) (by omega)
      rw [hk2 j hj]; exact hbJ.2.2.2.2 i hic j hj
set_option maxHeartbeats 2000000 in
set_option maxRecDepth 20000 in
theorem c_cpB (hd : 1 ≤ d) (hP : BC P) (hO : BC O) (hPO : PO P O) (hb : BR O I r c t) : Ct E d mX0_copyFrom 0 0 [.ref P, .ref O] (kJ I) (kBr P I r c t) := by
  have key : ∀ (K : Nat → Nat → Int32) (x2 : Option Value), CI P I K r t c → Wd E d mX0_copyFrom 0 0 0 0 77 [some (.ref P), some (.ref O), x2] [] (kJ K) (kBr P I r c t) := by
    intro K x2 hK
    have hbJ := hb.fp hPO hK.1
    refine al0 (n := 78) dX0_copyFrom_77 rfl ?_
    refine al1 (n := 79) dX0_copyFrom_78 rfl ?_
    refine gX0_27 (n := 82) dX0_copyFrom_79 rfl rfl (hS0c hO) ?_
    refine k_top (hbJ.2.1.1) ?_
    refine pX0_27 (n := 85) dX0_copyFrom_82 rfl rfl (hS0c hP) ?_
    refine k_gen (fun I1 e1 => ?_)
    have hne1 : I1 O = K O := by rw [← e1, kset_ne _ _ (show O ≠ P by unfold PO at hPO; omega)]
    refine al0 (n := 86) dX0_copyFrom_85 rfl ?_
    refine al1 (n := 87) dX0_copyFrom_86 rfl ?_
    refine gX0_31 (n := 90) dX0_copyFrom_87 rfl rfl (hS0c hO) ?_
    refine k_top ((congrFun (hne1 : I1 O = K O) 6).trans hbJ.2.1.2.1) ?_
    refine pX0_31 (n := 93) dX0_copyFrom_90 rfl rfl (hS0c hP) ?_
    refine k_gen (fun I2 e2 => ?_)
    have hne2 : I2 O = K O := by rw [← e2, kset_ne _ _ (show O ≠ P by unfold PO at hPO; omega)]; exact hne1
    refine al0 (n := 94) dX0_copyFrom_93 rfl ?_
    refine al1 (n := 95) dX0_copyFrom_94 rfl ?_
    refine gX0_34 (n := 98) dX0_copyFrom_95 rfl rfl (hS0c hO) ?_
    refine k_top ((congrFun (hne2 : I2 O = K O) 7).trans hbJ.2.1.2.2.1) ?_
    refine pX0_34 (n := 101) dX0_copyFrom_98 rfl rfl (hS0c hP) ?_
    refine k_gen (fun I3 e3 => ?_)
    have hne3 : I3 O = K O := by rw [← e3, kset_ne _ _ (show O ≠ P by unfold PO at hPO; omega)]; exact hne2
    refine al0 (n := 102) dX0_copyFrom_101 rfl ?_
    refine al1 (n := 103) dX0_copyFrom_102 rfl ?_
    refine gX0_65 (n := 106) dX0_copyFrom_103 rfl rfl (hS0c hO) ?_
    refine k_top ((congrFun (hne3 : I3 O = K O) 8).trans hbJ.2.1.2.2.2.1) ?_
    refine pX0_65 (n := 109) dX0_copyFrom_106 rfl rfl (hS0c hP) ?_
    refine k_gen (fun I4 e4 => ?_)
    have hne4 : I4 O = K O := by rw [← e4, kset_ne _ _ (show O ≠ P by unfold PO at hPO; omega)]; exact hne3
    refine al0 (n := 110) dX0_copyFrom_109 rfl ?_
    refine al1 (n := 111) dX0_copyFrom_110 rfl ?_
    refine gX0_52 (n := 114) dX0_copyFrom_111 rfl rfl (hS0c hO) ?_
    refine k_top ((congrFun (hne4 : I4 O = K O) 9).trans hbJ.2.1.2.2.2.2.1) ?_
    refine pX0_52 (n := 117) dX0_copyFrom_114 rfl rfl (hS0c hP) ?_
    refine k_gen (fun I5 e5 => ?_)
    have hne5 : I5 O = K O := by rw [← e5, kset_ne _ _ (show O ≠ P by unfold PO at hPO; omega)]; exact hne4
    refine al0 (n := 118) dX0_copyFrom_117 rfl ?_
    refine al1 (n := 119) dX0_copyFrom_118 rfl ?_
    refine gX0_68 (n := 122) dX0_copyFrom_119 rfl rfl (hS0c hO) ?_
    refine k_top ((congrFun (hne5 : I5 O = K O) 10).trans hbJ.2.1.2.2.2.2.2.1) ?_
    refine pX0_68 (n := 125) dX0_copyFrom_122 rfl rfl (hS0c hP) ?_
    refine k_gen (fun I6 e6 => ?_)
    have hne6 : I6 O = K O := by rw [← e6, kset_ne _ _ (show O ≠ P by unfold PO at hPO; omega)]; exact hne5
    refine al0 (n := 126) dX0_copyFrom_125 rfl ?_
    refine al1 (n := 127) dX0_copyFrom_126 rfl ?_
    refine gX0_59 (n := 130) dX0_copyFrom_127 rfl rfl (hS0c hO) ?_
    refine k_top ((congrFun (hne6 : I6 O = K O) 11).trans hbJ.2.1.2.2.2.2.2.2.1) ?_
    refine pX0_59 (n := 133) dX0_copyFrom_130 rfl rfl (hS0c hP) ?_
    refine k_gen (fun I7 e7 => ?_)
    have hne7 : I7 O = K O := by rw [← e7, kset_ne _ _ (show O ≠ P by unfold PO at hPO; omega)]; exact hne6
    refine al0 (n := 134) dX0_copyFrom_133 rfl ?_
    refine al1 (n := 135) dX0_copyFrom_134 rfl ?_
    refine gX0_71 (n := 138) dX0_copyFrom_135 rfl rfl (hS0c hO) ?_
    refine k_top ((congrFun (hne7 : I7 O = K O) 12).trans hbJ.2.1.2.2.2.2.2.2.2) ?_
    refine pX0_71 (n := 141) dX0_copyFrom_138 rfl rfl (hS0c hP) ?_
    refine k_gen (fun I8 e8 => ?_)
    have hne8 : I8 O = K O := by rw [← e8, kset_ne _ _ (show O ≠ P by unfold PO at hPO; omega)]; exact hne7
    refine k_return dX0_copyFrom_141 rfl (Nat.le_refl _) (Nat.le_refl _) ?_
    subst e1 e2 e3 e4 e5 e6 e7 e8
    refine ⟨_, rfl, rfl, ⟨hbJ.1, ?_, fun p hp => ?_, fun i hi => ?_, fun i hi j hj => ?_⟩, fun k a b c => ?_⟩
    · simp [kset_same, upd]
    · simp only [kset_ne _ _ (show P + 1 ≠ P by omega)]; exact hK.2.1 p hp
    · simp only [kset_ne _ _ (show P + 4 + i ≠ P by omega)]; exact hK.2.2.1 i hi
    · simp only [kset_ne _ _ (show P + 8 + i ≠ P by omega)]; exact hK.2.2.2 i hi j hj
    · simp only [kset_ne _ _ a]; exact hK.1 k a b c
  refine Ct.of (L := [some (.ref P), some (.ref O), none]) rfl rfl (Nat.le_of_ble_eq_true rfl) ?_
  refine al1 (n := 1) dX0_copyFrom_0 rfl ?_
  refine gX0_9 (n := 4) dX0_copyFrom_1 rfl rfl (hS0c hO) (hP2c hO) ?_
  refine k_iconst (a := 0) (n := 5) dX0_copyFrom_4 rfl rfl ?_
  refine al0 (n := 6) dX0_copyFrom_5 rfl ?_
  refine gX0_9 (n := 9) dX0_copyFrom_6 rfl rfl (hS0c hP) (hP2c hP) ?_
  refine k_iconst (a := 0) (n := 10) dX0_copyFrom_9 rfl rfl ?_
  refine k_bipush (a := 8) (n := 12) dX0_copyFrom_10 rfl rfl ?_
  refine qjX0_46 (n := 15) dX0_copyFrom_12 rfl rfl (jR (hS1c hO)) (hS1c hP) rfl rfl rfl (a := 0) (b := 0) (z := 8) (by decide) (by decide) (by decide) (by decide) (Nat.le_of_ble_eq_true rfl) ?_
  refine k_gen (fun I1 e1 => ?_)
  refine k_iconst (a := 0) (n := 16) dX0_copyFrom_15 rfl rfl ?_
  refine is2 (n := 17) dX0_copyFrom_16 rfl trivial ?_
  refine c_cpB_t hd hP hO hPO hb _ (fun K hK => ?_) t 0 I1 ⟨fun k a b c => by rw [← e1, kset_ne _ _ b], fun p hp => by rw [← e1, kset_same, sb_cpy0 hp]; exact hb.2.2.1 p hp, fun i hi => absurd hi (by omega), fun i hi => absurd hi (by omega)⟩ (by omega)
  refine k_iconst (a := 0) (n := 47) dX0_copyFrom_46 rfl rfl ?_
  refine is2 (n := 48) dX0_copyFrom_47 rfl trivial ?_
  exact c_cpB_c hd hP hO hPO hb _ (fun K2 hK2 => key K2 _ hK2) c 0 K hK (by omega)
end C6

theorem bitL : ∀ n, n < 8 → ∀ i, i < 8 → ((1 : Int32) <<< (nI n &&& 31)).toBitVec.getLsbD i = decide (i = n) := by decide +kernel
theorem set_bit (r : Nat → Int32) (h : Int32) {i : Nat} (hi : i < 8) : ∀ n, n ≤ 8 → (setF r h n).toBitVec.getLsbD i = (decide (i < n) && decide (r (29 + 7 * i + 5) = h))
  | 0, _ => by
    rw [setF]
    simp
  | n + 1, hn => by
    rw [setF, Int32.toBitVec_or, BitVec.getLsbD_or, set_bit r h hi n (by omega)]
    by_cases e : i = n
    · subst e
      by_cases q : r (29 + 7 * i + 5) = h
      · rw [if_pos q, bitL i hi i hi]; simp [q]
      · rw [if_neg q]; simp [q]
    · have e2 : decide (i < n + 1) = decide (i < n) := by
        apply decide_eq_decide.mpr
        omega
      rw [e2]
      by_cases q : r (29 + 7 * n + 5) = h
      · rw [if_pos q, bitL n (by omega) i hi]; simp [e]
      · rw [if_neg q]; simp
theorem and1 (x : Int32) : x &&& 1 = 1 ↔ x.toBitVec.getLsbD 0 = true := by
  constructor
  · intro h
    have := congrArg (fun z : Int32 => z.toBitVec.getLsbD 0) h
    simp only [Int32.toBitVec_and, BitVec.getLsbD_and] at this
    have e : (1 : Int32).toBitVec.getLsbD 0 = true := by decide
    rw [e, Bool.and_true] at this
    exact this
  · intro h
    apply Int32.toBitVec_inj.1
    apply BitVec.eq_of_getLsbD_eq
    intro i hi
    rw [Int32.toBitVec_and, BitVec.getLsbD_and]
    by_cases e : i = 0
    · subst e; rw [h, Bool.true_and]
    · have e1 : (1 : Int32).toBitVec.getLsbD i = false := by
        have : ∀ i, i < 32 → i ≠ 0 → (1 : Int32).toBitVec.getLsbD i = false := by decide +kernel
        exact this i hi e
      rw [e1, Bool.and_false]
theorem has_bit (s : Int32) : ∀ i, i < 8 → (hasF s i ↔ s.toBitVec.getLsbD i = true) := by
  intro i hi
  unfold hasF
  rw [and1]
  have e : (s >>> (nI i &&& 31)).toBitVec = s.toBitVec.sshiftRight i := by
    have : ∀ i, i < 8 → (((nI i &&& 31).toBitVec.smod 32).toNat = i) := by decide +kernel
    show s.toBitVec.sshiftRight' _ = _
    rw [BitVec.sshiftRight', this i hi]
  rw [e, BitVec.getLsbD_sshiftRight]
  simp [show ¬ 32 ≤ 0 by decide, show 0 + i < 32 by omega]
  intro h
  omega
/-- nobody is in, and nobody is about to run in -/
def NS (r : Nat → Int32) : Prop := ∀ i, i < sMany r → ¬ r (29 + 7 * i + 5) = 1 ∧ (r (29 + 7 * i + 5) = 0 → ¬ (r 12 >>> (nI i &&& 31)) &&& 1 = 1)
theorem or0 {x y : Int32} (h : x ||| y = 0) : x = 0 ∧ y = 0 := by
  have h2 := congrArg Int32.toBitVec h
  rw [Int32.toBitVec_or] at h2
  have h3 : x.toBitVec = 0#32 ∧ y.toBitVec = 0#32 := BitVec.or_eq_zero_iff.mp h2
  exact ⟨Int32.toBitVec_inj.1 h3.1, Int32.toBitVec_inj.1 h3.2⟩
theorem NS_of {r : Nat → Int32} (hR : RI r) (h : setF r 1 (sMany r) ||| (setF r 0 (sMany r) &&& r 12) = 0) : NS r := by
  intro i hi
  have h8 := sMany_le hR
  obtain ⟨h1, h2⟩ := or0 h
  refine ⟨fun q => ?_, fun q g => ?_⟩
  · have := set_bit r 1 (i := i) (by omega) _ h8
    rw [h1] at this
    simp [hi, q] at this
  · have e := set_bit r 0 (i := i) (by omega) _ h8
    have g2 := (has_bit (r 12) i (by omega)).mp g
    have e2 := congrArg (fun z : Int32 => z.toBitVec.getLsbD i) h2
    simp only [Int32.toBitVec_and, BitVec.getLsbD_and] at e2
    rw [e, g2] at e2
    simp [hi, q] at e2
theorem ns_ovr {r : Nat → Int32} {j : Nat} (h : ¬ r (29 + 7 * j + 5) = 1 ∧ (r (29 + 7 * j + 5) = 0 → ¬ (r 12 >>> (nI j &&& 31)) &&& 1 = 1)) : ovrF r j = r := by
  unfold ovrF
  rw [if_neg h.1]
  by_cases q : r (29 + 7 * j + 5) = 0
  · rw [if_pos q, if_neg (h.2 q)]
  · rw [if_neg q]
theorem ns_mov {r : Nat → Int32} {j : Nat} (h : ¬ r (29 + 7 * j + 5) = 1 ∧ (r (29 + 7 * j + 5) = 0 → ¬ (r 12 >>> (nI j &&& 31)) &&& 1 = 1)) : movF r j = r := by
  unfold movF
  (try dsimp only)
  rw [if_neg h.1]
  by_cases q : r (29 + 7 * j + 5) = 0
  · rw [if_pos q, if_neg (h.2 q)]
  · rw [if_neg q]
theorem ns_crs {s : Prop} [Decidable s] {r : Nat → Int32} (h : NS r) : ∀ n, n ≤ sMany r → crsF s r n = r
  | 0, _ => rfl
  | n + 1, hn => by
    unfold crsF
    rw [ns_crs h n (by omega), ns_ovr (h n (by omega)), ns_mov (h n (by omega))]
    split <;> rfl
theorem mid_sM {r : Nat → Int32} : sMany (mid1 r) = sMany r := by unfold sMany; rw [mid_fix (by omega)]
theorem ns_mid {r : Nat → Int32} (hR : RI r) (h : NS r) : NS (mid1 r) := by
  intro i hi
  rw [mid_sM] at hi
  have := h i hi
  have h4 : ∀ k, (∀ p, p < 4 → k ≠ 21 + 2 * p + 1) → mid1 r k = r k := fun k hk => by
    unfold mid1
    split
    · rfl
    · obtain ⟨-, ⟨c, hc, h4⟩, -⟩ := id hR
      have : ∀ n, n ≤ 4 → tirF r n k = r k := fun n => by
        induction n with
        | zero => exact fun _ => rfl
        | succ n ih => intro hn; rw [tirF, pk_un (hk n (by omega))]; exact ih (by omega)
      exact this _ (by unfold sTurn; rw [hc, kcl (by omega)]; exact h4)
  rw [h4 _ (fun p hp => by omega), h4 12 (fun p hp => by omega)]
  exact this
theorem mid_out {r : Nat → Int32} (hR : RI r) {k : Nat} (hk : ¬ (21 ≤ k ∧ k < 29)) : mid1 r k = r k := by
  unfold mid1
  split
  · rfl
  · obtain ⟨-, ⟨c, hc, h4⟩, -⟩ := id hR
    have : ∀ n, n ≤ 4 → tirF r n k = r k := fun n => by
      induction n with
      | zero => exact fun _ => rfl
      | succ n ih => intro hn; rw [tirF, pk_un (by omega)]; exact ih (by omega)
    exact this _ (by unfold sTurn; rw [hc, kcl (by omega)]; exact h4)
theorem ns_beat {r : Nat → Int32} (hR : RI r) (h : NS r) {k : Nat} (h0 : k ≠ 0) (hk : ¬ (21 ≤ k ∧ k < 29)) : beatF r k = r k := by
  unfold beatF
  rw [pk_un h0, ns_crs (ns_mid hR h) _ (by rw [mid_sM]; exact Nat.le_refl _)]
  exact mid_out hR hk
theorem ns_next {r : Nat → Int32} (hR : RI r) (h : NS r) : NS (beatF r) := by
  intro i hi
  have e : sMany (beatF r) = sMany r := by unfold sMany; rw [beat_fix (by omega)]
  rw [e] at hi
  have h8 := sMany_le hR
  rw [ns_beat hR h (by omega) (by omega), ns_beat hR h (by omega) (by omega)]
  exact h i hi
theorem ns_pass {r : Nat → Int32} (hR : RI r) (h : NS r) : ∀ m, NS (passF m r) ∧ ∀ k, k ≠ 0 → ¬ (21 ≤ k ∧ k < 29) → passF m r k = r k
  | 0 => ⟨h, fun _ _ _ => rfl⟩
  | m + 1 => ⟨ns_next (RI_pass hR m) (ns_pass hR h m).1, fun k h0 hk => (ns_beat (RI_pass hR m) (ns_pass hR h m).1 h0 hk).trans ((ns_pass hR h m).2 k h0 hk)⟩
theorem pass_add (r : Nat → Int32) (i : Nat) : ∀ m, passF (i + m) r = passF m (passF i r)
  | 0 => rfl
  | m + 1 => by
    show passF (i + m + 1) r = _
    rw [passF, passF, pass_add r i m]
section C5
variable {E : kE} {d B c t : Nat} {I : Nat → Nat → Int32} {r : Nat → Int32}
def kBs (B : Nat) (I : Nat → Nat → Int32) (p : Nat → Int32) (c t : Nat) : Option Value → kM → Prop := fun v M => ∃ J q, v = none ∧ M = kJ J ∧ BL B J q c t ∧ FB B I J ∧ ∀ k, k ≠ 0 → ¬ (21 ≤ k ∧ k < 29) → q k = p k
set_option maxHeartbeats 2000000 in
set_option maxRecDepth 20000 in
theorem c_stir (hd : 1 ≤ d) (hB : BB B) (hb : BL B I r c t) : Ct E d mX0_isStirring 0 0 [.ref B] (kJ I) (kR (kb (¬ (setF r 1 (sMany r) ||| (setF r 0 (sMany r) &&& r 12)) = 0)) I) := by
  refine Ct.of (L := [some (.ref B)]) rfl rfl (Nat.le_of_ble_eq_true rfl) ?_
  refine al0 (n := 1) dX0_isStirring_0 rfl ?_
  refine k_iconst (a := 1) (n := 2) dX0_isStirring_1 rfl rfl ?_
  refine qiX0_113 (n := 5) dX0_isStirring_2 rfl rfl (Nat.le_of_ble_eq_true rfl) (by omega) (hS0 hB) (c_setOf hB hb 1) (Nat.le_refl _) (Nat.le_refl _) ?_
  refine al0 (n := 6) dX0_isStirring_5 rfl ?_
  refine k_iconst (a := 0) (n := 7) dX0_isStirring_6 rfl rfl ?_
  refine qiX0_113 (n := 10) dX0_isStirring_7 rfl rfl (Nat.le_of_ble_eq_true rfl) (by omega) (hS0 hB) (c_setOf hB hb 0) (Nat.le_refl _) (Nat.le_refl _) ?_
  refine al0 (n := 11) dX0_isStirring_10 rfl ?_
  refine gX0_71 (n := 14) dX0_isStirring_11 rfl rfl (hS0 hB) ?_
  refine k_top (BL.f12 hb) ?_
  refine k_iand (n := 15) dX0_isStirring_14 rfl ?_
  refine k_ior (n := 16) dX0_isStirring_15 rfl ?_
  refine k_if_eq (t := 23) (n := 19) dX0_isStirring_16 (by decide) rfl (fun h16 => ?_) (fun h16 => ?_)
  · refine k_iconst (a := 0) (n := 24) dX0_isStirring_23 rfl rfl ?_
    refine k_ireturn (ty := .boolean) dX0_isStirring_24 rfl (by first | rfl | exact knb _) (Nat.le_refl _) (Nat.le_refl _) ?_
    first | exact kRt h16 | exact kRf (fun q => q h16)
  · refine k_iconst (a := 1) (n := 20) dX0_isStirring_19 rfl rfl ?_
    refine k_goto (n := 24) dX0_isStirring_20 (by decide) ?_
    refine k_ireturn (ty := .boolean) dX0_isStirring_24 rfl (by first | rfl | exact knb _) (Nat.le_refl _) (Nat.le_refl _) ?_
    first | exact kRt h16 | exact kRf (fun q => q h16)
set_option maxHeartbeats 2000000 in
set_option maxRecDepth 20000 in
theorem c_settle_l (hd : 6 ≤ d) (hB : BB B) (hR : RI r) (hX : RX r) (k : Nat) (hk : k ≤ 1000) (m : Nat) : ∀ (i : Nat) (J : Nat → Nat → Int32), BL B J (passF i r) c t → FB B I J → i + m = k → Wd E d mX0_settleFor 0 0 0 0 2 [some (.ref B), some (.int (nI k)), some (.int (nI i))] [] (kJ J) (kBs B I (passF k r) c t) := by
  induction m with
  | zero =>
    intro i J hb hf hi
    have e : i = k := by omega
    subst e
    refine il2 (n := 3) dX0_settleFor_2 rfl ?_
    refine il1 (n := 4) dX0_settleFor_3 rfl ?_
    refine k_icmp_ge (t := 24) (n := 7) dX0_settleFor_4 (by decide) rfl (fun h4 => ?_) (fun h4 => ?_)
    · refine k_return dX0_settleFor_24 rfl (Nat.le_refl _) (Nat.le_refl _) ?_
      exact ⟨J, _, rfl, rfl, hb, hf, fun _ _ _ => rfl⟩
    · exact absurd (Int32.le_refl _) h4
  | succ m ih =>
    intro i J hb hf hi
    have hRi := RI_pass hR i
    refine il2 (n := 3) dX0_settleFor_2 rfl ?_
    refine il1 (n := 4) dX0_settleFor_3 rfl ?_
    refine k_icmp_ge (t := 24) (n := 7) dX0_settleFor_4 (by decide) rfl (fun h4 => ?_) (fun h4 => ?_)
    · exact absurd h4 (nI_ge (by omega) (by omega))
    · refine al0 (n := 8) dX0_settleFor_7 rfl ?_
      refine qiX0_130 (n := 11) dX0_settleFor_8 rfl rfl (Nat.le_of_ble_eq_true rfl) (by omega) (hS0 hB) (c_stir (by omega) hB hb) (Nat.le_refl _) (Nat.le_refl _) ?_
      refine k_ifb_eq (t := 24) (n := 14) dX0_settleFor_11 (by decide) rfl (fun h11 => ?_) (fun h11 => ?_)
      · refine k_return dX0_settleFor_24 rfl (Nat.le_refl _) (Nat.le_refl _) ?_
        first
          | exact absurd h4 (nI_ge (by omega) (by omega))
          | exact ⟨J, _, rfl, rfl, hb, hf, fun j j0 jk => by rw [show k = i + (m + 1) by omega, pass_add]; exact ((ns_pass hRi (NS_of hRi (Decidable.not_not.mp h11)) (m + 1)).2 j j0 jk).symm⟩
      · refine al0 (n := 15) dX0_settleFor_14 rfl ?_
        refine qX0_127 (n := 18) dX0_settleFor_15 rfl rfl (Nat.le_of_ble_eq_true rfl) (by omega) (Nat.le_refl _) (Nat.le_refl _) (hS0 hB) (c_once (by omega) hB hb hRi (RX_pass hR hX i)) ?_
        rintro _ _ ⟨I1, rfl, rfl, hb1, hg1⟩
        dsimp only [Option.toList, List.cons_append, List.nil_append, Nat.add_zero]
        have hf1 := hf.tr hg1
        refine ii2 (n := 21) dX0_settleFor_18 rfl (ki1 _) trivial ?_
        rw [nI_1]
        refine k_goto (n := 2) dX0_settleFor_21 (by decide) ?_
        exact ih (i + 1) I1 hb1 hf1 (by omega)
set_option maxHeartbeats 2000000 in
set_option maxRecDepth 20000 in
theorem c_settle (hd : 6 ≤ d) (hB : BB B) (hb : BL B I r c t) (hR : RI r) (hX : RX r) (k : Nat) (hk : k ≤ 1000) : Ct E d mX0_settleFor 0 0 [.ref B, .int (nI k)] (kJ I) (kBs B I (passF k r) c t) := by
  refine Ct.of (L := [some (.ref B), some (.int (nI k)), none]) rfl rfl (Nat.le_of_ble_eq_true rfl) ?_
  refine k_iconst (a := 0) (n := 1) dX0_settleFor_0 rfl rfl ?_
  refine is2 (n := 2) dX0_settleFor_1 rfl trivial ?_
  exact c_settle_l hd hB hR hX k hk k 0 I hb (FB.rf _ _) (by omega)
end C5

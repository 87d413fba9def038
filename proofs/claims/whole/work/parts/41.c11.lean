section C11
variable {E : kE} {d c t : Nat} {I J : Nat → Nat → Int32} {r : Nat → Int32}
theorem sub_le {i s : Nat} (hi : i < 256) (hs : s < 256) (h : nI i &&& (nI s ^^^ (-1)) = 0) : i ≤ s := by
  have h0 : BitVec.ofNat 32 i &&& (BitVec.ofNat 32 s ^^^ (-1 : Int32).toBitVec) = (0 : Int32).toBitVec := congrArg Int32.toBitVec h
  rw [show (-1 : Int32).toBitVec = BitVec.allOnes 32 by decide, show (0 : Int32).toBitVec = 0#32 by decide] at h0
  have h2 : BitVec.ofNat 32 i = BitVec.ofNat 32 i &&& BitVec.ofNat 32 s := by
    apply BitVec.eq_of_getLsbD_eq
    intro j hj
    have h3 := congrArg (fun z => BitVec.getLsbD z j) h0
    simp only [BitVec.getLsbD_and, BitVec.getLsbD_xor, BitVec.getLsbD_allOnes, BitVec.getLsbD_zero, hj, decide_true] at h3
    rw [BitVec.getLsbD_and]
    cases h4 : (BitVec.ofNat 32 i).getLsbD j <;> cases h5 : (BitVec.ofNat 32 s).getLsbD j <;> simp_all
  have h6 := congrArg BitVec.toNat h2
  rw [BitVec.toNat_and, BitVec.toNat_ofNat, BitVec.toNat_ofNat, Nat.mod_eq_of_lt (by omega), Nat.mod_eq_of_lt (by omega)] at h6
  rw [h6]
  exact Nat.and_le_right
theorem mst_top (r : Nat → Int32) (k s : Nat) (hs : s < 256) : ∀ m, s + m < 256 → mstF r k (nI s) (s + m) = mstF r k (nI s) s
  | 0, _ => rfl
  | m + 1, h => by
    rw [show s + (m + 1) = (s + m) + 1 from rfl, mstF, if_neg (fun z => absurd (sub_le (by omega) hs z) (by omega))]
    exact mst_top r k s hs m (by omega)
set_option maxHeartbeats 2000000 in
set_option maxRecDepth 20000 in
theorem c_most_l (hd : 8 ≤ d) (hR : RI r) (hX : RX r) (k s : Nat) (hk : k ≤ 200) (hs : s < 256) (Q : Option Value → kM → Prop) (hQ : ∀ K, FB 51 I K → Q (some (.int (nI (mstF r k (nI s) s)))) (kJ K)) (m : Nat) : ∀ (i : Nat) (J : Nat → Nat → Int32), CR J r c t → FB 51 I J → i + m = s → Wd E d mX8_most 0 0 0 0 33 [some (.ref 0), some (.int (nI k)), some (.int (nI s)), some (.int (nI (mstF r k (nI s) i))), some (.int (nI (i + 1)))] [] (kJ J) Q := by
  induction m with
  | zero =>
    intro i J hC hf hi
    have e : i = s := by omega
    subst e
    refine il4 (n := 35) dX8_most_33 rfl ?_
    refine il2 (n := 36) dX8_most_35 rfl ?_
    refine k_icmp_gt (t := 79) (n := 39) dX8_most_36 (by decide) rfl (fun h36 => ?_) (fun h36 => ?_)
    · refine il3 (n := 80) dX8_most_79 rfl ?_
      refine k_ireturn (ty := .int) dX8_most_80 rfl rfl (Nat.le_refl _) (Nat.le_refl _) ?_
      exact hQ J hf
    · exact absurd (nI_lt (a := i) (b := i + 1) (by omega) (by omega)) h36
  | succ m ih =>
    intro i J hC hf hi
    have hm := mstF_le r k (nI s) i
    have hb := hC.bl
    refine il4 (n := 35) dX8_most_33 rfl ?_
    refine il2 (n := 36) dX8_most_35 rfl ?_
    refine k_icmp_gt (t := 79) (n := 39) dX8_most_36 (by decide) rfl (fun h36 => ?_) (fun h36 => ?_)
    · exact absurd h36 (nI_nlt (by omega) (by omega))
    · refine il4 (n := 41) dX8_most_39 rfl ?_
      refine il2 (n := 42) dX8_most_41 rfl ?_
      refine k_iconst (a := (-1)) (n := 43) dX8_most_42 rfl rfl ?_
      refine k_ixor (n := 44) dX8_most_43 rfl ?_
      refine k_iand (n := 45) dX8_most_44 rfl ?_
      refine k_if_ne (t := 73) (n := 48) dX8_most_45 (by decide) rfl (fun h45 => ?_) (fun h45 => ?_)
      · refine ii4 (n := 76) dX8_most_73 rfl (ki1 _) trivial ?_
        rw [nI_1]
        refine k_goto (n := 33) dX8_most_76 (by decide) ?_
        first
          | (have h := ih (i + 1) K hCK hfK (by omega)
             rw [show mstF r k (nI s) (i + 1) = i + 1 from by rw [mstF, if_pos h45, if_neg h57, if_pos h67]] at h
             exact h)
          | (have h := ih (i + 1) K hCK hfK (by omega)
             rw [show mstF r k (nI s) (i + 1) = mstF r k (nI s) i from by rw [mstF, if_pos h45, if_neg h57, if_neg h67]] at h
             exact h)
          | (have h := ih (i + 1) J hC hf (by omega)
             rw [show mstF r k (nI s) (i + 1) = mstF r k (nI s) i from by rw [mstF, if_pos h45, if_pos h57]] at h
             exact h)
          | (have h := ih (i + 1) J hC hf (by omega)
             rw [show mstF r k (nI s) (i + 1) = mstF r k (nI s) i from by rw [mstF, if_neg h45]] at h
             exact h)
      · refine il4 (n := 50) dX8_most_48 rfl ?_
        refine qiX8_259 (n := 53) dX8_most_50 rfl rfl (Nat.le_of_ble_eq_true rfl) (by omega) (j_bits _ (by omega)) (Nat.le_refl _) (Nat.le_refl _) ?_
        refine il3 (n := 54) dX8_most_53 rfl ?_
        refine qiX8_259 (n := 57) dX8_most_54 rfl rfl (Nat.le_of_ble_eq_true rfl) (by omega) (j_bits _ (by omega)) (Nat.le_refl _) (Nat.le_refl _) ?_
        refine k_icmp_le (t := 73) (n := 60) dX8_most_57 (by decide) rfl (fun h57 => ?_) (fun h57 => ?_)
        · refine ii4 (n := 76) dX8_most_73 rfl (ki1 _) trivial ?_
          rw [nI_1]
          refine k_goto (n := 33) dX8_most_76 (by decide) ?_
          first
            | (have h := ih (i + 1) K hCK hfK (by omega)
               rw [show mstF r k (nI s) (i + 1) = i + 1 from by rw [mstF, if_pos h45, if_neg h57, if_pos h67]] at h
               exact h)
            | (have h := ih (i + 1) K hCK hfK (by omega)
               rw [show mstF r k (nI s) (i + 1) = mstF r k (nI s) i from by rw [mstF, if_pos h45, if_neg h57, if_neg h67]] at h
               exact h)
            | (have h := ih (i + 1) J hC hf (by omega)
               rw [show mstF r k (nI s) (i + 1) = mstF r k (nI s) i from by rw [mstF, if_pos h45, if_pos h57]] at h
               exact h)
            | (have h := ih (i + 1) J hC hf (by omega)
               rw [show mstF r k (nI s) (i + 1) = mstF r k (nI s) i from by rw [mstF, if_neg h45]] at h
               exact h)
        · refine al0 (n := 61) dX8_most_60 rfl ?_
          refine il4 (n := 63) dX8_most_61 rfl ?_
          refine il1 (n := 64) dX8_most_63 rfl ?_
          refine qX8_264 (n := 67) dX8_most_64 rfl rfl (Nat.le_of_ble_eq_true rfl) (by omega) (Nat.le_refl _) (Nat.le_refl _) rfl (c_arN (by omega) hC hR hX k hk _) ?_
          rintro _ _ ⟨K, rfl, rfl, hgK⟩
          dsimp only [Option.toList, List.cons_append, List.nil_append, Nat.add_zero]
          have hCK := hC.th hgK
          have hbK := hCK.bl
          have hfK := hf.tr hgK
          refine k_ifb_eq (t := 73) (n := 70) dX8_most_67 (by decide) rfl (fun h67 => ?_) (fun h67 => ?_)
          · refine ii4 (n := 76) dX8_most_73 rfl (ki1 _) trivial ?_
            rw [nI_1]
            refine k_goto (n := 33) dX8_most_76 (by decide) ?_
            first
              | (have h := ih (i + 1) K hCK hfK (by omega)
                 rw [show mstF r k (nI s) (i + 1) = i + 1 from by rw [mstF, if_pos h45, if_neg h57, if_pos h67]] at h
                 exact h)
              | (have h := ih (i + 1) K hCK hfK (by omega)
                 rw [show mstF r k (nI s) (i + 1) = mstF r k (nI s) i from by rw [mstF, if_pos h45, if_neg h57, if_neg h67]] at h
                 exact h)
              | (have h := ih (i + 1) J hC hf (by omega)
                 rw [show mstF r k (nI s) (i + 1) = mstF r k (nI s) i from by rw [mstF, if_pos h45, if_pos h57]] at h
                 exact h)
              | (have h := ih (i + 1) J hC hf (by omega)
                 rw [show mstF r k (nI s) (i + 1) = mstF r k (nI s) i from by rw [mstF, if_neg h45]] at h
                 exact h)
          · refine il4 (n := 72) dX8_most_70 rfl ?_
            refine is3 (n := 73) dX8_most_72 rfl trivial ?_
            refine ii4 (n := 76) dX8_most_73 rfl (ki1 _) trivial ?_
            rw [nI_1]
            refine k_goto (n := 33) dX8_most_76 (by decide) ?_
            first
              | (have h := ih (i + 1) K hCK hfK (by omega)
                 rw [show mstF r k (nI s) (i + 1) = i + 1 from by rw [mstF, if_pos h45, if_neg h57, if_pos h67]] at h
                 exact h)
              | (have h := ih (i + 1) K hCK hfK (by omega)
                 rw [show mstF r k (nI s) (i + 1) = mstF r k (nI s) i from by rw [mstF, if_pos h45, if_neg h57, if_neg h67]] at h
                 exact h)
              | (have h := ih (i + 1) J hC hf (by omega)
                 rw [show mstF r k (nI s) (i + 1) = mstF r k (nI s) i from by rw [mstF, if_pos h45, if_pos h57]] at h
                 exact h)
              | (have h := ih (i + 1) J hC hf (by omega)
                 rw [show mstF r k (nI s) (i + 1) = mstF r k (nI s) i from by rw [mstF, if_neg h45]] at h
                 exact h)
set_option maxHeartbeats 2000000 in
set_option maxRecDepth 20000 in
theorem c_most (hd : 9 ≤ d) (hC : CR I r c t) (hR : RI r) (hX : RX r) (v : Int32) : Ct E d mX8_most 0 0 [.ref 0, .int v] (kJ I) (kZ I (s_most r v)) := by
  have hb := hC.bl
  have hT := hR.TX
  have h8 := hb.c8
  have h4 := hb.t4
  have hs2 := setN_256 hR 0
  have hsl := setN_lt r 0 (sMany r)
  refine Ct.of (L := [some (.ref 0), some (.int v), none, none, none]) rfl rfl (Nat.le_of_ble_eq_true rfl) ?_
  refine il1 (n := 1) dX8_most_0 rfl ?_
  refine k_iconst (a := 0) (n := 2) dX8_most_1 rfl rfl ?_
  refine k_bipush (a := 60) (n := 4) dX8_most_2 rfl rfl ?_
  refine qiX8_65 (n := 7) dX8_most_4 rfl rfl (Nat.le_of_ble_eq_true rfl) (by omega) (c_within _ _ _) (Nat.le_refl _) (Nat.le_refl _) ?_
  refine k_ifb_ne (t := 16) (n := 10) dX8_most_7 (by decide) rfl (fun h7 => ?_) (fun h7 => ?_)
  · obtain ⟨k, -, hk, rfl⟩ := kbt (a := 0) (b := 60) h7 (by decide) (by decide)
    refine al0 (n := 17) dX8_most_16 rfl ?_
    refine gX8_10 (n := 20) dX8_most_17 rfl rfl rfl rfl ?_
    refine gX8_73 (n := 23) dX8_most_20 rfl rfl rfl rfl ?_
    refine k_iconst (a := 0) (n := 24) dX8_most_23 rfl rfl ?_
    refine qiX8_256 (n := 27) dX8_most_24 rfl rfl (Nat.le_of_ble_eq_true rfl) (by omega) (hS0 (Or.inl rfl)) (c_setOfN (Or.inl rfl) hb 0) (Nat.le_refl _) (Nat.le_refl _) ?_
    refine is2 (n := 28) dX8_most_27 rfl trivial ?_
    refine k_iconst (a := 0) (n := 29) dX8_most_28 rfl rfl ?_
    refine is3 (n := 30) dX8_most_29 rfl trivial ?_
    refine k_iconst (a := 1) (n := 31) dX8_most_30 rfl rfl ?_
    refine is4 (n := 33) dX8_most_31 rfl trivial ?_
    refine c_most_l (by omega) hR hX k (setN r 0 (sMany r)) (by omega) hs2 _ (fun K hf => ?_) (setN r 0 (sMany r)) 0 I hC (FB.rf _ _) (by omega)
    refine kZ.to ?_ (kZ_x (hC.th hf) (FX.th hf))
    simp only [s_most, if_pos h7, kcl (show k < 1000 by omega)]
    have hc2 : 2 ^ sMany r ≤ 256 := (p8 (sMany r) (sMany_le hR)).2
    rw [setF_N r 0 _ (sMany_le hR), show 2 ^ sMany r - 1 = setN r 0 (sMany r) + (2 ^ sMany r - 1 - setN r 0 (sMany r)) by omega, mst_top r k _ hs2 _ (by omega)]
  · refine al0 (n := 11) dX8_most_10 rfl ?_
    refine k_iconst (a := 1) (n := 12) dX8_most_11 rfl rfl ?_
    refine qiX8_69 (n := 15) dX8_most_12 rfl rfl (Nat.le_of_ble_eq_true rfl) (by omega) rfl (c_refuse1 (by omega)) (Nat.le_refl _) (Nat.le_refl _) ?_
    refine k_ireturn (ty := .int) dX8_most_15 rfl rfl (Nat.le_refl _) (Nat.le_refl _) ?_
    exact kZ.to (by simp only [s_most, if_neg h7]) (kZ_e1 hC (FX.rf _))
theorem hSsA : ∀ i, i < 4 → SS[73 + 2 * i]? = some (5, 3) ∧ SS[74 + 2 * i]? = some (100, 40) ∧ PP 71 i = some (73 + 2 * i) ∧ PP (73 + 2 * i) 0 = some (74 + 2 * i) := by decide +kernel
theorem hSs {i : Nat} (h : i < 4) : SS[73 + 2 * i]? = some (5, 3) := (hSsA i h).1
theorem hSn {i : Nat} (h : i < 4) : SS[74 + 2 * i]? = some (100, 40) := (hSsA i h).2.1
theorem hPS {i : Nat} (h : i < 4) : PP 71 i = some (73 + 2 * i) := (hSsA i h).2.2.1
theorem hPs {i : Nat} (h : i < 4) : PP (73 + 2 * i) 0 = some (74 + 2 * i) := (hSsA i h).2.2.2
/-- the sheets of the two -/
def SH (I : Nat → Nat → Int32) : Prop := ∀ a, a < 4 → I (73 + 2 * a) 1 = I 87 a ∧ I (73 + 2 * a) 2 = I 88 a ∧ ∀ z, z < 40 → I (74 + 2 * a) z = I 89 (40 * a + z)
theorem whE_all {q g : Nat → Int32} : ∀ {n : Nat}, whE q g n → ∀ i, i < n → q (13 + i) = g i
  | 0, _, _, hi => absurd hi (by omega)
  | n + 1, h, i, hi => by
    have h2 := whE_s.mp h
    rcases Nat.lt_or_ge i n with z | z
    · exact whE_all h2.1 i z
    · rw [show i = n by omega]; exact h2.2
theorem whE_cg {p q g h : Nat → Int32} : ∀ n, (∀ i, i < n → q (13 + i) = p (13 + i) ∧ h i = g i) → (whE q h n ↔ whE p g n)
  | 0, _ => Iff.rfl
  | n + 1, e => by
    rw [whE_s, whE_s, whE_cg n (fun i hi => e i (by omega)), (e n (by omega)).1, (e n (by omega)).2]
theorem hasN : ∀ x, x < 256 → ∀ j, j < 8 → (hasF (nI x) j ↔ x.testBit j = true) := by decide +kernel
theorem setN_bit (r : Nat → Int32) (h : Int32) : ∀ n j, j < n → ((setN r h n).testBit j = true ↔ r (29 + 7 * j + 5) = h)
  | 0, j, hj => absurd hj (by omega)
  | n + 1, j, hj => by
    have hl := setN_lt r h n
    rw [setN]
    by_cases e : r (29 + 7 * n + 5) = h
    · rw [if_pos e]
      rcases Nat.lt_or_ge j n with z | z
      · rw [Nat.add_comm, Nat.testBit_two_pow_add_gt z]; exact setN_bit r h n j z
      · have ej : j = n := by omega
        subst ej
        rw [Nat.add_comm, Nat.testBit_two_pow_add_eq, Nat.testBit_lt_two_pow hl]
        simp [e]
    · rw [if_neg e, Nat.add_zero]
      rcases Nat.lt_or_ge j n with z | z
      · exact setN_bit r h n j z
      · have ej : j = n := by omega
        subst ej
        rw [Nat.testBit_lt_two_pow hl]
        simp [e]
theorem has_set (hR : RI r) {h : Int32} {j : Nat} (hj : j < sMany r) : hasF (setF r h (sMany r)) j ↔ r (29 + 7 * j + 5) = h := by
  have h8 := sMany_le hR
  rw [setF_N r h _ h8, hasN _ (setN_256 hR h) j (by omega)]
  exact setN_bit r h _ j hj
set_option maxHeartbeats 2000000 in
set_option maxRecDepth 20000 in
theorem c_wAT_l {q g : Nat → Int32} (hb : BL 51 I q c t) (p a : Nat) (ha : a < 4) (hp : q 3 = nI p) (hp8 : p ≤ 8) (hg : ∀ z, z < 40 → I (74 + 2 * a) z = g z) (v1 v2 : Option Value) (Q : Option Value → kM → Prop) (hQ : Q (some (.int (kb (whE q g p)))) (kJ I)) (m : Nat) : ∀ (i : Nat), i + m = p → whE q g i → Wd E d mX8_wearsAsToldIfJustHeGoes 0 0 0 0 25 [some (.ref 0), v1, v2, some (.ref (73 + 2 * a)), some (.int (nI i))] [] (kJ I) Q := by
  induction m with
  | zero =>
    intro i hi hw
    have e : i = p := by omega
    subst e
    rw [kb_t hw] at hQ
    refine il4 (n := 27) dX8_wearsAsToldIfJustHeGoes_25 rfl ?_
    refine al0 (n := 28) dX8_wearsAsToldIfJustHeGoes_27 rfl ?_
    refine gX8_31 (n := 31) dX8_wearsAsToldIfJustHeGoes_28 rfl rfl rfl rfl ?_
    refine gX8_80 (n := 34) dX8_wearsAsToldIfJustHeGoes_31 rfl rfl (hS0 (Or.inr rfl)) ?_
    refine k_top ((BL.f5 hb).trans hp) ?_
    refine k_icmp_ge (t := 65) (n := 37) dX8_wearsAsToldIfJustHeGoes_34 (by decide) rfl (fun h34 => ?_) (fun h34 => ?_)
    · refine k_iconst (a := 1) (n := 66) dX8_wearsAsToldIfJustHeGoes_65 rfl rfl ?_
      refine k_ireturn (ty := .boolean) dX8_wearsAsToldIfJustHeGoes_66 rfl (by first | rfl | exact knb _) (Nat.le_refl _) (Nat.le_refl _) ?_
      exact hQ
    · exact absurd (Int32.le_refl _) h34
  | succ m ih =>
    intro i hi hw
    have hi8 : i < 8 := by omega
    refine il4 (n := 27) dX8_wearsAsToldIfJustHeGoes_25 rfl ?_
    refine al0 (n := 28) dX8_wearsAsToldIfJustHeGoes_27 rfl ?_
    refine gX8_31 (n := 31) dX8_wearsAsToldIfJustHeGoes_28 rfl rfl rfl rfl ?_
    refine gX8_80 (n := 34) dX8_wearsAsToldIfJustHeGoes_31 rfl rfl (hS0 (Or.inr rfl)) ?_
    refine k_top ((BL.f5 hb).trans hp) ?_
    refine k_icmp_ge (t := 65) (n := 37) dX8_wearsAsToldIfJustHeGoes_34 (by decide) rfl (fun h34 => ?_) (fun h34 => ?_)
    · exact absurd h34 (nI_ge (by omega) (by omega))
    · refine al0 (n := 38) dX8_wearsAsToldIfJustHeGoes_37 rfl ?_
      refine gX8_31 (n := 41) dX8_wearsAsToldIfJustHeGoes_38 rfl rfl rfl rfl ?_
      refine gX8_193 (n := 44) dX8_wearsAsToldIfJustHeGoes_41 rfl rfl (hS0 (Or.inr rfl)) (hP2 (Or.inr rfl)) ?_
      refine il4 (n := 46) dX8_wearsAsToldIfJustHeGoes_44 rfl ?_
      refine j_iald (j := i) (n := 47) dX8_wearsAsToldIfJustHeGoes_46 rfl (hS1 (Or.inr rfl)) rfl (by omega) (by decide) ?_
      refine k_top (BL.we hb hi8) ?_
      refine al3 (n := 48) dX8_wearsAsToldIfJustHeGoes_47 rfl ?_
      refine gX8_320 (n := 51) dX8_wearsAsToldIfJustHeGoes_48 rfl rfl (hSs ha) (hPs ha) ?_
      refine il4 (n := 53) dX8_wearsAsToldIfJustHeGoes_51 rfl ?_
      refine j_iald (j := i) (n := 54) dX8_wearsAsToldIfJustHeGoes_53 rfl (hSn ha) rfl (by omega) (by decide) ?_
      refine k_top (hg i (by omega)) ?_
      refine k_icmp_eq (t := 59) (n := 57) dX8_wearsAsToldIfJustHeGoes_54 (by decide) rfl (fun h54 => ?_) (fun h54 => ?_)
      · refine ii4 (n := 62) dX8_wearsAsToldIfJustHeGoes_59 rfl (ki1 _) trivial ?_
        rw [nI_1]
        refine k_goto (n := 25) dX8_wearsAsToldIfJustHeGoes_62 (by decide) ?_
        exact ih (i + 1) (by omega) (whE_s.mpr ⟨hw, h54⟩)
      · refine k_iconst (a := 0) (n := 58) dX8_wearsAsToldIfJustHeGoes_57 rfl rfl ?_
        refine k_ireturn (ty := .boolean) dX8_wearsAsToldIfJustHeGoes_58 rfl (by first | rfl | exact knb _) (Nat.le_refl _) (Nat.le_refl _) ?_
        rw [kb_f (fun z => h54 (whE_all z i (by omega)))] at hQ
        exact hQ
set_option maxHeartbeats 2000000 in
set_option maxRecDepth 20000 in
theorem c_wAT (hd : 7 ≤ d) (hC : CR I r c t) (hR : RI r) (hX : RX r) (j n a : Nat) (hn : n ≤ 200) (ha : a < 4) : Ct E d mX8_wearsAsToldIfJustHeGoes 0 0 [.ref 0, .int (nI j), .int (nI n), .ref (73 + 2 * a)] (kJ I) (kTh (kb (whE (passF n (upd r 12 (bit1 j))) (fun z => I (74 + 2 * a) z) (sPl (passF n (upd r 12 (bit1 j)))))) I) := by
  have h8 := hC.bl.c8
  have hT := hR.TX
  have hRa : RI (upd r 12 (bit1 j)) := RI_c hR (by omega) _
  have hXa : RX (upd r 12 (bit1 j)) := RX_lo hX (by omega) _ (by omega) (by omega)
  obtain ⟨-, -, -, ⟨p, hp, hp2, hp8⟩, -⟩ := id (RI_pass hRa n)
  have ep : sPl (passF n (upd r 12 (bit1 j))) = p := by unfold sPl; rw [hp]; exact kcl (by omega)
  rw [ep]
  refine Ct.of (L := [some (.ref 0), some (.int (nI j)), some (.int (nI n)), some (.ref (73 + 2 * a)), none]) rfl rfl (Nat.le_of_ble_eq_true rfl) ?_
  refine al0 (n := 1) dX8_wearsAsToldIfJustHeGoes_0 rfl ?_
  refine qX8_243 (n := 4) dX8_wearsAsToldIfJustHeGoes_1 rfl rfl (Nat.le_of_ble_eq_true rfl) (by omega) (Nat.le_refl _) (Nat.le_refl _) rfl (c_think (by omega) hC) ?_
  rintro _ _ ⟨I1, rfl, rfl, hb1, hg1⟩
  dsimp only [Option.toList, List.cons_append, List.nil_append, Nat.add_zero]
  have hf1 := hg1
  refine al0 (n := 5) dX8_wearsAsToldIfJustHeGoes_4 rfl ?_
  refine gX8_31 (n := 8) dX8_wearsAsToldIfJustHeGoes_5 rfl rfl rfl rfl ?_
  refine k_iconst (a := 1) (n := 9) dX8_wearsAsToldIfJustHeGoes_8 rfl rfl ?_
  refine il1 (n := 10) dX8_wearsAsToldIfJustHeGoes_9 rfl ?_
  refine k_ishl (n := 11) dX8_wearsAsToldIfJustHeGoes_10 rfl ?_
  refine pX8_190 (n := 14) dX8_wearsAsToldIfJustHeGoes_11 rfl rfl (hS0 (Or.inr rfl)) ?_
  refine k_gen (fun I2 e2 => ?_)
  have hb2 := BL.sf12 hb1 (Or.inr rfl) hT e2
  have hT2 := TX.ob hb2 hT (by omega)
  have hf2 := hf1.tr (FB.b e2)
  refine al0 (n := 15) dX8_wearsAsToldIfJustHeGoes_14 rfl ?_
  refine gX8_31 (n := 18) dX8_wearsAsToldIfJustHeGoes_15 rfl rfl rfl rfl ?_
  refine il2 (n := 19) dX8_wearsAsToldIfJustHeGoes_18 rfl ?_
  refine qX8_246 (n := 22) dX8_wearsAsToldIfJustHeGoes_19 rfl rfl (Nat.le_of_ble_eq_true rfl) (by omega) (Nat.le_refl _) (Nat.le_refl _) (hS0 (Or.inr rfl)) (c_settle (by omega) (Or.inr rfl) hb2 hRa hXa n (by omega)) ?_
  rintro _ _ ⟨S, q, rfl, rfl, hbS, hgS, hqS⟩
  dsimp only [Option.toList, List.nil_append, Nat.add_zero]
  have hfS := hf2.tr hgS
  refine k_iconst (a := 0) (n := 23) dX8_wearsAsToldIfJustHeGoes_22 rfl rfl ?_
  refine is4 (n := 25) dX8_wearsAsToldIfJustHeGoes_23 rfl trivial ?_
  refine c_wAT_l hbS p a ha ((hqS 3 (by omega) (by omega)).trans hp) hp8 (g := fun z => I (74 + 2 * a) z) (fun z _ => by rw [hfS _ (by omega) (by omega) (by omega) (by omega) (by omega)]) _ _ _ ?_ p 0 (by omega) rfl
  exact ⟨S, by rw [kb_iff (whE_cg (p := passF n (upd r 12 (bit1 j))) p (fun i hi => ⟨hqS _ (by omega) (by omega), rfl⟩))], rfl, hfS⟩
theorem wh_q {n j : Nat} {s : Int32} (h : hasF s j) : whQ r n s j = passF n (upd r 12 (bit1 j)) := by unfold whQ; rw [if_pos h]
theorem wh_g {a : Nat} (hf : FB 51 I J) : (fun z => J (74 + 2 * a) z) = fun z => I (74 + 2 * a) z := by
  funext z
  rw [hf _ (by omega) (by omega) (by omega) (by omega) (by omega)]
theorem wh_y {a n i : Nat} (hf : FB 51 I J) (hhs : hasF (setF r 0 (sMany r)) i ↔ r (29 + 7 * i + 5) = 0) (h : r (29 + 7 * i + 5) = 0) (g : whE (passF n (upd r 12 (bit1 i))) (fun z => J (74 + 2 * a) z) (sPl (passF n (upd r 12 (bit1 i))))) : whP r n (setF r 0 (sMany r)) (fun z => I (74 + 2 * a) z) i := by
  have hh := hhs.mpr h
  rw [wh_g hf] at g
  exact ⟨hh, by rw [wh_q hh]; exact g⟩
theorem wh_n {a n i : Nat} (hf : FB 51 I J) (hhs : hasF (setF r 0 (sMany r)) i ↔ r (29 + 7 * i + 5) = 0) (h : r (29 + 7 * i + 5) = 0) (g : ¬ whE (passF n (upd r 12 (bit1 i))) (fun z => J (74 + 2 * a) z) (sPl (passF n (upd r 12 (bit1 i))))) : ¬ whP r n (setF r 0 (sMany r)) (fun z => I (74 + 2 * a) z) i := by
  have hh := hhs.mpr h
  rw [wh_g hf] at g
  intro z
  have z2 := z.2
  rw [wh_q hh] at z2
  exact g z2
set_option maxHeartbeats 2000000 in
set_option maxRecDepth 20000 in
theorem c_who_l (hd : 8 ≤ d) (hR : RI r) (hX : RX r) (a n : Nat) (ha : a < 4) (hn : n ≤ 200) (Q : Option Value → kM → Prop) (hQ : ∀ K, FB 51 I K → Q (some (.int (whF r n (setF r 0 (sMany r)) (fun z => I (74 + 2 * a) z) c))) (kJ K)) (m : Nat) : ∀ (i : Nat) (J : Nat → Nat → Int32), CR J r c t → FB 51 I J → i + m = c → Wd E d mX8_who 0 0 0 0 67 [some (.ref 0), some (.int (nI a)), some (.int (nI n)), some (.ref (73 + 2 * a)), some (.int (whF r n (setF r 0 (sMany r)) (fun z => I (74 + 2 * a) z) i)), some (.int (nI i))] [] (kJ J) Q := by
  induction m with
  | zero =>
    intro i J hC hf hi
    have e : i = c := by omega
    subst e
    have hb := hC.bl
    refine il5 (n := 69) dX8_who_67 rfl ?_
    refine al0 (n := 70) dX8_who_69 rfl ?_
    refine gX8_10 (n := 73) dX8_who_70 rfl rfl rfl rfl ?_
    refine gX8_73 (n := 76) dX8_who_73 rfl rfl rfl rfl ?_
    refine gX8_76 (n := 79) dX8_who_76 rfl rfl (hS0 (Or.inl rfl)) ?_
    refine k_top ((BL.f11 hb).trans hb.c9) ?_
    refine k_icmp_ge (t := 127) (n := 82) dX8_who_79 (by decide) rfl (fun h79 => ?_) (fun h79 => ?_)
    · refine il4 (n := 129) dX8_who_127 rfl ?_
      refine k_ireturn (ty := .int) dX8_who_129 rfl rfl (Nat.le_refl _) (Nat.le_refl _) ?_
      exact hQ J hf
    · exact absurd (Int32.le_refl _) h79
  | succ m ih =>
    intro i J hC hf hi
    have hic : i < c := by omega
    have hb := hC.bl
    have h8 := hb.c8
    have hhs := has_set hR (h := 0) (j := i) (by rw [hb.eM]; exact hic)
    refine il5 (n := 69) dX8_who_67 rfl ?_
    refine al0 (n := 70) dX8_who_69 rfl ?_
    refine gX8_10 (n := 73) dX8_who_70 rfl rfl rfl rfl ?_
    refine gX8_73 (n := 76) dX8_who_73 rfl rfl rfl rfl ?_
    refine gX8_76 (n := 79) dX8_who_76 rfl rfl (hS0 (Or.inl rfl)) ?_
    refine k_top ((BL.f11 hb).trans hb.c9) ?_
    refine k_icmp_ge (t := 127) (n := 82) dX8_who_79 (by decide) rfl (fun h79 => ?_) (fun h79 => ?_)
    · exact absurd h79 (nI_ge (by omega) (by omega))
    · refine al0 (n := 83) dX8_who_82 rfl ?_
      refine gX8_10 (n := 86) dX8_who_83 rfl rfl rfl rfl ?_
      refine gX8_73 (n := 89) dX8_who_86 rfl rfl rfl rfl ?_
      refine gX8_139 (n := 92) dX8_who_89 rfl rfl (hS0 (Or.inl rfl)) (hP4 (Or.inl rfl)) ?_
      refine il5 (n := 94) dX8_who_92 rfl ?_
      refine j_aald (j := i) (n := 95) dX8_who_94 rfl (hS3 (Or.inl rfl)) hOC rfl (by omega) (by decide) (hP6 (Or.inl rfl) (by omega)) ?_
      refine gX8_160 (n := 98) dX8_who_95 rfl rfl (hS8 (Or.inl rfl) (by omega)) ?_
      refine k_top (BL.cr hb hic (j := 5) (by decide)) ?_
      refine k_if_ne (t := 121) (n := 101) dX8_who_98 (by decide) rfl (fun h98 => ?_) (fun h98 => ?_)
      · refine ii5 (n := 124) dX8_who_121 rfl (ki1 _) trivial ?_
        rw [nI_1]
        refine k_goto (n := 67) dX8_who_124 (by decide) ?_
        first
          | (have h := ih (i + 1) K hCK hfK (by omega)
             rw [whF, if_pos (wh_y hf hhs h98 h109)] at h
             exact h)
          | (have h := ih (i + 1) K hCK hfK (by omega)
             rw [whF, if_neg (wh_n hf hhs h98 h109), Int32.or_zero] at h
             exact h)
          | (have h := ih (i + 1) J hC hf (by omega)
             rw [whF, if_neg (fun z => h98 (hhs.mp z.1)), Int32.or_zero] at h
             exact h)
      · refine al0 (n := 102) dX8_who_101 rfl ?_
        refine il5 (n := 104) dX8_who_102 rfl ?_
        refine il2 (n := 105) dX8_who_104 rfl ?_
        refine al3 (n := 106) dX8_who_105 rfl ?_
        refine qX8_284 (n := 109) dX8_who_106 rfl rfl (Nat.le_of_ble_eq_true rfl) (by omega) (Nat.le_refl _) (Nat.le_refl _) rfl (c_wAT (by omega) hC hR hX i n a hn ha) ?_
        rintro _ _ ⟨K, rfl, rfl, hgK⟩
        dsimp only [Option.toList, List.cons_append, List.nil_append, Nat.add_zero]
        have hCK := hC.th hgK
        have hbK := hCK.bl
        have hfK := hf.tr hgK
        refine k_ifb_eq (t := 121) (n := 112) dX8_who_109 (by decide) rfl (fun h109 => ?_) (fun h109 => ?_)
        · refine ii5 (n := 124) dX8_who_121 rfl (ki1 _) trivial ?_
          rw [nI_1]
          refine k_goto (n := 67) dX8_who_124 (by decide) ?_
          first
            | (have h := ih (i + 1) K hCK hfK (by omega)
               rw [whF, if_pos (wh_y hf hhs h98 h109)] at h
               exact h)
            | (have h := ih (i + 1) K hCK hfK (by omega)
               rw [whF, if_neg (wh_n hf hhs h98 h109), Int32.or_zero] at h
               exact h)
            | (have h := ih (i + 1) J hC hf (by omega)
               rw [whF, if_neg (fun z => h98 (hhs.mp z.1)), Int32.or_zero] at h
               exact h)
        · refine il4 (n := 114) dX8_who_112 rfl ?_
          refine k_iconst (a := 1) (n := 115) dX8_who_114 rfl rfl ?_
          refine il5 (n := 117) dX8_who_115 rfl ?_
          refine k_ishl (n := 118) dX8_who_117 rfl ?_
          refine k_ior (n := 119) dX8_who_118 rfl ?_
          refine is4 (n := 121) dX8_who_119 rfl trivial ?_
          refine ii5 (n := 124) dX8_who_121 rfl (ki1 _) trivial ?_
          rw [nI_1]
          refine k_goto (n := 67) dX8_who_124 (by decide) ?_
          first
            | (have h := ih (i + 1) K hCK hfK (by omega)
               rw [whF, if_pos (wh_y hf hhs h98 h109)] at h
               exact h)
            | (have h := ih (i + 1) K hCK hfK (by omega)
               rw [whF, if_neg (wh_n hf hhs h98 h109), Int32.or_zero] at h
               exact h)
            | (have h := ih (i + 1) J hC hf (by omega)
               rw [whF, if_neg (fun z => h98 (hhs.mp z.1)), Int32.or_zero] at h
               exact h)
set_option maxHeartbeats 2000000 in
set_option maxRecDepth 20000 in
theorem c_isMiss {a : Nat} (ha : a < 4) : Ct E d mX5_isMissing 0 0 [.ref (73 + 2 * a)] (kJ I) (kR (kb (I (73 + 2 * a) 1 = 0)) I) := by
  refine Ct.of (L := [some (.ref (73 + 2 * a))]) rfl rfl (Nat.le_of_ble_eq_true rfl) ?_
  refine al0 (n := 1) dX5_isMissing_0 rfl ?_
  refine gX5_15 (n := 4) dX5_isMissing_1 rfl rfl (hSs ha) ?_
  refine k_if_ne (t := 11) (n := 7) dX5_isMissing_4 (by decide) rfl (fun h4 => ?_) (fun h4 => ?_)
  · refine k_iconst (a := 0) (n := 12) dX5_isMissing_11 rfl rfl ?_
    refine k_ireturn (ty := .boolean) dX5_isMissing_12 rfl (by first | rfl | exact knb _) (Nat.le_refl _) (Nat.le_refl _) ?_
    first | exact kRt h4 | exact kRf h4
  · refine k_iconst (a := 1) (n := 8) dX5_isMissing_7 rfl rfl ?_
    refine k_goto (n := 12) dX5_isMissing_8 (by decide) ?_
    refine k_ireturn (ty := .boolean) dX5_isMissing_12 rfl (by first | rfl | exact knb _) (Nat.le_refl _) (Nat.le_refl _) ?_
    first | exact kRt h4 | exact kRf h4
theorem whF_cg {g h : Nat → Int32} {n : Nat} {s : Int32} (e : ∀ z, z < 8 → g z = h z) (hR : RI r) : ∀ c, c ≤ 8 → whF r n s g c = whF r n s h c
  | 0, _ => rfl
  | c + 1, hc => by
    rw [whF, whF, whF_cg e hR c (by omega)]
    have hq : RI (whQ r n s c) := RI_pass (RI_c hR (by omega) _) _
    obtain ⟨-, -, -, ⟨p, hp, hp2, hp8⟩, -⟩ := id hq
    have ep : sPl (whQ r n s c) = p := by unfold sPl; rw [hp]; exact kcl (by omega)
    have : whP r n s g c ↔ whP r n s h c := by
      unfold whP
      rw [ep, whE_cg p (fun i hi => ⟨rfl, e i (by omega)⟩)]
    simp only [this]
set_option maxHeartbeats 2000000 in
set_option maxRecDepth 20000 in
theorem c_who (hd : 9 ≤ d) (hC : CR I r c t) (hR : RI r) (hX : RX r) (v n : Int32) (hS : SH I) : Ct E d mX8_who 0 0 [.ref 0, .int v, .int n] (kJ I) (kZ I (s_who I r v n)) := by
  have hb := hC.bl
  have hT := hR.TX
  have h8 := hb.c8
  have h4 := hb.t4
  refine Ct.of (L := [some (.ref 0), some (.int v), some (.int n), none, none, none]) rfl rfl (Nat.le_of_ble_eq_true rfl) ?_
  refine il1 (n := 1) dX8_who_0 rfl ?_
  refine qiX8_277 (n := 4) dX8_who_1 rfl rfl (Nat.le_of_ble_eq_true rfl) (by omega) (c_isSheet (by omega) _) (Nat.le_refl _) (Nat.le_refl _) ?_
  refine k_ifb_eq (t := 18) (n := 7) dX8_who_4 (by decide) rfl (fun h4_ => ?_) (fun h4_ => ?_)
  · refine al0 (n := 19) dX8_who_18 rfl ?_
    refine k_iconst (a := 1) (n := 20) dX8_who_19 rfl rfl ?_
    refine qiX8_69 (n := 23) dX8_who_20 rfl rfl (Nat.le_of_ble_eq_true rfl) (by omega) rfl (c_refuse1 (by omega)) (Nat.le_refl _) (Nat.le_refl _) ?_
    refine k_ireturn (ty := .int) dX8_who_23 rfl rfl (Nat.le_refl _) (Nat.le_refl _) ?_
    exact kZ.to (by simp only [s_who, if_neg (show ¬ ((0 ≤ v ∧ v ≤ 3) ∧ 0 ≤ n ∧ n ≤ 200) from fun z => h4_ z.1)]) (kZ_e1 hC (FX.rf _))
  · have g4 := h4_
    obtain ⟨a, -, ha, rfl⟩ := kbt (a := 0) (b := 3) h4_ (by decide) (by decide)
    have ha4 : a < 4 := by omega
    refine il2 (n := 8) dX8_who_7 rfl ?_
    refine k_iconst (a := 0) (n := 9) dX8_who_8 rfl rfl ?_
    refine k_sipush (a := 200) (n := 12) dX8_who_9 rfl rfl ?_
    refine qiX8_65 (n := 15) dX8_who_12 rfl rfl (Nat.le_of_ble_eq_true rfl) (by omega) (c_within _ _ _) (Nat.le_refl _) (Nat.le_refl _) ?_
    refine k_ifb_ne (t := 24) (n := 18) dX8_who_15 (by decide) rfl (fun h15 => ?_) (fun h15 => ?_)
    · have g15 := h15
      obtain ⟨k, -, hk, rfl⟩ := kbt (a := 0) (b := 200) h15 (by decide) (by decide)
      refine al0 (n := 25) dX8_who_24 rfl ?_
      refine gX8_57 (n := 28) dX8_who_25 rfl rfl rfl rfl ?_
      refine il1 (n := 29) dX8_who_28 rfl ?_
      refine j_aald (j := a) (n := 30) dX8_who_29 rfl rfl hOS rfl (by omega) (by decide) (hPS ha4) ?_
      refine as3 (n := 31) dX8_who_30 rfl trivial ?_
      refine al3 (n := 32) dX8_who_31 rfl ?_
      refine qiX8_280 (n := 35) dX8_who_32 rfl rfl (Nat.le_of_ble_eq_true rfl) (by omega) (hSs ha4) (c_isMiss ha4) (Nat.le_refl _) (Nat.le_refl _) ?_
      refine k_ifb_ne (t := 55) (n := 38) dX8_who_35 (by decide) rfl (fun h35 => ?_) (fun h35 => ?_)
      · have g35 : I 87 a = 0 := (hS a ha4).1.symm.trans h35
        refine al0 (n := 56) dX8_who_55 rfl ?_
        refine k_iconst (a := 2) (n := 57) dX8_who_56 rfl rfl ?_
        refine qiX8_69 (n := 60) dX8_who_57 rfl rfl (Nat.le_of_ble_eq_true rfl) (by omega) rfl (c_refuse2 (by omega)) (Nat.le_refl _) (Nat.le_refl _) ?_
        refine k_ireturn (ty := .int) dX8_who_60 rfl rfl (Nat.le_refl _) (Nat.le_refl _) ?_
        exact kZ.to (by simp only [s_who, if_pos (show (0 ≤ nI a ∧ nI a ≤ 3) ∧ 0 ≤ nI k ∧ nI k ≤ 200 from ⟨g4, g15⟩), kcl (show a < 1000 by omega), if_neg (show ¬ (¬ I 87 a = 0 ∧ I 88 a = r 3) from fun z => z.1 g35)]) (kZ_e2 hC (FX.rf _))
      · have g35 : ¬ I 87 a = 0 := fun z => h35 ((hS a ha4).1.trans z)
        refine al3 (n := 39) dX8_who_38 rfl ?_
        refine gX8_283 (n := 42) dX8_who_39 rfl rfl (hSs ha4) ?_
        refine k_top (hS a ha4).2.1 ?_
        refine al0 (n := 43) dX8_who_42 rfl ?_
        refine gX8_10 (n := 46) dX8_who_43 rfl rfl rfl rfl ?_
        refine gX8_73 (n := 49) dX8_who_46 rfl rfl rfl rfl ?_
        refine gX8_80 (n := 52) dX8_who_49 rfl rfl (hS0 (Or.inl rfl)) ?_
        refine k_top (BL.f5 hb) ?_
        refine k_icmp_eq (t := 61) (n := 55) dX8_who_52 (by decide) rfl (fun h52 => ?_) (fun h52 => ?_)
        · refine k_iconst (a := 0) (n := 62) dX8_who_61 rfl rfl ?_
          refine is4 (n := 64) dX8_who_62 rfl trivial ?_
          refine k_iconst (a := 0) (n := 65) dX8_who_64 rfl rfl ?_
          refine is5 (n := 67) dX8_who_65 rfl trivial ?_
          refine c_who_l (by omega) hR hX a k ha4 (by omega) _ (fun K hf => ?_) c 0 I hC (FB.rf _ _) (by omega)
          refine kZ.to ?_ (kZ_x (hC.th hf) (FX.th hf))
          simp only [s_who, if_pos (show (0 ≤ nI a ∧ nI a ≤ 3) ∧ 0 ≤ nI k ∧ nI k ≤ 200 from ⟨g4, g15⟩), kcl (show a < 1000 by omega), kcl (show k < 1000 by omega), if_pos (show ¬ I 87 a = 0 ∧ I 88 a = r 3 from ⟨g35, h52⟩)]
          rw [whF_cg (fun z hz => ((hS a ha4).2.2 z (by omega)).symm) hR _ (sMany_le hR), hb.eM]
        · refine al0 (n := 56) dX8_who_55 rfl ?_
          refine k_iconst (a := 2) (n := 57) dX8_who_56 rfl rfl ?_
          refine qiX8_69 (n := 60) dX8_who_57 rfl rfl (Nat.le_of_ble_eq_true rfl) (by omega) rfl (c_refuse2 (by omega)) (Nat.le_refl _) (Nat.le_refl _) ?_
          refine k_ireturn (ty := .int) dX8_who_60 rfl rfl (Nat.le_refl _) (Nat.le_refl _) ?_
          exact kZ.to (by simp only [s_who, if_pos (show (0 ≤ nI a ∧ nI a ≤ 3) ∧ 0 ≤ nI k ∧ nI k ≤ 200 from ⟨g4, g15⟩), kcl (show a < 1000 by omega), if_neg (show ¬ (¬ I 87 a = 0 ∧ I 88 a = r 3) from fun z => h52 z.2)]) (kZ_e2 hC (FX.rf _))
    · refine al0 (n := 19) dX8_who_18 rfl ?_
      refine k_iconst (a := 1) (n := 20) dX8_who_19 rfl rfl ?_
      refine qiX8_69 (n := 23) dX8_who_20 rfl rfl (Nat.le_of_ble_eq_true rfl) (by omega) rfl (c_refuse1 (by omega)) (Nat.le_refl _) (Nat.le_refl _) ?_
      refine k_ireturn (ty := .int) dX8_who_23 rfl rfl (Nat.le_refl _) (Nat.le_refl _) ?_
      exact kZ.to (by simp only [s_who, if_neg (show ¬ ((0 ≤ nI a ∧ nI a ≤ 3) ∧ 0 ≤ n ∧ n ≤ 200) from fun z => h15 z.2)]) (kZ_e1 hC (FX.rf _))
def gsF (a b : Nat) : Nat → Nat
  | 0 => 1
  | d + 1 => if d = 0 then 1 else if a % (d + 1) = 0 ∧ b % (d + 1) = 0 then d + 1 else gsF a b d
theorem gs_gcd : ∀ b, b ≤ 16 → ∀ a, a ≤ b → 1 ≤ b → gsF a b b = Nat.gcd a b := by decide +kernel
theorem gs_pos : ∀ b, b ≤ 16 → ∀ a, a ≤ b → 1 ≤ b → 1 ≤ Nat.gcd a b ∧ Nat.gcd a b ≤ 16 := by decide +kernel
theorem gs_lo {a b x : Nat} (h : nI x ≤ 1) (hx : x ≤ 16 := by omega) : gsF a b x = 1 := by
  have : x ≤ 1 := Nat.le_of_not_lt fun z => nI_ge (a := 1) (b := x) z (by omega) h
  rcases (show x = 0 ∨ x = 1 by omega) with rfl | rfl <;> rfl
theorem gs_y {a b x : Nat} (h1 : 1 < x) (h : a % x = 0 ∧ b % x = 0) : gsF a b x = x := by
  obtain ⟨z, rfl⟩ : ∃ z, x = z + 1 := ⟨x - 1, by omega⟩
  rw [gsF, if_neg (by omega), if_pos h]
theorem gs_n {a b x : Nat} (h1 : 1 < x) (h : ¬ (a % x = 0 ∧ b % x = 0)) : gsF a b x = gsF a b (x - 1) := by
  obtain ⟨z, rfl⟩ : ∃ z, x = z + 1 := ⟨x - 1, by omega⟩
  rw [gsF, if_neg (by omega), if_neg h]
  rfl
set_option maxHeartbeats 2000000 in
set_option maxRecDepth 20000 in
theorem c_gs_l (a b : Nat) (ha : a ≤ 16) (hb : b ≤ 16) (m : Nat) : ∀ (x : Nat), x ≤ 16 → x ≤ m → Wd E d mX8_greatestShared 0 0 0 0 2 [some (.int (nI a)), some (.int (nI b)), some (.int (nI x))] [] (kJ I) (kR (nI (gsF a b x)) I) := by
  induction m with
  | zero =>
    intro x hx hm
    have e : x = 0 := by omega
    subst e
    refine il2 (n := 3) dX8_greatestShared_2 rfl ?_
    refine k_iconst (a := 1) (n := 4) dX8_greatestShared_3 rfl rfl ?_
    refine k_icmp_le (t := 27) (n := 7) dX8_greatestShared_4 (by decide) rfl (fun h4 => ?_) (fun h4 => ?_)
    · refine k_iconst (a := 1) (n := 28) dX8_greatestShared_27 rfl rfl ?_
      refine k_ireturn (ty := .int) dX8_greatestShared_28 rfl rfl (Nat.le_refl _) (Nat.le_refl _) ?_
      exact ⟨rfl, rfl⟩
    · exact absurd (by decide) h4
  | succ m ih =>
    intro x hx hm
    refine il2 (n := 3) dX8_greatestShared_2 rfl ?_
    refine k_iconst (a := 1) (n := 4) dX8_greatestShared_3 rfl rfl ?_
    refine k_icmp_le (t := 27) (n := 7) dX8_greatestShared_4 (by decide) rfl (fun h4 => ?_) (fun h4 => ?_)
    · refine k_iconst (a := 1) (n := 28) dX8_greatestShared_27 rfl rfl ?_
      refine k_ireturn (ty := .int) dX8_greatestShared_28 rfl rfl (Nat.le_refl _) (Nat.le_refl _) ?_
      first
        | exact ⟨by rw [gs_lo (by exact h4)]; rfl, rfl⟩
        | exact ⟨by rw [gs_y hx1 ⟨(nI_z (by have := Nat.mod_lt a (show 0 < x by omega); omega)).mp h10, (nI_z (by have := Nat.mod_lt b (show 0 < x by omega); omega)).mp h16⟩], rfl⟩
    · have hx1 : 1 < x := Nat.lt_of_not_le fun z => h4 (Int32.not_lt.mp (nI_nlt (a := 1) (b := x) z (by decide)))
      refine il0 (n := 8) dX8_greatestShared_7 rfl ?_
      refine il2 (n := 9) dX8_greatestShared_8 rfl ?_
      refine k_irem (n := 10) dX8_greatestShared_9 rfl (nI_ne0 (by omega) (by omega)) ?_
      rw [pk_rem (by omega) (by omega) (by omega)]
      refine k_if_ne (t := 21) (n := 13) dX8_greatestShared_10 (by decide) rfl (fun h10 => ?_) (fun h10 => ?_)
      · refine ii2 (n := 24) dX8_greatestShared_21 rfl (kim1 _) trivial ?_
        rw [show nI x + -1 = nI (x - 1) by rw [← xm1]; exact pk_sub (b := 1) (by omega)]
        refine k_goto (n := 2) dX8_greatestShared_24 (by decide) ?_
        have h := ih (x - 1) (by omega) (by omega)
        rw [← gs_n hx1 (fun z => by first | exact h10 ((nI_z (by have := Nat.mod_lt a (show 0 < x by omega); omega)).mpr z.1) | exact h16 ((nI_z (by have := Nat.mod_lt b (show 0 < x by omega); omega)).mpr z.2))] at h
        exact h
      · refine il1 (n := 14) dX8_greatestShared_13 rfl ?_
        refine il2 (n := 15) dX8_greatestShared_14 rfl ?_
        refine k_irem (n := 16) dX8_greatestShared_15 rfl (nI_ne0 (by omega) (by omega)) ?_
        rw [pk_rem (by omega) (by omega) (by omega)]
        refine k_if_ne (t := 21) (n := 19) dX8_greatestShared_16 (by decide) rfl (fun h16 => ?_) (fun h16 => ?_)
        · refine ii2 (n := 24) dX8_greatestShared_21 rfl (kim1 _) trivial ?_
          rw [show nI x + -1 = nI (x - 1) by rw [← xm1]; exact pk_sub (b := 1) (by omega)]
          refine k_goto (n := 2) dX8_greatestShared_24 (by decide) ?_
          have h := ih (x - 1) (by omega) (by omega)
          rw [← gs_n hx1 (fun z => by first | exact h10 ((nI_z (by have := Nat.mod_lt a (show 0 < x by omega); omega)).mpr z.1) | exact h16 ((nI_z (by have := Nat.mod_lt b (show 0 < x by omega); omega)).mpr z.2))] at h
          exact h
        · refine il2 (n := 20) dX8_greatestShared_19 rfl ?_
          refine k_ireturn (ty := .int) dX8_greatestShared_20 rfl rfl (Nat.le_refl _) (Nat.le_refl _) ?_
          first
            | exact ⟨by rw [gs_lo (by exact h4)]; rfl, rfl⟩
            | exact ⟨by rw [gs_y hx1 ⟨(nI_z (by have := Nat.mod_lt a (show 0 < x by omega); omega)).mp h10, (nI_z (by have := Nat.mod_lt b (show 0 < x by omega); omega)).mp h16⟩], rfl⟩
set_option maxHeartbeats 2000000 in
set_option maxRecDepth 20000 in
theorem c_gs (a b : Nat) (hb : b ≤ 16) (h1 : 1 ≤ b) (ha : a ≤ b) : Ct E d mX8_greatestShared 0 0 [.int (nI a), .int (nI b)] (kJ I) (kR (nI (Nat.gcd a b)) I) := by
  rw [← gs_gcd b hb a ha h1]
  refine Ct.of (L := [some (.int (nI a)), some (.int (nI b)), none]) rfl rfl (Nat.le_of_ble_eq_true rfl) ?_
  refine il1 (n := 1) dX8_greatestShared_0 rfl ?_
  refine is2 (n := 2) dX8_greatestShared_1 rfl trivial ?_
  exact c_gs_l a b (by omega) hb b b hb (Nat.le_refl _)
set_option maxHeartbeats 2000000 in
set_option maxRecDepth 20000 in
theorem c_nFP (hd : 7 ≤ d) (hC : CR I r c t) (hR : RI r) (hX : RX r) (j n k : Nat) (hj : j < c) (hn : n ≤ 200) : Ct E d mX8_isNorthFromPlace 0 0 [.ref 0, .int (nI j), .int (nI n), .int (nI k)] (kJ I) (kTh (kb (odP r j n k)) I) := by
  have h8 := hC.bl.c8
  have hT := hR.TX
  refine Ct.of (L := [some (.ref 0), some (.int (nI j)), some (.int (nI n)), some (.int (nI k))]) rfl rfl (Nat.le_of_ble_eq_true rfl) ?_
  refine al0 (n := 1) dX8_isNorthFromPlace_0 rfl ?_
  refine qX8_243 (n := 4) dX8_isNorthFromPlace_1 rfl rfl (Nat.le_of_ble_eq_true rfl) (by omega) (Nat.le_refl _) (Nat.le_refl _) rfl (c_think (by omega) hC) ?_
  rintro _ _ ⟨I1, rfl, rfl, hb1, hg1⟩
  dsimp only [Option.toList, List.cons_append, List.nil_append, Nat.add_zero]
  have hf1 := hg1
  refine al0 (n := 5) dX8_isNorthFromPlace_4 rfl ?_
  refine gX8_31 (n := 8) dX8_isNorthFromPlace_5 rfl rfl rfl rfl ?_
  refine k_dup (n := 9) dX8_isNorthFromPlace_8 rfl rfl ?_
  refine gX8_227 (n := 12) dX8_isNorthFromPlace_9 rfl rfl (hS0 (Or.inr rfl)) ?_
  refine k_top (BL.f8 hb1) ?_
  refine il3 (n := 13) dX8_isNorthFromPlace_12 rfl ?_
  refine al0 (n := 14) dX8_isNorthFromPlace_13 rfl ?_
  refine gX8_31 (n := 17) dX8_isNorthFromPlace_14 rfl rfl rfl rfl ?_
  refine qiX8_351 (n := 20) dX8_isNorthFromPlace_17 rfl rfl (Nat.le_of_ble_eq_true rfl) (by omega) (hS0 (Or.inr rfl)) (c_placeIn (Or.inr rfl) hb1 hR) (Nat.le_refl _) (Nat.le_refl _) ?_
  refine k_isub (n := 21) dX8_isNorthFromPlace_20 rfl ?_
  refine k_iadd (n := 22) dX8_isNorthFromPlace_21 rfl ?_
  refine pX8_227 (n := 25) dX8_isNorthFromPlace_22 rfl rfl (hS0 (Or.inr rfl)) ?_
  refine k_gen (fun I2 e2 => ?_)
  have hb2 := BL.sf8 hb1 (Or.inr rfl) hT e2
  have hT2 := TX.ob hb2 hT (by omega)
  have hf2 := hf1.tr (FB.b e2)
  refine al0 (n := 26) dX8_isNorthFromPlace_25 rfl ?_
  refine gX8_31 (n := 29) dX8_isNorthFromPlace_26 rfl rfl rfl rfl ?_
  refine k_dup (n := 30) dX8_isNorthFromPlace_29 rfl rfl ?_
  refine gX8_190 (n := 33) dX8_isNorthFromPlace_30 rfl rfl (hS0 (Or.inr rfl)) ?_
  refine k_top ((BL.f12 hb2).trans (pk_un (by decide))) ?_
  refine k_iconst (a := 1) (n := 34) dX8_isNorthFromPlace_33 rfl rfl ?_
  refine il1 (n := 35) dX8_isNorthFromPlace_34 rfl ?_
  refine k_ishl (n := 36) dX8_isNorthFromPlace_35 rfl ?_
  refine k_ior (n := 37) dX8_isNorthFromPlace_36 rfl ?_
  refine pX8_190 (n := 40) dX8_isNorthFromPlace_37 rfl rfl (hS0 (Or.inr rfl)) ?_
  refine k_gen (fun I3 e3 => ?_)
  have hb3 := BL.sf12 hb2 (Or.inr rfl) hT2 e3
  have hT3 := TX.ob hb3 hT2 (by omega)
  have hf3 := hf2.tr (FB.b e3)
  have hRa := RI_od hR j k
  have hXa : RX (odR r j k) := RX_lo (RX_lo hX (by omega) _ (by omega) (by omega)) (by omega) _ (by omega) (by omega)
  refine al0 (n := 41) dX8_isNorthFromPlace_40 rfl ?_
  refine gX8_31 (n := 44) dX8_isNorthFromPlace_41 rfl rfl rfl rfl ?_
  refine il2 (n := 45) dX8_isNorthFromPlace_44 rfl ?_
  refine qX8_246 (n := 48) dX8_isNorthFromPlace_45 rfl rfl (Nat.le_of_ble_eq_true rfl) (by omega) (Nat.le_refl _) (Nat.le_refl _) (hS0 (Or.inr rfl)) (c_settle (by omega) (Or.inr rfl) hb3 hRa hXa n (by omega)) ?_
  rintro _ _ ⟨S, q, rfl, rfl, hbS, hgS, hqS⟩
  dsimp only [Option.toList, List.nil_append, Nat.add_zero]
  have hfS := hf3.tr hgS
  refine al0 (n := 49) dX8_isNorthFromPlace_48 rfl ?_
  refine gX8_31 (n := 52) dX8_isNorthFromPlace_49 rfl rfl rfl rfl ?_
  refine gX8_139 (n := 55) dX8_isNorthFromPlace_52 rfl rfl (hS0 (Or.inr rfl)) (hP4 (Or.inr rfl)) ?_
  refine il1 (n := 56) dX8_isNorthFromPlace_55 rfl ?_
  refine j_aald (j := j) (n := 57) dX8_isNorthFromPlace_56 rfl (hS3 (Or.inr rfl)) hOC rfl (by omega) (by decide) (hP6 (Or.inr rfl) (by omega)) ?_
  refine gX8_160 (n := 60) dX8_isNorthFromPlace_57 rfl rfl (hS8 (Or.inr rfl) (by omega)) ?_
  refine k_top ((BL.cr hbS hj (j := 5) (by decide)).trans (hqS _ (by omega) (by omega))) ?_
  refine k_iconst (a := 2) (n := 61) dX8_isNorthFromPlace_60 rfl rfl ?_
  refine k_icmp_ne (t := 68) (n := 64) dX8_isNorthFromPlace_61 (by decide) rfl (fun h61 => ?_) (fun h61 => ?_)
  · refine k_iconst (a := 0) (n := 69) dX8_isNorthFromPlace_68 rfl rfl ?_
    refine k_ireturn (ty := .boolean) dX8_isNorthFromPlace_69 rfl (by first | rfl | exact knb _) (Nat.le_refl _) (Nat.le_refl _) ?_
    first | exact ⟨S, by rw [kb_f (show ¬ odP r j n k from h61)], rfl, hfS⟩ | exact ⟨S, by rw [kb_t (show odP r j n k from h61)], rfl, hfS⟩
  · refine k_iconst (a := 1) (n := 65) dX8_isNorthFromPlace_64 rfl rfl ?_
    refine k_goto (n := 69) dX8_isNorthFromPlace_65 (by decide) ?_
    refine k_ireturn (ty := .boolean) dX8_isNorthFromPlace_69 rfl (by first | rfl | exact knb _) (Nat.le_refl _) (Nat.le_refl _) ?_
    first | exact ⟨S, by rw [kb_f (show ¬ odP r j n k from h61)], rfl, hfS⟩ | exact ⟨S, by rw [kb_t (show odP r j n k from h61)], rfl, hfS⟩
theorem od_s {j n i : Nat} : nI (odC r j n i) + kb (odP r j n i) = nI (odC r j n (i + 1)) := by
  rw [odC]
  by_cases h : odP r j n i
  · rw [kb_t h, if_pos h, nI_1]
  · rw [kb_f h, if_neg h, Nat.add_zero]; exact Int32.add_zero _
set_option maxHeartbeats 2000000 in
set_option maxRecDepth 20000 in
theorem c_odds_l (hd : 8 ≤ d) (hR : RI r) (hX : RX r) (j n p : Nat) (hj : j < c) (hn : n ≤ 200) (hp16 : p ≤ 16) (v3 : Option Value) (Q : Option Value → kM → Prop) (hQ : ∀ K, FB 51 I K → Wd E d mX8_odds 0 0 0 0 105 [some (.ref 0), some (.int (nI j)), some (.int (nI n)), v3, some (.int (nI p)), some (.int (nI (odC r j n p))), some (.int (nI p))] [] (kJ K) Q) (m : Nat) : ∀ (i : Nat) (J : Nat → Nat → Int32), CR J r c t → FB 51 I J → i + m = p → Wd E d mX8_odds 0 0 0 0 76 [some (.ref 0), some (.int (nI j)), some (.int (nI n)), v3, some (.int (nI p)), some (.int (nI (odC r j n i))), some (.int (nI i))] [] (kJ J) Q := by
  induction m with
  | zero =>
    intro i J hC hf hi
    have e : i = p := by omega
    subst e
    refine il6 (n := 78) dX8_odds_76 rfl ?_
    refine il4 (n := 80) dX8_odds_78 rfl ?_
    refine k_icmp_ge (t := 105) (n := 83) dX8_odds_80 (by decide) rfl (fun h80 => ?_) (fun h80 => ?_)
    · exact hQ J hf
    · exact absurd (Int32.le_refl _) h80
  | succ m ih =>
    intro i J hC hf hi
    have hb := hC.bl
    refine il6 (n := 78) dX8_odds_76 rfl ?_
    refine il4 (n := 80) dX8_odds_78 rfl ?_
    refine k_icmp_ge (t := 105) (n := 83) dX8_odds_80 (by decide) rfl (fun h80 => ?_) (fun h80 => ?_)
    · exact absurd h80 (nI_ge (by omega) (by omega))
    · refine il5 (n := 85) dX8_odds_83 rfl ?_
      refine al0 (n := 86) dX8_odds_85 rfl ?_
      refine il1 (n := 87) dX8_odds_86 rfl ?_
      refine il2 (n := 88) dX8_odds_87 rfl ?_
      refine il6 (n := 90) dX8_odds_88 rfl ?_
      refine qX8_288 (n := 93) dX8_odds_90 rfl rfl (Nat.le_of_ble_eq_true rfl) (by omega) (Nat.le_refl _) (Nat.le_refl _) rfl (c_nFP (by omega) hC hR hX j n i hj hn) ?_
      rintro _ _ ⟨K, rfl, rfl, hgK⟩
      dsimp only [Option.toList, List.cons_append, List.nil_append, Nat.add_zero]
      have hCK := hC.th hgK
      have hbK := hCK.bl
      have hfK := hf.tr hgK
      refine qiX8_122 (n := 96) dX8_odds_93 rfl rfl (Nat.le_of_ble_eq_true rfl) (by omega) (c_asN _ (by first | exact Or.inl rfl | exact Or.inr rfl | exact kb_01 _)) (Nat.le_refl _) (Nat.le_refl _) ?_
      refine k_iadd (n := 97) dX8_odds_96 rfl ?_
      rw [od_s]
      refine is5 (n := 99) dX8_odds_97 rfl trivial ?_
      refine ii6 (n := 102) dX8_odds_99 rfl (ki1 _) trivial ?_
      rw [nI_1]
      refine k_goto (n := 76) dX8_odds_102 (by decide) ?_
      exact ih (i + 1) K hCK hfK (by omega)
set_option maxHeartbeats 2000000 in
set_option maxRecDepth 20000 in
theorem c_odds (hd : 9 ≤ d) (hC : CR I r c t) (hR : RI r) (hX : RX r) (v n q : Int32) : Ct E d mX8_odds 0 0 [.ref 0, .int v, .int n, .int q] (kJ I) (kZ I (s_odds r v n q)) := by
  have hb := hC.bl
  have hT := hR.TX
  have h8 := hb.c8
  have h4 := hb.t4
  obtain ⟨-, -, -, -, -, -, ⟨p, hp, hp1, hp16⟩, -⟩ := id hR
  have ep : sRh r = p := by unfold sRh; rw [hp]; exact kcl (by omega)
  refine Ct.of (L := [some (.ref 0), some (.int v), some (.int n), some (.int q), none, none, none]) rfl rfl (Nat.le_of_ble_eq_true rfl) ?_
  refine al0 (n := 1) dX8_odds_0 rfl ?_
  refine il1 (n := 2) dX8_odds_1 rfl ?_
  refine qiX8_136 (n := 5) dX8_odds_2 rfl rfl (Nat.le_of_ble_eq_true rfl) (by omega) rfl (c_isCrosser (by omega) hb _) (Nat.le_refl _) (Nat.le_refl _) ?_
  refine k_ifb_eq (t := 28) (n := 8) dX8_odds_5 (by decide) rfl (fun h5 => ?_) (fun h5 => ?_)
  · refine al0 (n := 29) dX8_odds_28 rfl ?_
    refine k_iconst (a := 1) (n := 30) dX8_odds_29 rfl rfl ?_
    refine qiX8_69 (n := 33) dX8_odds_30 rfl rfl (Nat.le_of_ble_eq_true rfl) (by omega) rfl (c_refuse1 (by omega)) (Nat.le_refl _) (Nat.le_refl _) ?_
    refine k_ireturn (ty := .int) dX8_odds_33 rfl rfl (Nat.le_refl _) (Nat.le_refl _) ?_
    exact kZ.to (by simp only [s_odds, if_neg h5]) (kZ_e1 hC (FX.rf _))
  · obtain ⟨j, hj, rfl⟩ := kixc hb h5
    refine il2 (n := 9) dX8_odds_8 rfl ?_
    refine k_iconst (a := 0) (n := 10) dX8_odds_9 rfl rfl ?_
    refine k_sipush (a := 200) (n := 13) dX8_odds_10 rfl rfl ?_
    refine qiX8_65 (n := 16) dX8_odds_13 rfl rfl (Nat.le_of_ble_eq_true rfl) (by omega) (c_within _ _ _) (Nat.le_refl _) (Nat.le_refl _) ?_
    refine k_ifb_eq (t := 28) (n := 19) dX8_odds_16 (by decide) rfl (fun h16 => ?_) (fun h16 => ?_)
    · refine al0 (n := 29) dX8_odds_28 rfl ?_
      refine k_iconst (a := 1) (n := 30) dX8_odds_29 rfl rfl ?_
      refine qiX8_69 (n := 33) dX8_odds_30 rfl rfl (Nat.le_of_ble_eq_true rfl) (by omega) rfl (c_refuse1 (by omega)) (Nat.le_refl _) (Nat.le_refl _) ?_
      refine k_ireturn (ty := .int) dX8_odds_33 rfl rfl (Nat.le_refl _) (Nat.le_refl _) ?_
      exact kZ.to (by simp only [s_odds, if_pos h5, kcl (show j < 1000 by omega), if_neg h16]) (kZ_e1 hC (FX.rf _))
    · obtain ⟨k, -, hk, rfl⟩ := kbt (a := 0) (b := 200) h16 (by decide) (by decide)
      refine il3 (n := 20) dX8_odds_19 rfl ?_
      refine k_iconst (a := 0) (n := 21) dX8_odds_20 rfl rfl ?_
      refine k_iconst (a := 1) (n := 22) dX8_odds_21 rfl rfl ?_
      refine qiX8_65 (n := 25) dX8_odds_22 rfl rfl (Nat.le_of_ble_eq_true rfl) (by omega) (c_within _ _ _) (Nat.le_refl _) (Nat.le_refl _) ?_
      refine k_ifb_ne (t := 34) (n := 28) dX8_odds_25 (by decide) rfl (fun h25 => ?_) (fun h25 => ?_)
      · obtain ⟨w, -, hw, rfl⟩ := kbt (a := 0) (b := 1) h25 (by decide) (by decide)
        refine al0 (n := 35) dX8_odds_34 rfl ?_
        refine gX8_10 (n := 38) dX8_odds_35 rfl rfl rfl rfl ?_
        refine gX8_73 (n := 41) dX8_odds_38 rfl rfl rfl rfl ?_
        refine gX8_139 (n := 44) dX8_odds_41 rfl rfl (hS0 (Or.inl rfl)) (hP4 (Or.inl rfl)) ?_
        refine il1 (n := 45) dX8_odds_44 rfl ?_
        refine j_aald (j := j) (n := 46) dX8_odds_45 rfl (hS3 (Or.inl rfl)) hOC rfl (by omega) (by decide) (hP6 (Or.inl rfl) (by omega)) ?_
        refine gX8_160 (n := 49) dX8_odds_46 rfl rfl (hS8 (Or.inl rfl) (by omega)) ?_
        refine k_top (BL.cr hb hj (j := 5) (by decide)) ?_
        refine k_if_eq (t := 58) (n := 52) dX8_odds_49 (by decide) rfl (fun h49 => ?_) (fun h49 => ?_)
        · refine al0 (n := 59) dX8_odds_58 rfl ?_
          refine gX8_10 (n := 62) dX8_odds_59 rfl rfl rfl rfl ?_
          refine gX8_73 (n := 65) dX8_odds_62 rfl rfl rfl rfl ?_
          refine gX8_91 (n := 68) dX8_odds_65 rfl rfl (hS0 (Or.inl rfl)) ?_
          refine k_top ((BL.f6 hb).trans hp) ?_
          refine is4 (n := 70) dX8_odds_68 rfl trivial ?_
          refine k_iconst (a := 0) (n := 71) dX8_odds_70 rfl rfl ?_
          refine is5 (n := 73) dX8_odds_71 rfl trivial ?_
          refine k_iconst (a := 0) (n := 74) dX8_odds_73 rfl rfl ?_
          refine is6 (n := 76) dX8_odds_74 rfl trivial ?_
          refine c_odds_l (by omega) hR hX j k p hj (by omega) hp16 _ _ (fun K hf => ?_) p 0 I hC (FB.rf _ _) (by omega)
          have hle := odC_le r j k p
          obtain ⟨gp1, gp2⟩ := gs_pos p hp16 (odC r j k p) hle hp1
          refine il5 (n := 107) dX8_odds_105 rfl ?_
          refine il4 (n := 109) dX8_odds_107 rfl ?_
          refine qiX8_291 (n := 112) dX8_odds_109 rfl rfl (Nat.le_of_ble_eq_true rfl) (by omega) (c_gs _ p hp16 hp1 hle) (Nat.le_refl _) (Nat.le_refl _) ?_
          refine is6 (n := 114) dX8_odds_112 rfl trivial ?_
          refine il3 (n := 115) dX8_odds_114 rfl ?_
          refine k_if_ne (t := 126) (n := 118) dX8_odds_115 (by decide) rfl (fun h115 => ?_) (fun h115 => ?_)
          · have e_w : w = 1 := by
              rcases (show w = 0 ∨ w = 1 by omega) with rfl | rfl
              · exact absurd rfl h115
              · rfl
            subst e_w
            refine il4 (n := 128) dX8_odds_126 rfl ?_
            refine il6 (n := 130) dX8_odds_128 rfl ?_
            refine k_idiv (n := 131) dX8_odds_130 rfl (nI_ne0 (by omega) (by omega)) ?_
            rw [pk_div (by omega) (by omega) (by omega)]
            refine k_ireturn (ty := .int) dX8_odds_131 rfl rfl (Nat.le_refl _) (Nat.le_refl _) ?_
            first
              | exact kZ.to (by simp only [s_odds, ep, if_pos h5, kcl (show j < 1000 by omega), if_pos h16, kcl (show k < 1000 by omega), if_pos h25, if_pos h49, if_pos (show nI 0 = 0 from rfl)] <;> rfl) (kZ_x (hC.th hf) (FX.th hf))
              | exact kZ.to (by simp only [s_odds, ep, if_pos h5, kcl (show j < 1000 by omega), if_pos h16, kcl (show k < 1000 by omega), if_pos h25, if_pos h49, if_neg (show ¬ nI 1 = 0 by decide)] <;> rfl) (kZ_x (hC.th hf) (FX.th hf))
          · have e_w : w = 0 := by
              rcases (show w = 0 ∨ w = 1 by omega) with rfl | rfl
              · rfl
              · exact absurd h115 (by decide)
            subst e_w
            refine il5 (n := 120) dX8_odds_118 rfl ?_
            refine il6 (n := 122) dX8_odds_120 rfl ?_
            refine k_idiv (n := 123) dX8_odds_122 rfl (nI_ne0 (by omega) (by omega)) ?_
            rw [pk_div (by omega) (by omega) (by omega)]
            refine k_goto (n := 131) dX8_odds_123 (by decide) ?_
            refine k_ireturn (ty := .int) dX8_odds_131 rfl rfl (Nat.le_refl _) (Nat.le_refl _) ?_
            first
              | exact kZ.to (by simp only [s_odds, ep, if_pos h5, kcl (show j < 1000 by omega), if_pos h16, kcl (show k < 1000 by omega), if_pos h25, if_pos h49, if_pos (show nI 0 = 0 from rfl)] <;> rfl) (kZ_x (hC.th hf) (FX.th hf))
              | exact kZ.to (by simp only [s_odds, ep, if_pos h5, kcl (show j < 1000 by omega), if_pos h16, kcl (show k < 1000 by omega), if_pos h25, if_pos h49, if_neg (show ¬ nI 1 = 0 by decide)] <;> rfl) (kZ_x (hC.th hf) (FX.th hf))
        · refine al0 (n := 53) dX8_odds_52 rfl ?_
          refine k_iconst (a := 3) (n := 54) dX8_odds_53 rfl rfl ?_
          refine qiX8_69 (n := 57) dX8_odds_54 rfl rfl (Nat.le_of_ble_eq_true rfl) (by omega) rfl (c_refuse3 (by omega)) (Nat.le_refl _) (Nat.le_refl _) ?_
          refine k_ireturn (ty := .int) dX8_odds_57 rfl rfl (Nat.le_refl _) (Nat.le_refl _) ?_
          exact kZ.to (by simp only [s_odds, if_pos h5, kcl (show j < 1000 by omega), if_pos h16, kcl (show k < 1000 by omega), if_pos h25, kcl (show w < 1000 by omega), if_neg h49]) (kZ_e3 hC (FX.rf _))
      · refine al0 (n := 29) dX8_odds_28 rfl ?_
        refine k_iconst (a := 1) (n := 30) dX8_odds_29 rfl rfl ?_
        refine qiX8_69 (n := 33) dX8_odds_30 rfl rfl (Nat.le_of_ble_eq_true rfl) (by omega) rfl (c_refuse1 (by omega)) (Nat.le_refl _) (Nat.le_refl _) ?_
        refine k_ireturn (ty := .int) dX8_odds_33 rfl rfl (Nat.le_refl _) (Nat.le_refl _) ?_
        exact kZ.to (by simp only [s_odds, if_pos h5, kcl (show j < 1000 by omega), if_pos h16, kcl (show k < 1000 by omega), if_neg h25]) (kZ_e1 hC (FX.rf _))
set_option maxHeartbeats 2000000 in
set_option maxRecDepth 20000 in
theorem c_check_l (hd : 6 ≤ d) (hC : CR I (upd r 5 0) c t) (hR : RI (upd r 5 0)) (hX : RX (upd r 5 0)) (n : Nat) (hn : n ≤ 20) (Q : Option Value → kM → Prop) (hY : ∀ K i, FB 51 I K → i < n → i = srF (fun i => ¬ cntF (passF (i + 1) (upd r 5 0)) 2 = passF (i + 1) (upd r 5 0) (135 + i)) n 0 → Q (some (.int (1 + nI i))) (kJ K)) (hN : ∀ K, FB 51 I K → srF (fun i => ¬ cntF (passF (i + 1) (upd r 5 0)) 2 = passF (i + 1) (upd r 5 0) (135 + i)) n 0 = n → Q (some (.int 0)) (kJ K)) (m : Nat) : ∀ (i : Nat) (J : Nat → Nat → Int32), BL 51 J (passF i (upd r 5 0)) c t → FB 51 I J → i + m = n → srF (fun i => ¬ cntF (passF (i + 1) (upd r 5 0)) 2 = passF (i + 1) (upd r 5 0) (135 + i)) m i = srF (fun i => ¬ cntF (passF (i + 1) (upd r 5 0)) 2 = passF (i + 1) (upd r 5 0) (135 + i)) n 0 → Wd E d mX8_check 0 0 0 0 22 [some (.ref 0), some (.int (nI n)), some (.int (nI i))] [] (kJ J) Q := by
  induction m with
  | zero =>
    intro i J hb hf hi hs
    have e : i = n := by omega
    subst e
    refine il2 (n := 23) dX8_check_22 rfl ?_
    refine il1 (n := 24) dX8_check_23 rfl ?_
    refine k_icmp_ge (t := 64) (n := 27) dX8_check_24 (by decide) rfl (fun h24 => ?_) (fun h24 => ?_)
    · refine k_iconst (a := 0) (n := 65) dX8_check_64 rfl rfl ?_
      refine k_ireturn (ty := .int) dX8_check_65 rfl rfl (Nat.le_refl _) (Nat.le_refl _) ?_
      exact hN J hf hs.symm
    · exact absurd (Int32.le_refl _) h24
  | succ m ih =>
    intro i J hb hf hi hs
    have hi20 : i < 20 := by omega
    have hRi := RI_pass hR i
    have hXi := RX_pass hR hX i
    refine il2 (n := 23) dX8_check_22 rfl ?_
    refine il1 (n := 24) dX8_check_23 rfl ?_
    refine k_icmp_ge (t := 64) (n := 27) dX8_check_24 (by decide) rfl (fun h24 => ?_) (fun h24 => ?_)
    · exact absurd h24 (nI_ge (by omega) (by omega))
    · refine al0 (n := 28) dX8_check_27 rfl ?_
      refine gX8_31 (n := 31) dX8_check_28 rfl rfl rfl rfl ?_
      refine qX8_240 (n := 34) dX8_check_31 rfl rfl (Nat.le_of_ble_eq_true rfl) (by omega) (Nat.le_refl _) (Nat.le_refl _) (hS0 (Or.inr rfl)) (c_once (by omega) (Or.inr rfl) hb hRi hXi) ?_
      rintro _ _ ⟨I1, rfl, rfl, hb1, hg1⟩
      dsimp only [Option.toList, List.cons_append, List.nil_append, Nat.add_zero]
      have hf1 := hf.tr hg1
      refine al0 (n := 35) dX8_check_34 rfl ?_
      refine gX8_31 (n := 38) dX8_check_35 rfl rfl rfl rfl ?_
      refine k_iconst (a := 2) (n := 39) dX8_check_38 rfl rfl ?_
      refine qiX8_234 (n := 42) dX8_check_39 rfl rfl (Nat.le_of_ble_eq_true rfl) (by omega) (hS0 (Or.inr rfl)) (c_countOf (by omega) (Or.inr rfl) hb1 2) (Nat.le_refl _) (Nat.le_refl _) ?_
      refine al0 (n := 43) dX8_check_42 rfl ?_
      refine gX8_10 (n := 46) dX8_check_43 rfl rfl rfl rfl ?_
      refine gX8_344 (n := 49) dX8_check_46 rfl rfl rfl rfl ?_
      refine il2 (n := 50) dX8_check_49 rfl ?_
      refine j_iald (j := i) (n := 51) dX8_check_50 rfl rfl rfl (by omega) (by decide) ?_
      refine k_top ((hC.th hf1).wa hi20) ?_
      refine k_icmp_eq (t := 58) (n := 54) dX8_check_51 (by decide) rfl (fun h51 => ?_) (fun h51 => ?_)
      · refine ii2 (n := 61) dX8_check_58 rfl (ki1 _) trivial ?_
        rw [nI_1]
        refine k_goto (n := 22) dX8_check_61 (by decide) ?_
        exact ih (i + 1) I1 hb1 hf1 (by omega) (by rw [← hs, srF, if_neg (show ¬ ¬ cntF (passF (i + 1) (upd r 5 0)) 2 = passF (i + 1) (upd r 5 0) (135 + i) from fun z => z (h51.trans (pass_out hR (by omega) (by omega) (i + 1)).symm))])
      · refine k_iconst (a := 1) (n := 55) dX8_check_54 rfl rfl ?_
        refine il2 (n := 56) dX8_check_55 rfl ?_
        refine k_iadd (n := 57) dX8_check_56 rfl ?_
        refine k_ireturn (ty := .int) dX8_check_57 rfl rfl (Nat.le_refl _) (Nat.le_refl _) ?_
        exact hY I1 i hf1 (by omega) (by rw [← hs, srF, if_pos (show ¬ cntF (passF (i + 1) (upd r 5 0)) 2 = passF (i + 1) (upd r 5 0) (135 + i) from fun z => h51 (z.trans (pass_out hR (by omega) (by omega) (i + 1))))])
set_option maxHeartbeats 2000000 in
set_option maxRecDepth 20000 in
theorem c_check (hd : 7 ≤ d) (hC : CR I r c t) (hR : RI r) (hX : RX r)  : Ct E d mX8_check 0 0 [.ref 0] (kJ I) (kZ I (s_check r)) := by
  have hb := hC.bl
  have hT := hR.TX
  have h8 := hb.c8
  have h4 := hb.t4
  obtain ⟨-, -, -, -, -, ⟨n, hn, h20⟩, -⟩ := id hR
  have en : (r 5).toNatClampNeg = n := by rw [hn]; exact kcl (by omega)
  have hR5 := RI_5 hR
  have hX5 : RX (upd r 5 0) := RX_lo hX (by omega) _ (by omega) (by omega)
  refine Ct.of (L := [some (.ref 0), none, none]) rfl rfl (Nat.le_of_ble_eq_true rfl) ?_
  refine al0 (n := 1) dX8_check_0 rfl ?_
  refine gX8_10 (n := 4) dX8_check_1 rfl rfl rfl rfl ?_
  refine gX8_341 (n := 7) dX8_check_4 rfl rfl rfl ?_
  refine k_top (hC.g6.trans hn) ?_
  refine is1 (n := 8) dX8_check_7 rfl trivial ?_
  refine al0 (n := 9) dX8_check_8 rfl ?_
  refine gX8_10 (n := 12) dX8_check_9 rfl rfl rfl rfl ?_
  refine k_iconst (a := 0) (n := 13) dX8_check_12 rfl rfl ?_
  refine pX8_341 (n := 16) dX8_check_13 rfl rfl rfl ?_
  refine k_gen (fun I1 e1 => ?_)
  have hC1 := hC.p6 hT e1
  have hb1 := hC1.bl
  refine al0 (n := 17) dX8_check_16 rfl ?_
  refine qX8_243 (n := 20) dX8_check_17 rfl rfl (Nat.le_of_ble_eq_true rfl) (by omega) (Nat.le_refl _) (Nat.le_refl _) rfl (c_think (by omega) hC1) ?_
  rintro _ _ ⟨I2, rfl, rfl, hb2, hg2⟩
  dsimp only [Option.toList, List.cons_append, List.nil_append, Nat.add_zero]
  have hf2 := hg2
  refine k_iconst (a := 0) (n := 21) dX8_check_20 rfl rfl ?_
  refine is2 (n := 22) dX8_check_21 rfl trivial ?_
  refine c_check_l (by omega) hC1 hR5 hX5 n h20 _ (fun K i hf hi hs => ?_) (fun K hf hs => ?_) n 0 I2 hb2 hf2 (by omega) rfl
  · exact kZ.to (by simp only [s_check, en]; rw [← hs, if_pos hi]) (kZ_x (hC1.th hf) ((FX.k1 e1 (by decide)).tr (FX.th hf)))
  · exact kZ.to (by simp only [s_check, en]; rw [hs, if_neg (Nat.lt_irrefl n)]) (kZ_x (hC1.th hf) ((FX.k1 e1 (by decide)).tr (FX.th hf)))
end C11

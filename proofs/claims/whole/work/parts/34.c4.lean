section C4
variable {E : kE} {d B c t : Nat} {I : Nat → Nat → Int32} {r : Nat → Int32}
theorem RI.TX {r : Nat → Int32} (hR : RI r) : TX r := fun _ hu => hR.tx hu
theorem held_j : ∀ n, n < 100 → (if nI n - 1 < 0 then (0 : Int32) else nI n - 1) = heldF (nI n - 1) 0 99 := by decide +kernel
theorem held_u : ∀ n, n < 100 → (if (99 : Int32) < nI n + 1 then (99 : Int32) else nI n + 1) = heldF (nI n + 1) 0 99 := by decide +kernel
theorem held_d : ∀ n, n < 100 → (if nI n - 1 < 0 then (0 : Int32) else nI n - 1) = heldF (nI n + -1) 0 99 := by decide +kernel
theorem held_w {a b : Nat} (ha : a < 10000) (hb : b < 10000) : (if (999 : Int32) < nI a + nI b then (999 : Int32) else nI a + nI b) = heldF (nI a + nI b) 0 999 := by
  unfold heldF
  rw [nI_add, if_neg (nI_pos (by omega))]
theorem wear_n {r : Nat → Int32} (hX : RX r) {j : Nat} (hj : j < 8) : ∃ n, wearF r j = nI n ∧ n ≤ 99 := by
  obtain ⟨m, hm, hm9⟩ := hX.m hj
  obtain ⟨l, hl, hl9⟩ := hX.l hj
  have e : ∀ l, l < 100 → nI 0 ≤ 1 + nI l / 10 ∧ 1 + nI l / 10 ≤ nI 99 := by decide +kernel
  obtain ⟨k, -, hk, hk2⟩ := kbt (e l (by omega)) (by decide) (by decide)
  unfold wearF
  rw [hm, hl]
  repeat' split
  all_goals first | exact ⟨0, rfl, by decide⟩ | exact ⟨m, rfl, by omega⟩ | exact ⟨k, hk2, hk⟩ | exact ⟨2, rfl, by decide⟩ | exact ⟨1, rfl, by decide⟩
set_option maxHeartbeats 2000000 in
set_option maxRecDepth 20000 in
theorem c_jump (hd : 2 ≤ d) (hB : BB B) (hb : BL B I r c t) (hR : RI r) (hX : RX r) (i : Nat) (hi : i < c) : Ct E d mX0_jumpOrTrip 0 0 [.ref B, .ref (B + 8 + i)] (kJ I) (kBv B I (jmpF r i (r 0 - r 0 / r 1 * r 1)) c t) := by
  have hT := hR.TX
  have h8 := hb.c8
  obtain ⟨p, hp, hp8⟩ := hR.place (j := i) (by omega)
  have ep : (r (29 + 7 * i + 4)).toNatClampNeg = p := by rw [hp]; exact kcl (by omega)
  obtain ⟨n, hn, h99⟩ := hX.j (j := i) (by omega)
  obtain ⟨x, hx, hx9⟩ := hX.w hp8
  refine Ct.of (L := [some (.ref B), some (.ref (B + 8 + i)), none]) rfl rfl (Nat.le_of_ble_eq_true rfl) ?_
  refine al0 (n := 1) dX0_jumpOrTrip_0 rfl ?_
  refine gX0_9 (n := 4) dX0_jumpOrTrip_1 rfl rfl (hS0 hB) (hP2 hB) ?_
  refine al1 (n := 5) dX0_jumpOrTrip_4 rfl ?_
  refine gX0_90 (n := 8) dX0_jumpOrTrip_5 rfl rfl (hS8 hB (by omega)) ?_
  refine k_top ((BL.cr hb hi (j := 4) (by decide)).trans hp) ?_
  refine j_iald (j := p) (n := 9) dX0_jumpOrTrip_8 rfl (hS1 hB) rfl (by omega) (by decide) ?_
  refine k_top (BL.we hb hp8) ?_
  refine is2 (n := 10) dX0_jumpOrTrip_9 rfl trivial ?_
  refine al0 (n := 11) dX0_jumpOrTrip_10 rfl ?_
  refine gX0_41 (n := 14) dX0_jumpOrTrip_11 rfl rfl (hS0 hB) (hP1 hB) ?_
  refine al1 (n := 15) dX0_jumpOrTrip_14 rfl ?_
  refine gX0_84 (n := 18) dX0_jumpOrTrip_15 rfl rfl (hS8 hB (by omega)) ?_
  refine k_top (BL.cr hb hi (j := 2) (by decide)) ?_
  refine il2 (n := 19) dX0_jumpOrTrip_18 rfl ?_
  refine al0 (n := 20) dX0_jumpOrTrip_19 rfl ?_
  refine qiX0_143 (n := 23) dX0_jumpOrTrip_20 rfl rfl (Nat.le_of_ble_eq_true rfl) (by omega) (hS0 hB) (c_placeIn hB hb hR) (Nat.le_refl _) (Nat.le_refl _) ?_
  refine qX0_103 (n := 26) dX0_jumpOrTrip_23 rfl rfl (Nat.le_of_ble_eq_true rfl) (by omega) (Nat.le_refl _) (Nat.le_refl _) rfl (c_gives1 (by omega) hB hb _ _ _) ?_
  rintro _ _ ⟨I1, rfl, rfl, hb1, hg1⟩
  dsimp only [Option.toList, List.cons_append, List.nil_append, Nat.add_zero]
  have hf1 := hg1
  refine k_iconst (a := 1) (n := 27) dX0_jumpOrTrip_26 rfl rfl ?_
  refine k_icmp_ne (t := 68) (n := 30) dX0_jumpOrTrip_27 (by decide) rfl (fun h27 => ?_) (fun h27 => ?_)
  · refine al1 (n := 69) dX0_jumpOrTrip_68 rfl ?_
    refine k_iconst (a := 3) (n := 70) dX0_jumpOrTrip_69 rfl rfl ?_
    refine pX0_93 (n := 73) dX0_jumpOrTrip_70 rfl rfl (hS8 hB (by omega)) ?_
    refine k_gen (fun I2 e2 => ?_)
    have hb2 := BL.sc hb1 hB hT hi (by decide) e2
    have hT2 := TX.ob hb2 hT (by omega)
    have hf2 := hf1.tr (FB.c (by omega) e2)
    refine k_return dX0_jumpOrTrip_73 rfl (Nat.le_refl _) (Nat.le_refl _) ?_
    refine ⟨I2, rfl, rfl, ?_, hf2⟩
    simp only [jmpF, ep, if_neg h27]
    first | exact hb2 | (rw [show upd r (29 + 7 * i + 6) (heldF (r (29 + 7 * i + 6) - 1) 0 99) (13 + p) = r (13 + p) from pk_un (by omega)]; exact hb2)
  · refine al1 (n := 31) dX0_jumpOrTrip_30 rfl ?_
    refine al1 (n := 32) dX0_jumpOrTrip_31 rfl ?_
    refine gX0_96 (n := 35) dX0_jumpOrTrip_32 rfl rfl (hS8 hB (by omega)) ?_
    refine k_top (BL.cr hb1 hi (j := 6) (by decide)) ?_
    refine k_iconst (a := 1) (n := 36) dX0_jumpOrTrip_35 rfl rfl ?_
    refine k_isub (n := 37) dX0_jumpOrTrip_36 rfl ?_
    refine k_iconst (a := 0) (n := 38) dX0_jumpOrTrip_37 rfl rfl ?_
    refine qX0_121 (n := 41) dX0_jumpOrTrip_38 rfl rfl (Nat.le_of_ble_eq_true rfl) (Nat.le_refl _) (Nat.le_refl _) ?_
    rw [hn, held_j n (by omega), ← hn]
    refine pX0_96 (n := 44) dX0_jumpOrTrip_41 rfl rfl (hS8 hB (by omega)) ?_
    refine k_gen (fun I3 e3 => ?_)
    have hb3 := BL.sc hb1 hB hT hi (by decide) e3
    have hT3 := TX.ob hb3 hT (by omega)
    have hf3 := hf1.tr (FB.c (by omega) e3)
    refine al0 (n := 45) dX0_jumpOrTrip_44 rfl ?_
    refine gX0_9 (n := 48) dX0_jumpOrTrip_45 rfl rfl (hS0 hB) (hP2 hB) ?_
    refine al1 (n := 49) dX0_jumpOrTrip_48 rfl ?_
    refine gX0_90 (n := 52) dX0_jumpOrTrip_49 rfl rfl (hS8 hB (by omega)) ?_
    refine k_top ((BL.cr hb3 hi (j := 4) (by decide)).trans ((pk_un (by omega)).trans hp)) ?_
    refine il2 (n := 53) dX0_jumpOrTrip_52 rfl ?_
    refine al1 (n := 54) dX0_jumpOrTrip_53 rfl ?_
    have hR2 : RI (upd r (29 + 7 * i + 6) (heldF (r (29 + 7 * i + 6) - 1) 0 99)) := RI_j hR (by omega) (Or.inr rfl) _
    have hX2 : RX (upd r (29 + 7 * i + 6) (heldF (r (29 + 7 * i + 6) - 1) 0 99)) := RX_c6 hX (by omega) (by obtain ⟨n, h1, -, h2⟩ := held_n (r (29 + 7 * i + 6) - 1) (a := 0) (b := 99) (by decide) (by decide); exact ⟨n, h1, h2⟩)
    obtain ⟨g, hg, hg9⟩ := wear_n hX2 (j := i) (by omega)
    refine qiX0_167 (n := 57) dX0_jumpOrTrip_54 rfl rfl (Nat.le_of_ble_eq_true rfl) (by omega) (hS8 hB (by omega)) (c_wears hB hb3 hR2 i hi) (Nat.le_refl _) (Nat.le_refl _) ?_
    refine k_iadd (n := 58) dX0_jumpOrTrip_57 rfl ?_
    refine k_sipush (a := 999) (n := 61) dX0_jumpOrTrip_58 rfl rfl ?_
    refine qX0_154 (n := 64) dX0_jumpOrTrip_61 rfl rfl (Nat.le_of_ble_eq_true rfl) (Nat.le_refl _) (Nat.le_refl _) ?_
    rw [hg, hx, held_w (by omega) (by omega), ← hg, ← hx]
    refine j_iast (j := p) (n := 65) dX0_jumpOrTrip_64 rfl (hS1 hB) rfl (by omega) (by decide) ?_
    refine k_gen (fun I4 e4 => ?_)
    have hb4 := BL.sw hb3 hB hT3 hp8 e4
    have hT4 := TX.ob hb4 hT3 (by omega)
    have hf4 := hf3.tr (FB.w e4)
    refine k_goto (n := 73) dX0_jumpOrTrip_65 (by decide) ?_
    refine k_return dX0_jumpOrTrip_73 rfl (Nat.le_refl _) (Nat.le_refl _) ?_
    refine ⟨I4, rfl, rfl, ?_, hf4⟩
    simp only [jmpF, ep, if_pos h27]
    first | exact hb4 | (rw [show upd r (29 + 7 * i + 6) (heldF (r (29 + 7 * i + 6) - 1) 0 99) (13 + p) = r (13 + p) from pk_un (by omega)]; exact hb4)
set_option maxHeartbeats 2000000 in
set_option maxRecDepth 20000 in
theorem c_meet (hd : 3 ≤ d) (hB : BB B) (hb : BL B I r c t) (hR : RI r) (hX : RX r) (i : Nat) (hi : i < c) : Ct E d mX0_meetRope 0 0 [.ref B, .ref (B + 8 + i), .int (kb ((r 12 >>> (nI i &&& 31)) &&& 1 = 1)), .int (kb ((r 10 >>> ((r 0 - r 0 / r 1 * r 1) &&& 31)) &&& 1 = 1))] (kJ I) (kBv B I (movF r i) c t) := by
  have hT := hR.TX
  have h8 := hb.c8
  have eM := hb.eM
  refine Ct.of (L := [some (.ref B), some (.ref (B + 8 + i)), some (.int (kb ((r 12 >>> (nI i &&& 31)) &&& 1 = 1))), some (.int (kb ((r 10 >>> ((r 0 - r 0 / r 1 * r 1) &&& 31)) &&& 1 = 1)))]) rfl rfl (Nat.le_of_ble_eq_true rfl) ?_
  refine al1 (n := 1) dX0_meetRope_0 rfl ?_
  refine gX0_93 (n := 4) dX0_meetRope_1 rfl rfl (hS8 hB (by omega)) ?_
  refine k_top (BL.cr hb hi (j := 5) (by decide)) ?_
  refine k_iconst (a := 1) (n := 5) dX0_meetRope_4 rfl rfl ?_
  refine k_icmp_ne (t := 20) (n := 8) dX0_meetRope_5 (by decide) rfl (fun h5 => ?_) (fun h5 => ?_)
  · refine al1 (n := 21) dX0_meetRope_20 rfl ?_
    refine gX0_93 (n := 24) dX0_meetRope_21 rfl rfl (hS8 hB (by omega)) ?_
    refine k_top (BL.cr hb hi (j := 5) (by decide)) ?_
    refine k_iconst (a := 1) (n := 25) dX0_meetRope_24 rfl rfl ?_
    refine k_icmp_ne (t := 43) (n := 28) dX0_meetRope_25 (by decide) rfl (fun h25 => ?_) (fun h25 => ?_)
    · refine al1 (n := 44) dX0_meetRope_43 rfl ?_
      refine gX0_93 (n := 47) dX0_meetRope_44 rfl rfl (hS8 hB (by omega)) ?_
      refine k_top (BL.cr hb hi (j := 5) (by decide)) ?_
      refine k_if_ne (t := 83) (n := 50) dX0_meetRope_47 (by decide) rfl (fun h47 => ?_) (fun h47 => ?_)
      · refine k_return dX0_meetRope_83 rfl (Nat.le_refl _) (Nat.le_refl _) ?_
        first
          | exact absurd h5 h25
          | exact absurd h25 h5
          | (refine ⟨I, rfl, rfl, ?_, (FB.rf _ _)⟩
             simp only [movF, if_neg h5, if_neg h25, if_neg h47]
             exact hb)
          | (refine ⟨I, rfl, rfl, ?_, (FB.rf _ _)⟩
             simp only [movF, if_neg h5, if_neg h5, if_neg h25, if_neg h47]
             exact hb)
          | (have h0 : ¬ r (29 + 7 * i + 5) = 0 := fun q => by rw [h5] at q; exact absurd q (by decide)
             exact absurd h47 h0)
          | (refine ⟨I, rfl, rfl, ?_, (FB.rf _ _)⟩
             simp only [movF, if_neg h5, if_neg h25, if_neg h47]
             exact hb)
      · refine il2 (n := 51) dX0_meetRope_50 rfl ?_
        refine k_ifb_eq (t := 83) (n := 54) dX0_meetRope_51 (by decide) rfl (fun h51 => ?_) (fun h51 => ?_)
        · refine k_return dX0_meetRope_83 rfl (Nat.le_refl _) (Nat.le_refl _) ?_
          first
            | exact absurd h5 h25
            | exact absurd h25 h5
            | (refine ⟨I, rfl, rfl, ?_, (FB.rf _ _)⟩
               simp only [movF, if_neg h5, if_neg h25, if_pos h47, if_neg h51]
               exact hb)
            | (refine ⟨I, rfl, rfl, ?_, (FB.rf _ _)⟩
               simp only [movF, if_neg h5, if_neg h5, if_neg h25, if_pos h47, if_neg h51]
               exact hb)
            | (have h0 : ¬ r (29 + 7 * i + 5) = 0 := fun q => by rw [h5] at q; exact absurd q (by decide)
               exact absurd h47 h0)
            | (refine ⟨I, rfl, rfl, ?_, (FB.rf _ _)⟩
               simp only [movF, if_neg h5, if_neg h25, if_pos h47, if_neg h51]
               exact hb)
        · refine il3 (n := 55) dX0_meetRope_54 rfl ?_
          refine k_ifb_ne (t := 83) (n := 58) dX0_meetRope_55 (by decide) rfl (fun h55 => ?_) (fun h55 => ?_)
          · refine k_return dX0_meetRope_83 rfl (Nat.le_refl _) (Nat.le_refl _) ?_
            first
              | exact absurd h5 h25
              | exact absurd h25 h5
              | (refine ⟨I, rfl, rfl, ?_, (FB.rf _ _)⟩
                 simp only [movF, if_neg h5, if_neg h25, if_pos h47, if_pos h51, if_pos h55]
                 exact hb)
              | (refine ⟨I, rfl, rfl, ?_, (FB.rf _ _)⟩
                 simp only [movF, if_neg h5, if_neg h5, if_neg h25, if_pos h47, if_pos h51, if_pos h55]
                 exact hb)
              | (have h0 : ¬ r (29 + 7 * i + 5) = 0 := fun q => by rw [h5] at q; exact absurd q (by decide)
                 exact absurd h47 h0)
              | (refine ⟨I, rfl, rfl, ?_, (FB.rf _ _)⟩
                 simp only [movF, if_neg h5, if_neg h25, if_pos h47, if_pos h51, if_pos h55]
                 exact hb)
          · refine al0 (n := 59) dX0_meetRope_58 rfl ?_
            refine al1 (n := 60) dX0_meetRope_59 rfl ?_
            refine gX0_90 (n := 63) dX0_meetRope_60 rfl rfl (hS8 hB (by omega)) ?_
            refine k_top (BL.cr hb hi (j := 4) (by decide)) ?_
            refine qiX0_160 (n := 66) dX0_meetRope_63 rfl rfl (Nat.le_of_ble_eq_true rfl) (by omega) (hS0 hB) (c_isFree hB hb _) (Nat.le_refl _) (Nat.le_refl _) ?_
            refine k_ifb_eq (t := 83) (n := 69) dX0_meetRope_66 (by decide) rfl (fun h66 => ?_) (fun h66 => ?_)
            · refine k_return dX0_meetRope_83 rfl (Nat.le_refl _) (Nat.le_refl _) ?_
              first
                | exact absurd h5 h25
                | exact absurd h25 h5
                | (refine ⟨I, rfl, rfl, ?_, (FB.rf _ _)⟩
                   simp only [movF, if_neg h5, if_neg h25, if_pos h47, if_pos h51, if_neg h55, if_neg h66]
                   exact hb)
                | (refine ⟨I, rfl, rfl, ?_, (FB.rf _ _)⟩
                   simp only [movF, if_neg h5, if_neg h5, if_neg h25, if_pos h47, if_pos h51, if_neg h55, if_neg h66]
                   exact hb)
                | (have h0 : ¬ r (29 + 7 * i + 5) = 0 := fun q => by rw [h5] at q; exact absurd q (by decide)
                   exact absurd h47 h0)
                | (refine ⟨I, rfl, rfl, ?_, (FB.rf _ _)⟩
                   simp only [movF, if_neg h5, if_neg h25, if_pos h47, if_pos h51, if_neg h55, if_neg h66]
                   exact hb)
            · refine al1 (n := 70) dX0_meetRope_69 rfl ?_
              refine k_iconst (a := 1) (n := 71) dX0_meetRope_70 rfl rfl ?_
              refine pX0_93 (n := 74) dX0_meetRope_71 rfl rfl (hS8 hB (by omega)) ?_
              refine k_gen (fun I1 e1 => ?_)
              have hb1 := BL.sc hb hB hT hi (by decide) e1
              have hT1 := TX.ob hb1 hT (by omega)
              have hf1 := (FB.c (by omega) e1)
              refine al1 (n := 75) dX0_meetRope_74 rfl ?_
              refine al0 (n := 76) dX0_meetRope_75 rfl ?_
              refine al1 (n := 77) dX0_meetRope_76 rfl ?_
              refine qX0_163 (n := 80) dX0_meetRope_77 rfl rfl (Nat.le_of_ble_eq_true rfl) (by omega) (Nat.le_refl _) (Nat.le_refl _) (hS0 hB) (c_needsOf (by omega) hB hb1 (RI_j hR (by omega) (Or.inl rfl) _) i hi) ?_
              rintro _ _ ⟨I2, rfl, rfl, hb2, hg2⟩
              dsimp only [Option.toList, List.cons_append, List.nil_append, Nat.add_zero]
              have hf2 := hf1.tr hg2
              refine pX0_96 (n := 83) dX0_meetRope_80 rfl rfl (hS8 hB (by omega)) ?_
              refine k_gen (fun I3 e3 => ?_)
              have hb3 := BL.sc hb2 hB hT1 hi (by decide) e3
              have hT3 := TX.ob hb3 hT1 (by omega)
              have hf3 := hf2.tr (FB.c (by omega) e3)
              refine k_return dX0_meetRope_83 rfl (Nat.le_refl _) (Nat.le_refl _) ?_
              first
                | exact absurd h5 h25
                | exact absurd h25 h5
                | (refine ⟨I3, rfl, rfl, ?_, hf3⟩
                   simp only [movF, if_neg h5, if_neg h25, if_pos h47, if_pos h51, if_neg h55, if_pos h66]
                   exact hb3)
                | (refine ⟨I3, rfl, rfl, ?_, hf3⟩
                   simp only [movF, if_neg h5, if_neg h5, if_neg h25, if_pos h47, if_pos h51, if_neg h55, if_pos h66]
                   exact hb3)
                | (have h0 : ¬ r (29 + 7 * i + 5) = 0 := fun q => by rw [h5] at q; exact absurd q (by decide)
                   exact absurd h47 h0)
                | (refine ⟨I3, rfl, rfl, ?_, hf3⟩
                   simp only [movF, if_neg h5, if_neg h25, if_pos h47, if_pos h51, if_neg h55, if_pos h66]
                   exact hb3)
    · refine al1 (n := 29) dX0_meetRope_28 rfl ?_
      refine gX0_96 (n := 32) dX0_meetRope_29 rfl rfl (hS8 hB (by omega)) ?_
      refine k_top (BL.cr hb hi (j := 6) (by decide)) ?_
      refine k_if_ne (t := 43) (n := 35) dX0_meetRope_32 (by decide) rfl (fun h32 => ?_) (fun h32 => ?_)
      · refine al1 (n := 44) dX0_meetRope_43 rfl ?_
        refine gX0_93 (n := 47) dX0_meetRope_44 rfl rfl (hS8 hB (by omega)) ?_
        refine k_top (BL.cr hb hi (j := 5) (by decide)) ?_
        refine k_if_ne (t := 83) (n := 50) dX0_meetRope_47 (by decide) rfl (fun h47 => ?_) (fun h47 => ?_)
        · refine k_return dX0_meetRope_83 rfl (Nat.le_refl _) (Nat.le_refl _) ?_
          first
            | exact absurd h5 h25
            | exact absurd h25 h5
            | (refine ⟨I, rfl, rfl, ?_, (FB.rf _ _)⟩
               simp only [movF, if_neg h5, if_pos h25, if_neg h32, if_neg h47]
               exact hb)
            | (refine ⟨I, rfl, rfl, ?_, (FB.rf _ _)⟩
               simp only [movF, if_neg h5, if_neg h5, if_pos h25, if_neg h32, if_neg h47]
               exact hb)
            | (have h0 : ¬ r (29 + 7 * i + 5) = 0 := fun q => by rw [h5] at q; exact absurd q (by decide)
               exact absurd h47 h0)
            | (refine ⟨I, rfl, rfl, ?_, (FB.rf _ _)⟩
               simp only [movF, if_neg h5, if_pos h25, if_neg h32, if_neg h47]
               exact hb)
        · refine il2 (n := 51) dX0_meetRope_50 rfl ?_
          refine k_ifb_eq (t := 83) (n := 54) dX0_meetRope_51 (by decide) rfl (fun h51 => ?_) (fun h51 => ?_)
          · refine k_return dX0_meetRope_83 rfl (Nat.le_refl _) (Nat.le_refl _) ?_
            first
              | exact absurd h5 h25
              | exact absurd h25 h5
              | (refine ⟨I, rfl, rfl, ?_, (FB.rf _ _)⟩
                 simp only [movF, if_neg h5, if_pos h25, if_neg h32, if_pos h47, if_neg h51]
                 exact hb)
              | (refine ⟨I, rfl, rfl, ?_, (FB.rf _ _)⟩
                 simp only [movF, if_neg h5, if_neg h5, if_pos h25, if_neg h32, if_pos h47, if_neg h51]
                 exact hb)
              | (have h0 : ¬ r (29 + 7 * i + 5) = 0 := fun q => by rw [h5] at q; exact absurd q (by decide)
                 exact absurd h47 h0)
              | (refine ⟨I, rfl, rfl, ?_, (FB.rf _ _)⟩
                 simp only [movF, if_neg h5, if_pos h25, if_neg h32, if_pos h47, if_neg h51]
                 exact hb)
          · refine il3 (n := 55) dX0_meetRope_54 rfl ?_
            refine k_ifb_ne (t := 83) (n := 58) dX0_meetRope_55 (by decide) rfl (fun h55 => ?_) (fun h55 => ?_)
            · refine k_return dX0_meetRope_83 rfl (Nat.le_refl _) (Nat.le_refl _) ?_
              first
                | exact absurd h5 h25
                | exact absurd h25 h5
                | (refine ⟨I, rfl, rfl, ?_, (FB.rf _ _)⟩
                   simp only [movF, if_neg h5, if_pos h25, if_neg h32, if_pos h47, if_pos h51, if_pos h55]
                   exact hb)
                | (refine ⟨I, rfl, rfl, ?_, (FB.rf _ _)⟩
                   simp only [movF, if_neg h5, if_neg h5, if_pos h25, if_neg h32, if_pos h47, if_pos h51, if_pos h55]
                   exact hb)
                | (have h0 : ¬ r (29 + 7 * i + 5) = 0 := fun q => by rw [h5] at q; exact absurd q (by decide)
                   exact absurd h47 h0)
                | (refine ⟨I, rfl, rfl, ?_, (FB.rf _ _)⟩
                   simp only [movF, if_neg h5, if_pos h25, if_neg h32, if_pos h47, if_pos h51, if_pos h55]
                   exact hb)
            · refine al0 (n := 59) dX0_meetRope_58 rfl ?_
              refine al1 (n := 60) dX0_meetRope_59 rfl ?_
              refine gX0_90 (n := 63) dX0_meetRope_60 rfl rfl (hS8 hB (by omega)) ?_
              refine k_top (BL.cr hb hi (j := 4) (by decide)) ?_
              refine qiX0_160 (n := 66) dX0_meetRope_63 rfl rfl (Nat.le_of_ble_eq_true rfl) (by omega) (hS0 hB) (c_isFree hB hb _) (Nat.le_refl _) (Nat.le_refl _) ?_
              refine k_ifb_eq (t := 83) (n := 69) dX0_meetRope_66 (by decide) rfl (fun h66 => ?_) (fun h66 => ?_)
              · refine k_return dX0_meetRope_83 rfl (Nat.le_refl _) (Nat.le_refl _) ?_
                first
                  | exact absurd h5 h25
                  | exact absurd h25 h5
                  | (refine ⟨I, rfl, rfl, ?_, (FB.rf _ _)⟩
                     simp only [movF, if_neg h5, if_pos h25, if_neg h32, if_pos h47, if_pos h51, if_neg h55, if_neg h66]
                     exact hb)
                  | (refine ⟨I, rfl, rfl, ?_, (FB.rf _ _)⟩
                     simp only [movF, if_neg h5, if_neg h5, if_pos h25, if_neg h32, if_pos h47, if_pos h51, if_neg h55, if_neg h66]
                     exact hb)
                  | (have h0 : ¬ r (29 + 7 * i + 5) = 0 := fun q => by rw [h5] at q; exact absurd q (by decide)
                     exact absurd h47 h0)
                  | (refine ⟨I, rfl, rfl, ?_, (FB.rf _ _)⟩
                     simp only [movF, if_neg h5, if_pos h25, if_neg h32, if_pos h47, if_pos h51, if_neg h55, if_neg h66]
                     exact hb)
              · refine al1 (n := 70) dX0_meetRope_69 rfl ?_
                refine k_iconst (a := 1) (n := 71) dX0_meetRope_70 rfl rfl ?_
                refine pX0_93 (n := 74) dX0_meetRope_71 rfl rfl (hS8 hB (by omega)) ?_
                refine k_gen (fun I4 e4 => ?_)
                have hb4 := BL.sc hb hB hT hi (by decide) e4
                have hT4 := TX.ob hb4 hT (by omega)
                have hf4 := (FB.c (by omega) e4)
                refine al1 (n := 75) dX0_meetRope_74 rfl ?_
                refine al0 (n := 76) dX0_meetRope_75 rfl ?_
                refine al1 (n := 77) dX0_meetRope_76 rfl ?_
                refine qX0_163 (n := 80) dX0_meetRope_77 rfl rfl (Nat.le_of_ble_eq_true rfl) (by omega) (Nat.le_refl _) (Nat.le_refl _) (hS0 hB) (c_needsOf (by omega) hB hb4 (RI_j hR (by omega) (Or.inl rfl) _) i hi) ?_
                rintro _ _ ⟨I5, rfl, rfl, hb5, hg5⟩
                dsimp only [Option.toList, List.cons_append, List.nil_append, Nat.add_zero]
                have hf5 := hf4.tr hg5
                refine pX0_96 (n := 83) dX0_meetRope_80 rfl rfl (hS8 hB (by omega)) ?_
                refine k_gen (fun I6 e6 => ?_)
                have hb6 := BL.sc hb5 hB hT4 hi (by decide) e6
                have hT6 := TX.ob hb6 hT4 (by omega)
                have hf6 := hf5.tr (FB.c (by omega) e6)
                refine k_return dX0_meetRope_83 rfl (Nat.le_refl _) (Nat.le_refl _) ?_
                first
                  | exact absurd h5 h25
                  | exact absurd h25 h5
                  | (refine ⟨I6, rfl, rfl, ?_, hf6⟩
                     simp only [movF, if_neg h5, if_pos h25, if_neg h32, if_pos h47, if_pos h51, if_neg h55, if_pos h66]
                     exact hb6)
                  | (refine ⟨I6, rfl, rfl, ?_, hf6⟩
                     simp only [movF, if_neg h5, if_neg h5, if_pos h25, if_neg h32, if_pos h47, if_pos h51, if_neg h55, if_pos h66]
                     exact hb6)
                  | (have h0 : ¬ r (29 + 7 * i + 5) = 0 := fun q => by rw [h5] at q; exact absurd q (by decide)
                     exact absurd h47 h0)
                  | (refine ⟨I6, rfl, rfl, ?_, hf6⟩
                     simp only [movF, if_neg h5, if_pos h25, if_neg h32, if_pos h47, if_pos h51, if_neg h55, if_pos h66]
                     exact hb6)
      · refine al1 (n := 36) dX0_meetRope_35 rfl ?_
        refine k_iconst (a := 2) (n := 37) dX0_meetRope_36 rfl rfl ?_
        refine pX0_93 (n := 40) dX0_meetRope_37 rfl rfl (hS8 hB (by omega)) ?_
        refine k_gen (fun I7 e7 => ?_)
        have hb7 := BL.sc hb hB hT hi (by decide) e7
        have hT7 := TX.ob hb7 hT (by omega)
        have hf7 := (FB.c (by omega) e7)
        refine k_goto (n := 83) dX0_meetRope_40 (by decide) ?_
        refine k_return dX0_meetRope_83 rfl (Nat.le_refl _) (Nat.le_refl _) ?_
        first
          | exact absurd h5 h25
          | exact absurd h25 h5
          | (refine ⟨I7, rfl, rfl, ?_, hf7⟩
             simp only [movF, if_neg h5, if_pos h25, if_pos h32]
             exact hb7)
          | (refine ⟨I7, rfl, rfl, ?_, hf7⟩
             simp only [movF, if_neg h5, if_neg h5, if_pos h25, if_pos h32]
             exact hb7)
          | (have h0 : ¬ r (29 + 7 * i + 5) = 0 := fun q => by rw [h5] at q; exact absurd q (by decide)
             exact absurd h47 h0)
          | (refine ⟨I7, rfl, rfl, ?_, hf7⟩
             simp only [movF, if_neg h5, if_pos h25, if_pos h32]
             exact hb7)
  · refine il3 (n := 9) dX0_meetRope_8 rfl ?_
    refine k_ifb_eq (t := 20) (n := 12) dX0_meetRope_9 (by decide) rfl (fun h9 => ?_) (fun h9 => ?_)
    · refine al1 (n := 21) dX0_meetRope_20 rfl ?_
      refine gX0_93 (n := 24) dX0_meetRope_21 rfl rfl (hS8 hB (by omega)) ?_
      refine k_top (BL.cr hb hi (j := 5) (by decide)) ?_
      refine k_iconst (a := 1) (n := 25) dX0_meetRope_24 rfl rfl ?_
      refine k_icmp_ne (t := 43) (n := 28) dX0_meetRope_25 (by decide) rfl (fun h25 => ?_) (fun h25 => ?_)
      · refine al1 (n := 44) dX0_meetRope_43 rfl ?_
        refine gX0_93 (n := 47) dX0_meetRope_44 rfl rfl (hS8 hB (by omega)) ?_
        refine k_top (BL.cr hb hi (j := 5) (by decide)) ?_
        refine k_if_ne (t := 83) (n := 50) dX0_meetRope_47 (by decide) rfl (fun h47 => ?_) (fun h47 => ?_)
        · refine k_return dX0_meetRope_83 rfl (Nat.le_refl _) (Nat.le_refl _) ?_
          first
            | exact absurd h5 h25
            | exact absurd h25 h5
            | (refine ⟨I, rfl, rfl, ?_, (FB.rf _ _)⟩
               simp only [movF, if_pos h5, if_neg h9, if_neg h25, if_neg h47]
               exact hb)
            | (refine ⟨I, rfl, rfl, ?_, (FB.rf _ _)⟩
               simp only [movF, if_neg h5, if_pos h5, if_neg h9, if_neg h25, if_neg h47]
               exact hb)
            | (have h0 : ¬ r (29 + 7 * i + 5) = 0 := fun q => by rw [h5] at q; exact absurd q (by decide)
               exact absurd h47 h0)
            | (refine ⟨I, rfl, rfl, ?_, (FB.rf _ _)⟩
               simp only [movF, if_pos h5, if_neg h9, if_neg h25, if_neg h47]
               exact hb)
        · refine il2 (n := 51) dX0_meetRope_50 rfl ?_
          refine k_ifb_eq (t := 83) (n := 54) dX0_meetRope_51 (by decide) rfl (fun h51 => ?_) (fun h51 => ?_)
          · refine k_return dX0_meetRope_83 rfl (Nat.le_refl _) (Nat.le_refl _) ?_
            first
              | exact absurd h5 h25
              | exact absurd h25 h5
              | (refine ⟨I, rfl, rfl, ?_, (FB.rf _ _)⟩
                 simp only [movF, if_pos h5, if_neg h9, if_neg h25, if_pos h47, if_neg h51]
                 exact hb)
              | (refine ⟨I, rfl, rfl, ?_, (FB.rf _ _)⟩
                 simp only [movF, if_neg h5, if_pos h5, if_neg h9, if_neg h25, if_pos h47, if_neg h51]
                 exact hb)
              | (have h0 : ¬ r (29 + 7 * i + 5) = 0 := fun q => by rw [h5] at q; exact absurd q (by decide)
                 exact absurd h47 h0)
              | (refine ⟨I, rfl, rfl, ?_, (FB.rf _ _)⟩
                 simp only [movF, if_pos h5, if_neg h9, if_neg h25, if_pos h47, if_neg h51]
                 exact hb)
          · refine il3 (n := 55) dX0_meetRope_54 rfl ?_
            refine k_ifb_ne (t := 83) (n := 58) dX0_meetRope_55 (by decide) rfl (fun h55 => ?_) (fun h55 => ?_)
            · refine k_return dX0_meetRope_83 rfl (Nat.le_refl _) (Nat.le_refl _) ?_
              first
                | exact absurd h5 h25
                | exact absurd h25 h5
                | (refine ⟨I, rfl, rfl, ?_, (FB.rf _ _)⟩
                   simp only [movF, if_pos h5, if_neg h9, if_neg h25, if_pos h47, if_pos h51, if_pos h55]
                   exact hb)
                | (refine ⟨I, rfl, rfl, ?_, (FB.rf _ _)⟩
                   simp only [movF, if_neg h5, if_pos h5, if_neg h9, if_neg h25, if_pos h47, if_pos h51, if_pos h55]
                   exact hb)
                | (have h0 : ¬ r (29 + 7 * i + 5) = 0 := fun q => by rw [h5] at q; exact absurd q (by decide)
                   exact absurd h47 h0)
                | (refine ⟨I, rfl, rfl, ?_, (FB.rf _ _)⟩
                   simp only [movF, if_pos h5, if_neg h9, if_neg h25, if_pos h47, if_pos h51, if_pos h55]
                   exact hb)
            · refine al0 (n := 59) dX0_meetRope_58 rfl ?_
              refine al1 (n := 60) dX0_meetRope_59 rfl ?_
              refine gX0_90 (n := 63) dX0_meetRope_60 rfl rfl (hS8 hB (by omega)) ?_
              refine k_top (BL.cr hb hi (j := 4) (by decide)) ?_
              refine qiX0_160 (n := 66) dX0_meetRope_63 rfl rfl (Nat.le_of_ble_eq_true rfl) (by omega) (hS0 hB) (c_isFree hB hb _) (Nat.le_refl _) (Nat.le_refl _) ?_
              refine k_ifb_eq (t := 83) (n := 69) dX0_meetRope_66 (by decide) rfl (fun h66 => ?_) (fun h66 => ?_)
              · refine k_return dX0_meetRope_83 rfl (Nat.le_refl _) (Nat.le_refl _) ?_
                first
                  | exact absurd h5 h25
                  | exact absurd h25 h5
                  | (refine ⟨I, rfl, rfl, ?_, (FB.rf _ _)⟩
                     simp only [movF, if_pos h5, if_neg h9, if_neg h25, if_pos h47, if_pos h51, if_neg h55, if_neg h66]
                     exact hb)
                  | (refine ⟨I, rfl, rfl, ?_, (FB.rf _ _)⟩
                     simp only [movF, if_neg h5, if_pos h5, if_neg h9, if_neg h25, if_pos h47, if_pos h51, if_neg h55, if_neg h66]
                     exact hb)
                  | (have h0 : ¬ r (29 + 7 * i + 5) = 0 := fun q => by rw [h5] at q; exact absurd q (by decide)
                     exact absurd h47 h0)
                  | (refine ⟨I, rfl, rfl, ?_, (FB.rf _ _)⟩
                     simp only [movF, if_pos h5, if_neg h9, if_neg h25, if_pos h47, if_pos h51, if_neg h55, if_neg h66]
                     exact hb)
              · refine al1 (n := 70) dX0_meetRope_69 rfl ?_
                refine k_iconst (a := 1) (n := 71) dX0_meetRope_70 rfl rfl ?_
                refine pX0_93 (n := 74) dX0_meetRope_71 rfl rfl (hS8 hB (by omega)) ?_
                refine k_gen (fun I8 e8 => ?_)
                have hb8 := BL.sc hb hB hT hi (by decide) e8
                have hT8 := TX.ob hb8 hT (by omega)
                have hf8 := (FB.c (by omega) e8)
                refine al1 (n := 75) dX0_meetRope_74 rfl ?_
                refine al0 (n := 76) dX0_meetRope_75 rfl ?_
                refine al1 (n := 77) dX0_meetRope_76 rfl ?_
                refine qX0_163 (n := 80) dX0_meetRope_77 rfl rfl (Nat.le_of_ble_eq_true rfl) (by omega) (Nat.le_refl _) (Nat.le_refl _) (hS0 hB) (c_needsOf (by omega) hB hb8 (RI_j hR (by omega) (Or.inl rfl) _) i hi) ?_
                rintro _ _ ⟨I9, rfl, rfl, hb9, hg9⟩
                dsimp only [Option.toList, List.cons_append, List.nil_append, Nat.add_zero]
                have hf9 := hf8.tr hg9
                refine pX0_96 (n := 83) dX0_meetRope_80 rfl rfl (hS8 hB (by omega)) ?_
                refine k_gen (fun I10 e10 => ?_)
                have hb10 := BL.sc hb9 hB hT8 hi (by decide) e10
                have hT10 := TX.ob hb10 hT8 (by omega)
                have hf10 := hf9.tr (FB.c (by omega) e10)
                refine k_return dX0_meetRope_83 rfl (Nat.le_refl _) (Nat.le_refl _) ?_
                first
                  | exact absurd h5 h25
                  | exact absurd h25 h5
                  | (refine ⟨I10, rfl, rfl, ?_, hf10⟩
                     simp only [movF, if_pos h5, if_neg h9, if_neg h25, if_pos h47, if_pos h51, if_neg h55, if_pos h66]
                     exact hb10)
                  | (refine ⟨I10, rfl, rfl, ?_, hf10⟩
                     simp only [movF, if_neg h5, if_pos h5, if_neg h9, if_neg h25, if_pos h47, if_pos h51, if_neg h55, if_pos h66]
                     exact hb10)
                  | (have h0 : ¬ r (29 + 7 * i + 5) = 0 := fun q => by rw [h5] at q; exact absurd q (by decide)
                     exact absurd h47 h0)
                  | (refine ⟨I10, rfl, rfl, ?_, hf10⟩
                     simp only [movF, if_pos h5, if_neg h9, if_neg h25, if_pos h47, if_pos h51, if_neg h55, if_pos h66]
                     exact hb10)
      · refine al1 (n := 29) dX0_meetRope_28 rfl ?_
        refine gX0_96 (n := 32) dX0_meetRope_29 rfl rfl (hS8 hB (by omega)) ?_
        refine k_top (BL.cr hb hi (j := 6) (by decide)) ?_
        refine k_if_ne (t := 43) (n := 35) dX0_meetRope_32 (by decide) rfl (fun h32 => ?_) (fun h32 => ?_)
        · refine al1 (n := 44) dX0_meetRope_43 rfl ?_
          refine gX0_93 (n := 47) dX0_meetRope_44 rfl rfl (hS8 hB (by omega)) ?_
          refine k_top (BL.cr hb hi (j := 5) (by decide)) ?_
          refine k_if_ne (t := 83) (n := 50) dX0_meetRope_47 (by decide) rfl (fun h47 => ?_) (fun h47 => ?_)
          · refine k_return dX0_meetRope_83 rfl (Nat.le_refl _) (Nat.le_refl _) ?_
            first
              | exact absurd h5 h25
              | exact absurd h25 h5
              | (refine ⟨I, rfl, rfl, ?_, (FB.rf _ _)⟩
                 simp only [movF, if_pos h5, if_neg h9, if_pos h25, if_neg h32, if_neg h47]
                 exact hb)
              | (refine ⟨I, rfl, rfl, ?_, (FB.rf _ _)⟩
                 simp only [movF, if_neg h5, if_pos h5, if_neg h9, if_pos h25, if_neg h32, if_neg h47]
                 exact hb)
              | (have h0 : ¬ r (29 + 7 * i + 5) = 0 := fun q => by rw [h5] at q; exact absurd q (by decide)
                 exact absurd h47 h0)
              | (refine ⟨I, rfl, rfl, ?_, (FB.rf _ _)⟩
                 simp only [movF, if_pos h5, if_neg h9, if_pos h25, if_neg h32, if_neg h47]
                 exact hb)
          · refine il2 (n := 51) dX0_meetRope_50 rfl ?_
            refine k_ifb_eq (t := 83) (n := 54) dX0_meetRope_51 (by decide) rfl (fun h51 => ?_) (fun h51 => ?_)
            · refine k_return dX0_meetRope_83 rfl (Nat.le_refl _) (Nat.le_refl _) ?_
              first
                | exact absurd h5 h25
                | exact absurd h25 h5
                | (refine ⟨I, rfl, rfl, ?_, (FB.rf _ _)⟩
                   simp only [movF, if_pos h5, if_neg h9, if_pos h25, if_neg h32, if_pos h47, if_neg h51]
                   exact hb)
                | (refine ⟨I, rfl, rfl, ?_, (FB.rf _ _)⟩
                   simp only [movF, if_neg h5, if_pos h5, if_neg h9, if_pos h25, if_neg h32, if_pos h47, if_neg h51]
                   exact hb)
                | (have h0 : ¬ r (29 + 7 * i + 5) = 0 := fun q => by rw [h5] at q; exact absurd q (by decide)
                   exact absurd h47 h0)
                | (refine ⟨I, rfl, rfl, ?_, (FB.rf _ _)⟩
                   simp only [movF, if_pos h5, if_neg h9, if_pos h25, if_neg h32, if_pos h47, if_neg h51]
                   exact hb)
            · refine il3 (n := 55) dX0_meetRope_54 rfl ?_
              refine k_ifb_ne (t := 83) (n := 58) dX0_meetRope_55 (by decide) rfl (fun h55 => ?_) (fun h55 => ?_)
              · refine k_return dX0_meetRope_83 rfl (Nat.le_refl _) (Nat.le_refl _) ?_
                first
                  | exact absurd h5 h25
                  | exact absurd h25 h5
                  | (refine ⟨I, rfl, rfl, ?_, (FB.rf _ _)⟩
                     simp only [movF, if_pos h5, if_neg h9, if_pos h25, if_neg h32, if_pos h47, if_pos h51, if_pos h55]
                     exact hb)
                  | (refine ⟨I, rfl, rfl, ?_, (FB.rf _ _)⟩
                     simp only [movF, if_neg h5, if_pos h5, if_neg h9, if_pos h25, if_neg h32, if_pos h47, if_pos h51, if_pos h55]
                     exact hb)
                  | (have h0 : ¬ r (29 + 7 * i + 5) = 0 := fun q => by rw [h5] at q; exact absurd q (by decide)
                     exact absurd h47 h0)
                  | (refine ⟨I, rfl, rfl, ?_, (FB.rf _ _)⟩
                     simp only [movF, if_pos h5, if_neg h9, if_pos h25, if_neg h32, if_pos h47, if_pos h51, if_pos h55]
                     exact hb)
              · refine al0 (n := 59) dX0_meetRope_58 rfl ?_
                refine al1 (n := 60) dX0_meetRope_59 rfl ?_
                refine gX0_90 (n := 63) dX0_meetRope_60 rfl rfl (hS8 hB (by omega)) ?_
                refine k_top (BL.cr hb hi (j := 4) (by decide)) ?_
                refine qiX0_160 (n := 66) dX0_meetRope_63 rfl rfl (Nat.le_of_ble_eq_true rfl) (by omega) (hS0 hB) (c_isFree hB hb _) (Nat.le_refl _) (Nat.le_refl _) ?_
                refine k_ifb_eq (t := 83) (n := 69) dX0_meetRope_66 (by decide) rfl (fun h66 => ?_) (fun h66 => ?_)
                · refine k_return dX0_meetRope_83 rfl (Nat.le_refl _) (Nat.le_refl _) ?_
                  first
                    | exact absurd h5 h25
                    | exact absurd h25 h5
                    | (refine ⟨I, rfl, rfl, ?_, (FB.rf _ _)⟩
                       simp only [movF, if_pos h5, if_neg h9, if_pos h25, if_neg h32, if_pos h47, if_pos h51, if_neg h55, if_neg h66]
                       exact hb)
                    | (refine ⟨I, rfl, rfl, ?_, (FB.rf _ _)⟩
                       simp only [movF, if_neg h5, if_pos h5, if_neg h9, if_pos h25, if_neg h32, if_pos h47, if_pos h51, if_neg h55, if_neg h66]
                       exact hb)
                    | (have h0 : ¬ r (29 + 7 * i + 5) = 0 := fun q => by rw [h5] at q; exact absurd q (by decide)
                       exact absurd h47 h0)
                    | (refine ⟨I, rfl, rfl, ?_, (FB.rf _ _)⟩
                       simp only [movF, if_pos h5, if_neg h9, if_pos h25, if_neg h32, if_pos h47, if_pos h51, if_neg h55, if_neg h66]
                       exact hb)
                · refine al1 (n := 70) dX0_meetRope_69 rfl ?_
                  refine k_iconst (a := 1) (n := 71) dX0_meetRope_70 rfl rfl ?_
                  refine pX0_93 (n := 74) dX0_meetRope_71 rfl rfl (hS8 hB (by omega)) ?_
                  refine k_gen (fun I11 e11 => ?_)
                  have hb11 := BL.sc hb hB hT hi (by decide) e11
                  have hT11 := TX.ob hb11 hT (by omega)
                  have hf11 := (FB.c (by omega) e11)
                  refine al1 (n := 75) dX0_meetRope_74 rfl ?_
                  refine al0 (n := 76) dX0_meetRope_75 rfl ?_
                  refine al1 (n := 77) dX0_meetRope_76 rfl ?_
                  refine qX0_163 (n := 80) dX0_meetRope_77 rfl rfl (Nat.le_of_ble_eq_true rfl) (by omega) (Nat.le_refl _) (Nat.le_refl _) (hS0 hB) (c_needsOf (by omega) hB hb11 (RI_j hR (by omega) (Or.inl rfl) _) i hi) ?_
                  rintro _ _ ⟨I12, rfl, rfl, hb12, hg12⟩
                  dsimp only [Option.toList, List.cons_append, List.nil_append, Nat.add_zero]
                  have hf12 := hf11.tr hg12
                  refine pX0_96 (n := 83) dX0_meetRope_80 rfl rfl (hS8 hB (by omega)) ?_
                  refine k_gen (fun I13 e13 => ?_)
                  have hb13 := BL.sc hb12 hB hT11 hi (by decide) e13
                  have hT13 := TX.ob hb13 hT11 (by omega)
                  have hf13 := hf12.tr (FB.c (by omega) e13)
                  refine k_return dX0_meetRope_83 rfl (Nat.le_refl _) (Nat.le_refl _) ?_
                  first
                    | exact absurd h5 h25
                    | exact absurd h25 h5
                    | (refine ⟨I13, rfl, rfl, ?_, hf13⟩
                       simp only [movF, if_pos h5, if_neg h9, if_pos h25, if_neg h32, if_pos h47, if_pos h51, if_neg h55, if_pos h66]
                       exact hb13)
                    | (refine ⟨I13, rfl, rfl, ?_, hf13⟩
                       simp only [movF, if_neg h5, if_pos h5, if_neg h9, if_pos h25, if_neg h32, if_pos h47, if_pos h51, if_neg h55, if_pos h66]
                       exact hb13)
                    | (have h0 : ¬ r (29 + 7 * i + 5) = 0 := fun q => by rw [h5] at q; exact absurd q (by decide)
                       exact absurd h47 h0)
                    | (refine ⟨I13, rfl, rfl, ?_, hf13⟩
                       simp only [movF, if_pos h5, if_neg h9, if_pos h25, if_neg h32, if_pos h47, if_pos h51, if_neg h55, if_pos h66]
                       exact hb13)
        · refine al1 (n := 36) dX0_meetRope_35 rfl ?_
          refine k_iconst (a := 2) (n := 37) dX0_meetRope_36 rfl rfl ?_
          refine pX0_93 (n := 40) dX0_meetRope_37 rfl rfl (hS8 hB (by omega)) ?_
          refine k_gen (fun I14 e14 => ?_)
          have hb14 := BL.sc hb hB hT hi (by decide) e14
          have hT14 := TX.ob hb14 hT (by omega)
          have hf14 := (FB.c (by omega) e14)
          refine k_goto (n := 83) dX0_meetRope_40 (by decide) ?_
          refine k_return dX0_meetRope_83 rfl (Nat.le_refl _) (Nat.le_refl _) ?_
          first
            | exact absurd h5 h25
            | exact absurd h25 h5
            | (refine ⟨I14, rfl, rfl, ?_, hf14⟩
               simp only [movF, if_pos h5, if_neg h9, if_pos h25, if_pos h32]
               exact hb14)
            | (refine ⟨I14, rfl, rfl, ?_, hf14⟩
               simp only [movF, if_neg h5, if_pos h5, if_neg h9, if_pos h25, if_pos h32]
               exact hb14)
            | (have h0 : ¬ r (29 + 7 * i + 5) = 0 := fun q => by rw [h5] at q; exact absurd q (by decide)
               exact absurd h47 h0)
            | (refine ⟨I14, rfl, rfl, ?_, hf14⟩
               simp only [movF, if_pos h5, if_neg h9, if_pos h25, if_pos h32]
               exact hb14)
    · refine al0 (n := 13) dX0_meetRope_12 rfl ?_
      refine al1 (n := 14) dX0_meetRope_13 rfl ?_
      refine qX0_157 (n := 17) dX0_meetRope_14 rfl rfl (Nat.le_of_ble_eq_true rfl) (by omega) (Nat.le_refl _) (Nat.le_refl _) (hS0 hB) (c_jump (by omega) hB hb hR hX i hi) ?_
      rintro _ _ ⟨I15, rfl, rfl, hb15, hg15⟩
      dsimp only [Option.toList, List.cons_append, List.nil_append, Nat.add_zero]
      have hf15 := hg15
      refine k_goto (n := 83) dX0_meetRope_17 (by decide) ?_
      refine k_return dX0_meetRope_83 rfl (Nat.le_refl _) (Nat.le_refl _) ?_
      first
        | exact absurd h5 h25
        | exact absurd h25 h5
        | (refine ⟨I15, rfl, rfl, ?_, hf15⟩
           simp only [movF, if_pos h5, if_pos h9]
           exact hb15)
        | (refine ⟨I15, rfl, rfl, ?_, hf15⟩
           simp only [movF, if_neg h5, if_pos h5, if_pos h9]
           exact hb15)
        | (have h0 : ¬ r (29 + 7 * i + 5) = 0 := fun q => by rw [h5] at q; exact absurd q (by decide)
           exact absurd h47 h0)
        | (refine ⟨I15, rfl, rfl, ?_, hf15⟩
           simp only [movF, if_pos h5, if_pos h9]
           exact hb15)
set_option maxHeartbeats 2000000 in
set_option maxRecDepth 20000 in
theorem c_let_l (hd : 1 ≤ d) (hB : BB B) {s : Prop} [Decidable s] (hs : s) (hR : RI r) (Q : Option Value → kM → Prop) (hQ : ∀ K, BL B K (crsF s r c) c t → FB B I K → Q none (kJ K)) (m : Nat) : ∀ (i : Nat) (J : Nat → Nat → Int32) (x2 : Option Value), BL B J (crsF s r i) c t → FB B I J → i + m = c → Wd E d mX0_letAllOver 0 0 0 0 2 [some (.ref B), some (.int (nI i)), x2] [] (kJ J) Q := by
  induction m with
  | zero =>
    intro i J x2 hb hf hi
    have e : i = c := by omega
    subst e
    refine il1 (n := 3) dX0_letAllOver_2 rfl ?_
    refine al0 (n := 4) dX0_letAllOver_3 rfl ?_
    refine gX0_59 (n := 7) dX0_letAllOver_4 rfl rfl (hS0 hB) ?_
    refine k_top ((BL.f11 hb).trans hb.c9) ?_
    refine k_icmp_ge (t := 51) (n := 10) dX0_letAllOver_7 (by decide) rfl (fun h7 => ?_) (fun h7 => ?_)
    · refine k_return dX0_letAllOver_51 rfl (Nat.le_refl _) (Nat.le_refl _) ?_
      exact hQ J hb hf
    · exact absurd (Int32.le_refl _) h7
  | succ m ih =>
    intro i J x2 hb hf hi
    have hic : i < c := by omega
    have h8 := hb.c8
    have hT := (RI_crs (st := s) hR i (by omega)).TX
    refine il1 (n := 3) dX0_letAllOver_2 rfl ?_
    refine al0 (n := 4) dX0_letAllOver_3 rfl ?_
    refine gX0_59 (n := 7) dX0_letAllOver_4 rfl rfl (hS0 hB) ?_
    refine k_top ((BL.f11 hb).trans hb.c9) ?_
    refine k_icmp_ge (t := 51) (n := 10) dX0_letAllOver_7 (by decide) rfl (fun h7 => ?_) (fun h7 => ?_)
    · exact absurd h7 (nI_ge (by omega) (by omega))
    · refine al0 (n := 11) dX0_letAllOver_10 rfl ?_
      refine gX0_23 (n := 14) dX0_letAllOver_11 rfl rfl (hS0 hB) (hP4 hB) ?_
      refine il1 (n := 15) dX0_letAllOver_14 rfl ?_
      refine j_aald (j := i) (n := 16) dX0_letAllOver_15 rfl (hS3 hB) hOC rfl (by omega) (by decide) (hP6 hB (by omega)) ?_
      refine as2 (n := 17) dX0_letAllOver_16 rfl trivial ?_
      refine al2 (n := 18) dX0_letAllOver_17 rfl ?_
      refine gX0_93 (n := 21) dX0_letAllOver_18 rfl rfl (hS8 hB (by omega)) ?_
      refine k_top (BL.cr hb hic (j := 5) (by decide)) ?_
      refine k_iconst (a := 1) (n := 22) dX0_letAllOver_21 rfl rfl ?_
      refine k_icmp_eq (t := 40) (n := 25) dX0_letAllOver_22 (by decide) rfl (fun h22 => ?_) (fun h22 => ?_)
      · refine al2 (n := 41) dX0_letAllOver_40 rfl ?_
        refine k_iconst (a := 2) (n := 42) dX0_letAllOver_41 rfl rfl ?_
        refine pX0_93 (n := 45) dX0_letAllOver_42 rfl rfl (hS8 hB (by omega)) ?_
        refine k_gen (fun I1 e1 => ?_)
        have hb1 := BL.sc hb hB hT hic (by decide) e1
        have hT1 := TX.ob hb1 hT (by omega)
        have hf1 := hf.tr (FB.c (by omega) e1)
        refine ii1 (n := 48) dX0_letAllOver_45 rfl (ki1 _) trivial ?_
        rw [nI_1]
        refine k_goto (n := 2) dX0_letAllOver_48 (by decide) ?_
        refine ih (i + 1) I1 _ ?_ hf1 (by omega)
        simp only [crsF, ovrF, if_pos hs, if_neg h7, if_pos h22]
        exact hb1
      · refine al2 (n := 26) dX0_letAllOver_25 rfl ?_
        refine gX0_93 (n := 29) dX0_letAllOver_26 rfl rfl (hS8 hB (by omega)) ?_
        refine k_top (BL.cr hb hic (j := 5) (by decide)) ?_
        refine k_if_ne (t := 45) (n := 32) dX0_letAllOver_29 (by decide) rfl (fun h29 => ?_) (fun h29 => ?_)
        · refine ii1 (n := 48) dX0_letAllOver_45 rfl (ki1 _) trivial ?_
          rw [nI_1]
          refine k_goto (n := 2) dX0_letAllOver_48 (by decide) ?_
          refine ih (i + 1) J _ ?_ hf (by omega)
          simp only [crsF, ovrF, if_pos hs, if_neg h7, if_neg h22, if_neg h29]
          exact hb
        · refine al0 (n := 33) dX0_letAllOver_32 rfl ?_
          refine il1 (n := 34) dX0_letAllOver_33 rfl ?_
          refine qiX0_146 (n := 37) dX0_letAllOver_34 rfl rfl (Nat.le_of_ble_eq_true rfl) (by omega) (hS0 hB) (c_isGoing hB hb _) (Nat.le_refl _) (Nat.le_refl _) ?_
          refine k_ifb_eq (t := 45) (n := 40) dX0_letAllOver_37 (by decide) rfl (fun h37 => ?_) (fun h37 => ?_)
          · refine ii1 (n := 48) dX0_letAllOver_45 rfl (ki1 _) trivial ?_
            rw [nI_1]
            refine k_goto (n := 2) dX0_letAllOver_48 (by decide) ?_
            refine ih (i + 1) J _ ?_ hf (by omega)
            simp only [crsF, ovrF, if_pos hs, if_neg h7, if_neg h22, if_pos h29, if_neg h37]
            exact hb
          · refine al2 (n := 41) dX0_letAllOver_40 rfl ?_
            refine k_iconst (a := 2) (n := 42) dX0_letAllOver_41 rfl rfl ?_
            refine pX0_93 (n := 45) dX0_letAllOver_42 rfl rfl (hS8 hB (by omega)) ?_
            refine k_gen (fun I2 e2 => ?_)
            have hb2 := BL.sc hb hB hT hic (by decide) e2
            have hT2 := TX.ob hb2 hT (by omega)
            have hf2 := hf.tr (FB.c (by omega) e2)
            refine ii1 (n := 48) dX0_letAllOver_45 rfl (ki1 _) trivial ?_
            rw [nI_1]
            refine k_goto (n := 2) dX0_letAllOver_48 (by decide) ?_
            refine ih (i + 1) I2 _ ?_ hf2 (by omega)
            simp only [crsF, ovrF, if_pos hs, if_neg h7, if_neg h22, if_pos h29, if_pos h37]
            exact hb2
set_option maxHeartbeats 2000000 in
set_option maxRecDepth 20000 in
theorem c_let (hd : 1 ≤ d) (hB : BB B) (hb : BL B I r c t) {s : Prop} [Decidable s] (hs : s) (hR : RI r) : Ct E d mX0_letAllOver 0 0 [.ref B] (kJ I) (kBv B I (crsF s r c) c t) := by
  refine Ct.of (L := [some (.ref B), none, none]) rfl rfl (Nat.le_of_ble_eq_true rfl) ?_
  refine k_iconst (a := 0) (n := 1) dX0_letAllOver_0 rfl rfl ?_
  refine is1 (n := 2) dX0_letAllOver_1 rfl trivial ?_
  exact c_let_l hd hB hs hR _ (fun K hK hf => ⟨K, rfl, rfl, hK, hf⟩) c 0 I none hb (FB.rf _ _) (by omega)
set_option maxHeartbeats 2000000 in
set_option maxRecDepth 20000 in
theorem c_tire_l (hB : BB B) (hR : RI r) (hX : RX r) (Q : Option Value → kM → Prop) (hQ : ∀ K, BL B K (tirF r t) c t → FB B I K → Q none (kJ K)) (m : Nat) : ∀ (i : Nat) (J : Nat → Nat → Int32) (x2 : Option Value), BL B J (tirF r i) c t → FB B I J → i + m = t → Wd E d mX0_tireTurners 0 0 0 0 2 [some (.ref B), some (.int (nI i)), x2] [] (kJ J) Q := by
  induction m with
  | zero =>
    intro i J x2 hb hf hi
    have e : i = t := by omega
    subst e
    refine il1 (n := 3) dX0_tireTurners_2 rfl ?_
    refine al0 (n := 4) dX0_tireTurners_3 rfl ?_
    refine gX0_52 (n := 7) dX0_tireTurners_4 rfl rfl (hS0 hB) ?_
    refine k_top ((BL.f9 hb).trans hb.t8) ?_
    refine k_icmp_ge (t := 59) (n := 10) dX0_tireTurners_7 (by decide) rfl (fun h7 => ?_) (fun h7 => ?_)
    · refine k_return dX0_tireTurners_59 rfl (Nat.le_refl _) (Nat.le_refl _) ?_
      exact hQ J hb hf
    · exact absurd (Int32.le_refl _) h7
  | succ m ih =>
    intro i J x2 hb hf hi
    have hic : i < t := by omega
    have h4 := hb.t4
    have hT := (RI_tir hR i (by omega)).TX
    obtain ⟨n, hn, h99⟩ := (RX_tir hX i (by omega)).t (p := i) (by omega)
    refine il1 (n := 3) dX0_tireTurners_2 rfl ?_
    refine al0 (n := 4) dX0_tireTurners_3 rfl ?_
    refine gX0_52 (n := 7) dX0_tireTurners_4 rfl rfl (hS0 hB) ?_
    refine k_top ((BL.f9 hb).trans hb.t8) ?_
    refine k_icmp_ge (t := 59) (n := 10) dX0_tireTurners_7 (by decide) rfl (fun h7 => ?_) (fun h7 => ?_)
    · exact absurd h7 (nI_ge (by omega) (by omega))
    · refine al0 (n := 11) dX0_tireTurners_10 rfl ?_
      refine gX0_17 (n := 14) dX0_tireTurners_11 rfl rfl (hS0 hB) (hP3 hB) ?_
      refine il1 (n := 15) dX0_tireTurners_14 rfl ?_
      refine j_aald (j := i) (n := 16) dX0_tireTurners_15 rfl (hS2 hB) hOT rfl (by omega) (by decide) (hP5 hB (by omega)) ?_
      refine as2 (n := 17) dX0_tireTurners_16 rfl trivial ?_
      refine al2 (n := 18) dX0_tireTurners_17 rfl ?_
      refine il1 (n := 19) dX0_tireTurners_18 rfl ?_
      refine al0 (n := 20) dX0_tireTurners_19 rfl ?_
      refine gX0_68 (n := 23) dX0_tireTurners_20 rfl rfl (hS0 hB) ?_
      refine k_top (BL.f10 hb) ?_
      refine k_icmp_ne (t := 40) (n := 26) dX0_tireTurners_23 (by decide) rfl (fun h23 => ?_) (fun h23 => ?_)
      · refine al2 (n := 41) dX0_tireTurners_40 rfl ?_
        refine gX0_77 (n := 44) dX0_tireTurners_41 rfl rfl (hS4 hB (by omega)) ?_
        refine k_top (BL.tu1 hb hic) ?_
        refine k_iconst (a := 1) (n := 45) dX0_tireTurners_44 rfl rfl ?_
        refine k_isub (n := 46) dX0_tireTurners_45 rfl ?_
        refine k_iconst (a := 0) (n := 47) dX0_tireTurners_46 rfl rfl ?_
        refine qX0_121 (n := 50) dX0_tireTurners_47 rfl rfl (Nat.le_of_ble_eq_true rfl) (Nat.le_refl _) (Nat.le_refl _) ?_
        rw [hn, held_d n (by omega), ← hn]
        refine pX0_77 (n := 53) dX0_tireTurners_50 rfl rfl (hS4 hB (by omega)) ?_
        refine k_gen (fun I1 e1 => ?_)
        have hb1 := BL.st1 hb hB hT hic e1
        have hT1 := TX.ob hb1 hT (by omega)
        have hf1 := hf.tr (FB.t (by omega) e1)
        refine ii1 (n := 56) dX0_tireTurners_53 rfl (ki1 _) trivial ?_
        rw [nI_1]
        refine k_goto (n := 2) dX0_tireTurners_56 (by decide) ?_
        refine ih (i + 1) I1 _ ?_ hf1 (by omega)
        simp only [tirF, if_neg h7, if_neg h23]
        exact hb1
      · refine al2 (n := 27) dX0_tireTurners_26 rfl ?_
        refine gX0_77 (n := 30) dX0_tireTurners_27 rfl rfl (hS4 hB (by omega)) ?_
        refine k_top (BL.tu1 hb hic) ?_
        refine k_iconst (a := 1) (n := 31) dX0_tireTurners_30 rfl rfl ?_
        refine k_iadd (n := 32) dX0_tireTurners_31 rfl ?_
        refine k_bipush (a := 99) (n := 34) dX0_tireTurners_32 rfl rfl ?_
        refine qX0_154 (n := 37) dX0_tireTurners_34 rfl rfl (Nat.le_of_ble_eq_true rfl) (Nat.le_refl _) (Nat.le_refl _) ?_
        rw [hn, held_u n (by omega), ← hn]
        refine k_goto (n := 50) dX0_tireTurners_37 (by decide) ?_
        refine pX0_77 (n := 53) dX0_tireTurners_50 rfl rfl (hS4 hB (by omega)) ?_
        refine k_gen (fun I2 e2 => ?_)
        have hb2 := BL.st1 hb hB hT hic e2
        have hT2 := TX.ob hb2 hT (by omega)
        have hf2 := hf.tr (FB.t (by omega) e2)
        refine ii1 (n := 56) dX0_tireTurners_53 rfl (ki1 _) trivial ?_
        rw [nI_1]
        refine k_goto (n := 2) dX0_tireTurners_56 (by decide) ?_
        refine ih (i + 1) I2 _ ?_ hf2 (by omega)
        simp only [tirF, if_neg h7, if_pos h23]
        exact hb2
set_option maxHeartbeats 2000000 in
set_option maxRecDepth 20000 in
theorem c_tire (hB : BB B) (hb : BL B I r c t) (hR : RI r) (hX : RX r) : Ct E d mX0_tireTurners 0 0 [.ref B] (kJ I) (kBv B I (tirF r t) c t) := by
  refine Ct.of (L := [some (.ref B), none, none]) rfl rfl (Nat.le_of_ble_eq_true rfl) ?_
  refine k_iconst (a := 0) (n := 1) dX0_tireTurners_0 rfl rfl ?_
  refine is1 (n := 2) dX0_tireTurners_1 rfl trivial ?_
  exact c_tire_l hB hR hX _ (fun K hK hf => ⟨K, rfl, rfl, hK, hf⟩) t 0 I none hb (FB.rf _ _) (by omega)
set_option maxHeartbeats 2000000 in
set_option maxRecDepth 20000 in
theorem c_once_l (hd : 4 ≤ d) (hB : BB B) {s : Prop} [Decidable s] (hs : ¬ s) (hR : RI r) (hX : RX r) (Q : Option Value → kM → Prop) (hQ : ∀ K x2, BL B K (crsF s r c) c t → FB B I K → Wd E d mX0_turnOnce 0 0 0 0 71 [some (.ref B), some (.int (kb ((r 10 >>> ((r 0 - r 0 / r 1 * r 1) &&& 31)) &&& 1 = 1))), x2] [] (kJ K) Q) (m : Nat) : ∀ (i : Nat) (J : Nat → Nat → Int32), BL B J (crsF s r i) c t → FB B I J → i + m = c → Wd E d mX0_turnOnce 0 0 0 0 41 [some (.ref B), some (.int (kb ((r 10 >>> ((r 0 - r 0 / r 1 * r 1) &&& 31)) &&& 1 = 1))), some (.int (nI i))] [] (kJ J) Q := by
  induction m with
  | zero =>
    intro i J hb hf hi
    have e : i = c := by omega
    subst e
    refine il2 (n := 42) dX0_turnOnce_41 rfl ?_
    refine al0 (n := 43) dX0_turnOnce_42 rfl ?_
    refine gX0_59 (n := 46) dX0_turnOnce_43 rfl rfl (hS0 hB) ?_
    refine k_top ((BL.f11 hb).trans hb.c9) ?_
    refine k_icmp_ge (t := 71) (n := 49) dX0_turnOnce_46 (by decide) rfl (fun h46 => ?_) (fun h46 => ?_)
    · exact hQ J _ hb hf
    · exact absurd (Int32.le_refl _) h46
  | succ m ih =>
    intro i J hb hf hi
    have hic : i < c := by omega
    have h8 := hb.c8
    have hRi := RI_crs (st := s) hR i (by omega)
    have hXi := RX_crs (st := s) hR hX i (by omega)
    have e10 : crsF s r i 10 = r 10 := crs_fix (by omega) i
    have e0 : crsF s r i 0 = r 0 := crs_fix (by omega) i
    have e1 : crsF s r i 1 = r 1 := crs_fix (by omega) i
    refine il2 (n := 42) dX0_turnOnce_41 rfl ?_
    refine al0 (n := 43) dX0_turnOnce_42 rfl ?_
    refine gX0_59 (n := 46) dX0_turnOnce_43 rfl rfl (hS0 hB) ?_
    refine k_top ((BL.f11 hb).trans hb.c9) ?_
    refine k_icmp_ge (t := 71) (n := 49) dX0_turnOnce_46 (by decide) rfl (fun h46 => ?_) (fun h46 => ?_)
    · exact absurd h46 (nI_ge (by omega) (by omega))
    · refine al0 (n := 50) dX0_turnOnce_49 rfl ?_
      refine al0 (n := 51) dX0_turnOnce_50 rfl ?_
      refine gX0_23 (n := 54) dX0_turnOnce_51 rfl rfl (hS0 hB) (hP4 hB) ?_
      refine il2 (n := 55) dX0_turnOnce_54 rfl ?_
      refine j_aald (j := i) (n := 56) dX0_turnOnce_55 rfl (hS3 hB) hOC rfl (by omega) (by decide) (hP6 hB (by omega)) ?_
      refine al0 (n := 57) dX0_turnOnce_56 rfl ?_
      refine il2 (n := 58) dX0_turnOnce_57 rfl ?_
      refine qiX0_146 (n := 61) dX0_turnOnce_58 rfl rfl (Nat.le_of_ble_eq_true rfl) (by omega) (hS0 hB) (c_isGoing hB hb _) (Nat.le_refl _) (Nat.le_refl _) ?_
      refine il1 (n := 62) dX0_turnOnce_61 rfl ?_
      rw [← e10, ← e0, ← e1]
      refine qX0_150 (n := 65) dX0_turnOnce_62 rfl rfl (Nat.le_of_ble_eq_true rfl) (by omega) (Nat.le_refl _) (Nat.le_refl _) (hS0 hB) (c_meet (by omega) hB hb hRi hXi i hic) ?_
      rintro _ _ ⟨I1, rfl, rfl, hb1, hg1⟩
      dsimp only [Option.toList, List.cons_append, List.nil_append, Nat.add_zero]
      have hf1 := hf.tr hg1
      rw [e10, e0, e1]
      refine ii2 (n := 68) dX0_turnOnce_65 rfl (ki1 _) trivial ?_
      rw [nI_1]
      refine k_goto (n := 41) dX0_turnOnce_68 (by decide) ?_
      refine ih (i + 1) I1 ?_ hf1 (by omega)
      simp only [crsF, if_neg hs]
      exact hb1
set_option maxHeartbeats 2000000 in
set_option maxRecDepth 20000 in
theorem c_once (hd : 5 ≤ d) (hB : BB B) (hb : BL B I r c t) (hR : RI r) (hX : RX r) : Ct E d mX0_turnOnce 0 0 [.ref B] (kJ I) (kBv B I (beatF r) c t) := by
  have h8 := hb.c8
  have h4 := hb.t4
  have hRm := RI_mid hR
  have hXm := RX_mid hR hX
  have key : ∀ (K : Nat → Nat → Int32) (x1 x2 : Option Value), BL B K (crsF (stF r) (mid1 r) c) c t → FB B I K → Wd E d mX0_turnOnce 0 0 0 0 71 [some (.ref B), x1, x2] [] (kJ K) (kBv B I (beatF r) c t) := by
    intro K x1 x2 hK hfK
    have hTK := (RI_crs (st := stF r) hRm c (by omega)).TX
    refine al0 (n := 72) dX0_turnOnce_71 rfl ?_
    refine k_dup (n := 73) dX0_turnOnce_72 rfl rfl ?_
    refine gX0_65 (n := 76) dX0_turnOnce_73 rfl rfl (hS0 hB) ?_
    refine k_top (BL.f8 hK) ?_
    refine k_iconst (a := 1) (n := 77) dX0_turnOnce_76 rfl rfl ?_
    refine k_iadd (n := 78) dX0_turnOnce_77 rfl ?_
    refine pX0_65 (n := 81) dX0_turnOnce_78 rfl rfl (hS0 hB) ?_
    refine k_gen (fun I2 e2 => ?_)
    have hb2 := BL.sf8 hK hB hTK e2
    have hT2 := TX.ob hb2 hTK (by omega)
    have hf2 := hfK.tr (FB.b e2)
    refine k_return dX0_turnOnce_81 rfl (Nat.le_refl _) (Nat.le_refl _) ?_
    refine ⟨I2, rfl, rfl, ?_, hf2⟩
    rw [beatF, hb.eM]
    exact hb2
  refine Ct.of (L := [some (.ref B), none, none]) rfl rfl (Nat.le_of_ble_eq_true rfl) ?_
  refine al0 (n := 1) dX0_turnOnce_0 rfl ?_
  refine qiX0_134 (n := 4) dX0_turnOnce_1 rfl rfl (Nat.le_of_ble_eq_true rfl) (by omega) (hS0 hB) (c_standing (by omega) hB hb hX) (Nat.le_refl _) (Nat.le_refl _) ?_
  refine k_ifb_eq (t := 14) (n := 7) dX0_turnOnce_4 (by decide) rfl (fun h4_ => ?_) (fun h4_ => ?_)
  · refine al0 (n := 15) dX0_turnOnce_14 rfl ?_
    have hm : mid1 r = tirF r t := by rw [mid1, if_neg h4_, hb.eT]
    refine qX0_140 (n := 18) dX0_turnOnce_15 rfl rfl (Nat.le_of_ble_eq_true rfl) (by omega) (Nat.le_refl _) (Nat.le_refl _) (hS0 hB) (c_tire hB hb hR hX) ?_
    rintro _ _ ⟨I1, rfl, rfl, hb1, hg1⟩
    dsimp only [Option.toList, List.cons_append, List.nil_append, Nat.add_zero]
    have hf1 := hg1
    rw [← hm] at hb1
    refine al0 (n := 19) dX0_turnOnce_18 rfl ?_
    refine gX0_34 (n := 22) dX0_turnOnce_19 rfl rfl (hS0 hB) ?_
    refine k_top (BL.f7 hb1) ?_
    refine al0 (n := 23) dX0_turnOnce_22 rfl ?_
    refine qiX0_143 (n := 26) dX0_turnOnce_23 rfl rfl (Nat.le_of_ble_eq_true rfl) (by omega) (hS0 hB) (c_placeIn hB hb1 hRm) (Nat.le_refl _) (Nat.le_refl _) ?_
    refine k_ishr (n := 27) dX0_turnOnce_26 rfl ?_
    refine k_iconst (a := 1) (n := 28) dX0_turnOnce_27 rfl rfl ?_
    refine k_iand (n := 29) dX0_turnOnce_28 rfl ?_
    refine k_iconst (a := 1) (n := 30) dX0_turnOnce_29 rfl rfl ?_
    refine k_icmp_ne (t := 37) (n := 33) dX0_turnOnce_30 (by decide) rfl (fun h30 => ?_) (fun h30 => ?_)
    · refine k_iconst (a := 0) (n := 38) dX0_turnOnce_37 rfl rfl ?_
      rw [show (0 : Int32) = kb ((mid1 r 10 >>> ((mid1 r 0 - mid1 r 0 / mid1 r 1 * mid1 r 1) &&& 31)) &&& 1 = 1) from (kb_f h30).symm]
      refine is1 (n := 39) dX0_turnOnce_38 rfl trivial ?_
      refine k_iconst (a := 0) (n := 40) dX0_turnOnce_39 rfl rfl ?_
      refine is2 (n := 41) dX0_turnOnce_40 rfl trivial ?_
      exact c_once_l (by omega) hB h4_ hRm hXm _ (fun K x2 hK hf => key K _ x2 hK hf) c 0 _ hb1 hf1 (by omega)
    · refine k_iconst (a := 1) (n := 34) dX0_turnOnce_33 rfl rfl ?_
      refine k_goto (n := 38) dX0_turnOnce_34 (by decide) ?_
      rw [show (1 : Int32) = kb ((mid1 r 10 >>> ((mid1 r 0 - mid1 r 0 / mid1 r 1 * mid1 r 1) &&& 31)) &&& 1 = 1) from (kb_t h30).symm]
      refine is1 (n := 39) dX0_turnOnce_38 rfl trivial ?_
      refine k_iconst (a := 0) (n := 40) dX0_turnOnce_39 rfl rfl ?_
      refine is2 (n := 41) dX0_turnOnce_40 rfl trivial ?_
      exact c_once_l (by omega) hB h4_ hRm hXm _ (fun K x2 hK hf => key K _ x2 hK hf) c 0 _ hb1 hf1 (by omega)
  · refine al0 (n := 8) dX0_turnOnce_7 rfl ?_
    have hm : mid1 r = r := if_pos h4_
    refine qX0_137 (n := 11) dX0_turnOnce_8 rfl rfl (Nat.le_of_ble_eq_true rfl) (by omega) (Nat.le_refl _) (Nat.le_refl _) (hS0 hB) (c_let (by omega) hB hb (s := stF r) h4_ hR) ?_
    rintro _ _ ⟨I2, rfl, rfl, hb2, hg2⟩
    dsimp only [Option.toList, List.cons_append, List.nil_append, Nat.add_zero]
    have hf2 := hg2
    refine k_goto (n := 71) dX0_turnOnce_11 (by decide) ?_
    exact key _ _ _ (by rw [hm]; exact hb2) hf2
set_option maxHeartbeats 2000000 in
set_option maxRecDepth 20000 in
theorem c_for_l (hd : 6 ≤ d) (hB : BB B) (hR : RI r) (hX : RX r) (k : Nat) (hk : k ≤ 1000) (Q : Option Value → kM → Prop) (hQ : ∀ K, BL B K (passF k r) c t → FB B I K → Q none (kJ K)) (m : Nat) : ∀ (i : Nat) (J : Nat → Nat → Int32), BL B J (passF i r) c t → FB B I J → i + m = k → Wd E d mX0_turnFor 0 0 0 0 2 [some (.ref B), some (.int (nI k)), some (.int (nI i))] [] (kJ J) Q := by
  induction m with
  | zero =>
    intro i J hb hf hi
    have e : i = k := by omega
    subst e
    refine il2 (n := 3) dX0_turnFor_2 rfl ?_
    refine il1 (n := 4) dX0_turnFor_3 rfl ?_
    refine k_icmp_ge (t := 17) (n := 7) dX0_turnFor_4 (by decide) rfl (fun h4 => ?_) (fun h4 => ?_)
    · refine k_return dX0_turnFor_17 rfl (Nat.le_refl _) (Nat.le_refl _) ?_
      exact hQ J hb hf
    · exact absurd (Int32.le_refl _) h4
  | succ m ih =>
    intro i J hb hf hi
    refine il2 (n := 3) dX0_turnFor_2 rfl ?_
    refine il1 (n := 4) dX0_turnFor_3 rfl ?_
    refine k_icmp_ge (t := 17) (n := 7) dX0_turnFor_4 (by decide) rfl (fun h4 => ?_) (fun h4 => ?_)
    · exact absurd h4 (nI_ge (by omega) (by omega))
    · refine al0 (n := 8) dX0_turnFor_7 rfl ?_
      refine qX0_127 (n := 11) dX0_turnFor_8 rfl rfl (Nat.le_of_ble_eq_true rfl) (by omega) (Nat.le_refl _) (Nat.le_refl _) (hS0 hB) (c_once (by omega) hB hb (RI_pass hR i) (RX_pass hR hX i)) ?_
      rintro _ _ ⟨I1, rfl, rfl, hb1, hg1⟩
      dsimp only [Option.toList, List.cons_append, List.nil_append, Nat.add_zero]
      have hf1 := hf.tr hg1
      refine ii2 (n := 14) dX0_turnFor_11 rfl (ki1 _) trivial ?_
      rw [nI_1]
      refine k_goto (n := 2) dX0_turnFor_14 (by decide) ?_
      exact ih (i + 1) I1 hb1 hf1 (by omega)
set_option maxHeartbeats 2000000 in
set_option maxRecDepth 20000 in
theorem c_for (hd : 6 ≤ d) (hB : BB B) (hb : BL B I r c t) (hR : RI r) (hX : RX r) (k : Nat) (hk : k ≤ 1000) : Ct E d mX0_turnFor 0 0 [.ref B, .int (nI k)] (kJ I) (kBv B I (passF k r) c t) := by
  refine Ct.of (L := [some (.ref B), some (.int (nI k)), none]) rfl rfl (Nat.le_of_ble_eq_true rfl) ?_
  refine k_iconst (a := 0) (n := 1) dX0_turnFor_0 rfl rfl ?_
  refine is2 (n := 2) dX0_turnFor_1 rfl trivial ?_
  exact c_for_l hd hB hR hX k hk _ (fun K hK hf => ⟨K, rfl, rfl, hK, hf⟩) k 0 I hb (FB.rf _ _) (by omega)
end C4

theorem fa_and (a b : Nat) : nI a &&& nI b = nI (a &&& b) := by
  apply Int32.toBitVec_inj.1
  show BitVec.ofNat 32 a &&& BitVec.ofNat 32 b = BitVec.ofNat 32 (a &&& b)
  apply BitVec.eq_of_getLsbD_eq
  intro i hi
  simp [hi]
theorem fa_or (a b : Nat) : nI a ||| nI b = nI (a ||| b) := by
  apply Int32.toBitVec_inj.1
  show BitVec.ofNat 32 a ||| BitVec.ofNat 32 b = BitVec.ofNat 32 (a ||| b)
  apply BitVec.eq_of_getLsbD_eq
  intro i hi
  simp [hi]
/-- how many of the low eight bits are set -/
def pcN (k : Nat) : Nat := k % 2 + k / 2 % 2 + k / 4 % 2 + k / 8 % 2 + k / 16 % 2 + k / 32 % 2 + k / 64 % 2 + k / 128 % 2
theorem pcN_step : ∀ b, b < 256 → b ≠ 0 → pcN (b &&& (b - 1)) + 1 = pcN b ∧ (b &&& (b - 1)) < b := by decide +kernel
theorem pcN_0 : pcN 0 = 0 := rfl
theorem pcN_le : ∀ b, b < 256 → pcN b ≤ 8 := by decide +kernel
theorem kne0 {b : Nat} (h : b < 1000) (h0 : nI b = 0) : b = 0 := by
  rcases Nat.eq_zero_or_pos b with e | e
  · exact e
  · exact absurd h0 (nI_ne0 e (by omega))
section M4
variable {E : kE} {d : Nat} {I : Nat → Nat → Int32} {r : Nat → Int32}
set_option maxHeartbeats 2000000 in
set_option maxRecDepth 20000 in
theorem m_bits_l (k : Nat) (m : Nat) : ∀ (a b : Nat) (s : Int32), b ≤ m → b < 256 → a + pcN b = pcN k → Wd E d mX9_bits 0 0 0 0 4 [some (.int s), some (.int (nI a)), some (.int (nI b))] [] (kJ I) (kR (nI (pcN k)) I) := by
  induction m with
  | zero =>
    intro a b s hb h2 h3
    have e : b = 0 := by omega
    subst e
    refine il2 (n := 5) dX9_bits_4 rfl ?_
    refine k_if_eq (t := 20) (n := 8) dX9_bits_5 (by decide) rfl (fun h5 => ?_) (fun h5 => ?_)
    · refine il1 (n := 21) dX9_bits_20 rfl ?_
      refine k_ireturn (ty := .int) dX9_bits_21 rfl rfl (Nat.le_refl _) (Nat.le_refl _) ?_
      exact ⟨by rw [← h3, pcN_0, Nat.add_zero], rfl⟩
    · exact absurd rfl h5
  | succ m ih =>
    intro a b s hb h2 h3
    refine il2 (n := 5) dX9_bits_4 rfl ?_
    refine k_if_eq (t := 20) (n := 8) dX9_bits_5 (by decide) rfl (fun h5 => ?_) (fun h5 => ?_)
    · refine il1 (n := 21) dX9_bits_20 rfl ?_
      refine k_ireturn (ty := .int) dX9_bits_21 rfl rfl (Nat.le_refl _) (Nat.le_refl _) ?_
      exact ⟨by rw [kne0 (by omega) h5, pcN_0, Nat.add_zero] at h3; rw [h3], rfl⟩
    · refine ii1 (n := 11) dX9_bits_8 rfl (ki1 _) trivial ?_
      rw [nI_1]
      refine il2 (n := 12) dX9_bits_11 rfl ?_
      refine il2 (n := 13) dX9_bits_12 rfl ?_
      refine k_iconst (a := 1) (n := 14) dX9_bits_13 rfl rfl ?_
      refine k_isub (n := 15) dX9_bits_14 rfl ?_
      refine k_iand (n := 16) dX9_bits_15 rfl ?_
      have h0 : b ≠ 0 := fun e => h5 (by rw [e]; rfl)
      rw [show nI b - 1 = nI (b - 1) from pk_sub (a := b) (b := 1) (by omega), fa_and]
      refine is2 (n := 17) dX9_bits_16 rfl trivial ?_
      refine k_goto (n := 4) dX9_bits_17 (by decide) ?_
      obtain ⟨g1, g2⟩ := pcN_step b h2 h0
      exact ih (a + 1) _ s (by omega) (by omega) (by omega)
set_option maxHeartbeats 2000000 in
set_option maxRecDepth 20000 in
theorem m_bits (k : Nat) (hk : k < 256) : Ct E d mX9_bits 0 0 [.int (nI k)] (kJ I) (kR (nI (pcN k)) I) := by
  refine Ct.of (L := [some (.int (nI k)), none, none]) rfl rfl (Nat.le_of_ble_eq_true rfl) ?_
  refine k_iconst (a := 0) (n := 1) dX9_bits_0 rfl rfl ?_
  refine is1 (n := 2) dX9_bits_1 rfl trivial ?_
  refine il0 (n := 3) dX9_bits_2 rfl ?_
  refine is2 (n := 4) dX9_bits_3 rfl trivial ?_
  exact m_bits_l k k 0 k _ (Nat.le_refl _) hk (by omega)
/-- who of the first n are so -/
def setF (r : Nat → Int32) (h : Int32) : Nat → Int32
  | 0 => 0
  | n + 1 => setF r h n ||| (if r (29 + 7 * n + 5) = h then (1 : Int32) <<< (nI n &&& 31) else 0)
def sMany (r : Nat → Int32) : Nat := (r 9).toNatClampNeg
set_option maxHeartbeats 2000000 in
set_option maxRecDepth 20000 in
theorem m_setOf_l (h : Int32) (c : Nat) (hc : r 9 = nI c) (h8 : c ≤ 8) (hd : 1 ≤ d) (m : Nat) : ∀ (i : Nat), i + m = c → Wd E d mX9_setOf 0 0 0 0 4 [some (.ref 81), some (.int h), some (.int (setF r h i)), some (.int (nI i))] [] (kJ (kset I 82 r)) (kR (setF r h c) (kset I 82 r)) := by
  induction m with
  | zero =>
    intro i hi
    have e : i = c := by omega
    subst e
    refine il3 (n := 5) dX9_setOf_4 rfl ?_
    refine al0 (n := 6) dX9_setOf_5 rfl ?_
    refine gX9_7 (n := 9) dX9_setOf_6 rfl rfl rfl rfl ?_
    refine k_bipush (a := 9) (n := 11) dX9_setOf_9 rfl rfl ?_
    refine js_iald (j := 9) (n := 12) dX9_setOf_11 rfl rfl rfl (by decide) (by decide) ?_
    refine k_icmp_ge (t := 41) (n := 15) dX9_setOf_12 (by decide) rfl (fun h12 => ?_) (fun h12 => ?_)
    · refine il2 (n := 42) dX9_setOf_41 rfl ?_
      refine k_ireturn (ty := .int) dX9_setOf_42 rfl rfl (Nat.le_refl _) (Nat.le_refl _) ?_
      exact ⟨rfl, rfl⟩
    · exact absurd (by rw [hc]; exact Int32.le_refl _) h12
  | succ m ih =>
    intro i hi
    refine il3 (n := 5) dX9_setOf_4 rfl ?_
    refine al0 (n := 6) dX9_setOf_5 rfl ?_
    refine gX9_7 (n := 9) dX9_setOf_6 rfl rfl rfl rfl ?_
    refine k_bipush (a := 9) (n := 11) dX9_setOf_9 rfl rfl ?_
    refine js_iald (j := 9) (n := 12) dX9_setOf_11 rfl rfl rfl (by decide) (by decide) ?_
    refine k_icmp_ge (t := 41) (n := 15) dX9_setOf_12 (by decide) rfl (fun h12 => ?_) (fun h12 => ?_)
    · exact absurd h12 (by rw [hc]; exact nI_ge (by omega) (by omega))
    · refine il2 (n := 16) dX9_setOf_15 rfl ?_
      refine al0 (n := 17) dX9_setOf_16 rfl ?_
      refine il3 (n := 18) dX9_setOf_17 rfl ?_
      refine k_iconst (a := 5) (n := 19) dX9_setOf_18 rfl rfl ?_
      refine qiX9_80 (n := 22) dX9_setOf_19 rfl rfl (Nat.le_of_ble_eq_true rfl) (by omega) rfl (m_its i 5 (by omega) (by decide)) (Nat.le_refl _) (Nat.le_refl _) ?_
      refine il1 (n := 23) dX9_setOf_22 rfl ?_
      refine k_icmp_ne (t := 32) (n := 26) dX9_setOf_23 (by decide) rfl (fun h23 => ?_) (fun h23 => ?_)
      · refine k_iconst (a := 0) (n := 33) dX9_setOf_32 rfl rfl ?_
        refine k_ior (n := 34) dX9_setOf_33 rfl ?_
        have e : setF r h (i + 1) = setF r h i ||| (0) := by rw [setF, if_neg h23]
        rw [← e]
        refine is2 (n := 35) dX9_setOf_34 rfl trivial ?_
        refine ii3 (n := 38) dX9_setOf_35 rfl (ki1 _) trivial ?_
        rw [nI_1]
        refine k_goto (n := 4) dX9_setOf_38 (by decide) ?_
        exact ih (i + 1) (by omega)
      · refine k_iconst (a := 1) (n := 27) dX9_setOf_26 rfl rfl ?_
        refine il3 (n := 28) dX9_setOf_27 rfl ?_
        refine k_ishl (n := 29) dX9_setOf_28 rfl ?_
        refine k_goto (n := 33) dX9_setOf_29 (by decide) ?_
        refine k_ior (n := 34) dX9_setOf_33 rfl ?_
        have e : setF r h (i + 1) = setF r h i ||| ((1 : Int32) <<< (nI i &&& 31)) := by rw [setF, if_pos h23]
        rw [← e]
        refine is2 (n := 35) dX9_setOf_34 rfl trivial ?_
        refine ii3 (n := 38) dX9_setOf_35 rfl (ki1 _) trivial ?_
        rw [nI_1]
        refine k_goto (n := 4) dX9_setOf_38 (by decide) ?_
        exact ih (i + 1) (by omega)
set_option maxHeartbeats 2000000 in
set_option maxRecDepth 20000 in
theorem m_setOf (hd : 1 ≤ d) (hR : RI r) (h : Int32) : Ct E d mX9_setOf 0 0 [.ref 81, .int h] (kJ (kset I 82 r)) (kR (setF r h (sMany r)) (kset I 82 r)) := by
  obtain ⟨⟨c, hc, h8⟩, -⟩ := hR
  have e : sMany r = c := by unfold sMany; rw [hc]; exact kcl (by omega)
  rw [e]
  refine Ct.of (L := [some (.ref 81), some (.int h), none, none]) rfl rfl (Nat.le_of_ble_eq_true rfl) ?_
  refine k_iconst (a := 0) (n := 1) dX9_setOf_0 rfl rfl ?_
  refine is2 (n := 2) dX9_setOf_1 rfl trivial ?_
  refine k_iconst (a := 0) (n := 3) dX9_setOf_2 rfl rfl ?_
  refine is3 (n := 4) dX9_setOf_3 rfl trivial ?_
  exact m_setOf_l h c hc h8 hd c 0 (by omega)
def clearF (r : Nat → Int32) (i : Nat) : Nat → Int32 := fun j => if 13 ≤ j ∧ j < 13 + i then 0 else r j
def s_rope (r : Nat → Int32) (v : Int32) : sT := if 2 ≤ v ∧ v ≤ 8 then if r 9 ≤ 0 then (r 3, upd (clearF r 8) 3 v, 0) else sS r else sB r
set_option maxHeartbeats 2000000 in
set_option maxRecDepth 20000 in
theorem m_rope_l (hd : 1 ≤ d) (v : Int32) (Q : Option Value → kM → Prop) (hQ : Q (some (.int (clearF r 8 3))) (kJ (kset I 82 (upd (clearF r 8) 3 v)))) (m : Nat) : ∀ (i : Nat), i + m = 8 → Wd E d mX9_rope 0 0 0 0 36 [some (.ref 81), some (.int v), some (.int (nI i))] [] (kJ (kset I 82 (clearF r i))) Q := by
  induction m with
  | zero =>
    intro i hi
    have e : i = 8 := by omega
    subst e
    refine il2 (n := 37) dX9_rope_36 rfl ?_
    refine k_bipush (a := 8) (n := 39) dX9_rope_37 rfl rfl ?_
    refine k_icmp_ge (t := 58) (n := 42) dX9_rope_39 (by decide) rfl (fun h39 => ?_) (fun h39 => ?_)
    · refine al0 (n := 59) dX9_rope_58 rfl ?_
      refine k_iconst (a := 3) (n := 60) dX9_rope_59 rfl rfl ?_
      refine il1 (n := 61) dX9_rope_60 rfl ?_
      refine qiX9_51 (n := 64) dX9_rope_61 rfl rfl (Nat.le_of_ble_eq_true rfl) (by omega) rfl (m_becomes 3 _ (by decide)) (Nat.le_refl _) (Nat.le_refl _) ?_
      refine k_ireturn (ty := .int) dX9_rope_64 rfl rfl (Nat.le_refl _) (Nat.le_refl _) ?_
      exact hQ
    · exact absurd (Int32.le_refl _) h39
  | succ m ih =>
    intro i hi
    refine il2 (n := 37) dX9_rope_36 rfl ?_
    refine k_bipush (a := 8) (n := 39) dX9_rope_37 rfl rfl ?_
    refine k_icmp_ge (t := 58) (n := 42) dX9_rope_39 (by decide) rfl (fun h39 => ?_) (fun h39 => ?_)
    · exact absurd h39 (nI_ge (show i < 8 by omega) (by decide))
    · refine al0 (n := 43) dX9_rope_42 rfl ?_
      refine gX9_7 (n := 46) dX9_rope_43 rfl rfl rfl rfl ?_
      refine k_bipush (a := 13) (n := 48) dX9_rope_46 rfl rfl ?_
      refine il2 (n := 49) dX9_rope_48 rfl ?_
      refine k_iadd (n := 50) dX9_rope_49 rfl ?_
      refine k_iconst (a := 0) (n := 51) dX9_rope_50 rfl rfl ?_
      refine js_iast (j := 13 + i) (n := 52) dX9_rope_51 rfl rfl (by show nI 13 + nI i = _; rw [nI_add]) (by omega) (by decide) ?_
      rw [show upd (clearF r i) (13 + i) 0 = clearF r (i + 1) from by
        funext j
        unfold upd clearF
        by_cases h1 : j = 13 + i
        · subst h1; simp
        · rw [if_neg h1]
          by_cases h2 : 13 ≤ j ∧ j < 13 + i
          · rw [if_pos h2, if_pos (by omega)]
          · rw [if_neg h2, if_neg (by omega)]]
      refine ii2 (n := 55) dX9_rope_52 rfl (ki1 _) trivial ?_
      rw [nI_1]
      refine k_goto (n := 36) dX9_rope_55 (by decide) ?_
      exact ih (i + 1) (by omega)
set_option maxHeartbeats 2000000 in
set_option maxRecDepth 20000 in
theorem m_rope (hd : 2 ≤ d) (v : Int32) : Ct E d mX9_rope 0 0 [.ref 81, .int v] (kJ (kset I 82 r)) (kT I (s_rope r v)) := by
  refine Ct.of (L := [some (.ref 81), some (.int v), none]) rfl rfl (Nat.le_of_ble_eq_true rfl) ?_
  refine il1 (n := 1) dX9_rope_0 rfl ?_
  refine k_iconst (a := 2) (n := 2) dX9_rope_1 rfl rfl ?_
  refine k_bipush (a := 8) (n := 4) dX9_rope_2 rfl rfl ?_
  refine qiX9_41 (n := 7) dX9_rope_4 rfl rfl (Nat.le_of_ble_eq_true rfl) (by omega) (m_in _ _ _) (Nat.le_refl _) (Nat.le_refl _) ?_
  refine k_ifb_ne (t := 17) (n := 10) dX9_rope_7 (by decide) rfl (fun h7 => ?_) (fun h7 => ?_)
  · refine al0 (n := 18) dX9_rope_17 rfl ?_
    refine gX9_7 (n := 21) dX9_rope_18 rfl rfl rfl rfl ?_
    refine k_bipush (a := 9) (n := 23) dX9_rope_21 rfl rfl ?_
    refine js_iald (j := 9) (n := 24) dX9_rope_23 rfl rfl rfl (by decide) (by decide) ?_
    refine k_if_le (t := 34) (n := 27) dX9_rope_24 (by decide) rfl (fun h24 => ?_) (fun h24 => ?_)
    · refine k_iconst (a := 0) (n := 35) dX9_rope_34 rfl rfl ?_
      refine is2 (n := 36) dX9_rope_35 rfl trivial ?_
      have h := fun hQ => m_rope_l (E := E) (d := d) (I := I) (r := r) (show 1 ≤ d by omega) v (kT I (s_rope r v)) hQ 8 0 (by omega)
      rw [show clearF r 0 = r from funext fun j => if_neg (by omega)] at h
      refine h ?_
      exact ⟨by simp only [s_rope, if_pos h7, if_pos h24]; rfl, by simp only [s_rope, ke0, if_pos h7, if_pos h24]⟩
    · refine al0 (n := 28) dX9_rope_27 rfl ?_
      refine cX9_50 (n := 30) dX9_rope_28 rfl rfl ?_
      refine qiX9_46 (n := 33) dX9_rope_30 rfl rfl (Nat.le_of_ble_eq_true rfl) (by omega) rfl (m_errs 3 _ (by decide) rfl) (Nat.le_refl _) (Nat.le_refl _) ?_
      refine k_ireturn (ty := .int) dX9_rope_33 rfl rfl (Nat.le_refl _) (Nat.le_refl _) ?_
      (refine ⟨?_, ?_⟩ <;> simp only [kT, s_rope, sB, sN, sS, sF, sK, ke0, ke1, ke2, ke3, ke4, ke5, if_pos h7, if_neg h24] <;> rfl)
  · refine al0 (n := 11) dX9_rope_10 rfl ?_
    refine cX9_45 (n := 13) dX9_rope_11 rfl rfl ?_
    refine qiX9_46 (n := 16) dX9_rope_13 rfl rfl (Nat.le_of_ble_eq_true rfl) (by omega) rfl (m_errs 1 _ (by decide) rfl) (Nat.le_refl _) (Nat.le_refl _) ?_
    refine k_ireturn (ty := .int) dX9_rope_16 rfl rfl (Nat.le_refl _) (Nat.le_refl _) ?_
    (refine ⟨?_, ?_⟩ <;> simp only [kT, s_rope, sB, sN, sS, sF, sK, ke0, ke1, ke2, ke3, ke4, ke5, if_neg h7] <;> rfl)
set_option maxHeartbeats 2000000 in
set_option maxRecDepth 20000 in
theorem m_image (hd : 2 ≤ d) : Ct E d mX9_image 0 0 [.ref 81] (kJ I) (kR (I 81 5 + 1) (kset (kset I 83 (fun j => if j < 255 then I 82 j else I 83 j)) 81 (upd (upd (I 81) 4 1) 5 (I 81 5 + 1)))) := by
  refine Ct.of (L := [some (.ref 81)]) rfl rfl (Nat.le_of_ble_eq_true rfl) ?_
  refine al0 (n := 1) dX9_image_0 rfl ?_
  refine al0 (n := 2) dX9_image_1 rfl ?_
  refine gX9_7 (n := 5) dX9_image_2 rfl rfl rfl rfl ?_
  refine al0 (n := 6) dX9_image_5 rfl ?_
  refine gX9_13 (n := 9) dX9_image_6 rfl rfl rfl rfl ?_
  refine qiX9_163 (n := 12) dX9_image_9 rfl rfl (Nat.le_of_ble_eq_true rfl) (by omega) rfl (m_moveAll (a := 82) (b := 83) rfl rfl (by decide)) (Nat.le_refl _) (Nat.le_refl _) ?_
  refine al0 (n := 13) dX9_image_12 rfl ?_
  refine k_iconst (a := 1) (n := 14) dX9_image_13 rfl rfl ?_
  refine pX9_242 (n := 17) dX9_image_14 rfl rfl rfl (by decide) ?_
  rw [kset_ne _ _ (show (81 : Nat) ≠ 83 by decide)]
  refine al0 (n := 18) dX9_image_17 rfl ?_
  refine k_dup (n := 19) dX9_image_18 rfl rfl ?_
  refine gsX9_245 (n := 22) dX9_image_19 rfl rfl rfl ?_
  refine k_iconst (a := 1) (n := 23) dX9_image_22 rfl rfl ?_
  refine k_iadd (n := 24) dX9_image_23 rfl ?_
  refine psX9_245 (n := 27) dX9_image_24 rfl rfl rfl ?_
  refine al0 (n := 28) dX9_image_27 rfl ?_
  refine gsX9_245 (n := 31) dX9_image_28 rfl rfl rfl ?_
  refine k_ireturn (ty := .int) dX9_image_31 rfl rfl (Nat.le_refl _) (Nat.le_refl _) ?_
  exact ⟨rfl, rfl⟩
set_option maxHeartbeats 2000000 in
set_option maxRecDepth 20000 in
theorem m_restore (hd : 2 ≤ d) : Ct E d mX9_restore 0 0 [.ref 81] (kJ I) (kR (if I 81 4 = 0 then -1000000002 else I 83 0) (if I 81 4 = 0 then ker I 2 else kset I 82 (fun j => if j < 255 then I 83 j else I 82 j))) := by
  refine Ct.of (L := [some (.ref 81)]) rfl rfl (Nat.le_of_ble_eq_true rfl) ?_
  refine al0 (n := 1) dX9_restore_0 rfl ?_
  refine gX9_242 (n := 4) dX9_restore_1 rfl rfl rfl ?_
  refine k_if_ne (t := 14) (n := 7) dX9_restore_4 (by decide) rfl (fun h4 => ?_) (fun h4 => ?_)
  · refine al0 (n := 15) dX9_restore_14 rfl ?_
    refine al0 (n := 16) dX9_restore_15 rfl ?_
    refine gX9_13 (n := 19) dX9_restore_16 rfl rfl rfl rfl ?_
    refine al0 (n := 20) dX9_restore_19 rfl ?_
    refine gX9_7 (n := 23) dX9_restore_20 rfl rfl rfl rfl ?_
    refine qiX9_163 (n := 26) dX9_restore_23 rfl rfl (Nat.le_of_ble_eq_true rfl) (by omega) rfl (m_moveAll (a := 83) (b := 82) rfl rfl (by decide)) (Nat.le_refl _) (Nat.le_refl _) ?_
    refine al0 (n := 27) dX9_restore_26 rfl ?_
    refine gX9_7 (n := 30) dX9_restore_27 rfl rfl rfl rfl ?_
    refine k_iconst (a := 0) (n := 31) dX9_restore_30 rfl rfl ?_
    refine js_iald (j := 0) (n := 32) dX9_restore_31 rfl rfl rfl (by decide) (by decide) ?_
    refine k_ireturn (ty := .int) dX9_restore_32 rfl rfl (Nat.le_refl _) (Nat.le_refl _) ?_
    (refine ⟨?_, ?_⟩ <;> simp only [reduceIte, if_neg h4] <;> rfl)
  · refine al0 (n := 8) dX9_restore_7 rfl ?_
    refine cX9_199 (n := 10) dX9_restore_8 rfl rfl ?_
    refine qiX9_46 (n := 13) dX9_restore_10 rfl rfl (Nat.le_of_ble_eq_true rfl) (by omega) rfl (m_errs 2 _ (by decide) rfl) (Nat.le_refl _) (Nat.le_refl _) ?_
    refine k_ireturn (ty := .int) dX9_restore_13 rfl rfl (Nat.le_refl _) (Nat.le_refl _) ?_
    (refine ⟨?_, ?_⟩ <;> simp only [reduceIte, if_pos h4] <;> rfl)
def s_count (I : Nat → Nat → Int32) (r : Nat → Int32) (v : Int32) : sT :=
  if v = 0 then (r 3, r, 0) else if v = 1 then (r 1, r, 0) else if v = 2 then (r 10, r, 0) else if v = 3 then (r 0, r, 0) else if v = 4 then (r 8, r, 0) else if v = 5 then (r 11, r, 0) else if v = 6 then (r 9, r, 0) else if v = 7 then (r 12, r, 0)
  else if v = 8 then (setF r 2 (sMany r), r, 0) else if v = 9 then (setF r 3 (sMany r), r, 0) else if v = 10 then (r 4, r, 0) else if v = 11 then (r 5, r, 0) else if v = 12 then (I 81 20, r, 0) else if v = 13 then (r 2, r, 0) else sB r
/-- a switch over a row of numbers from lo on -/
theorem ksw (v : Int32) (hi : Nat) (h : hi < 1000) : (v.toInt < 0 ∨ (hi : Int) < v.toInt) ∨ ∃ j, j ≤ hi ∧ v = nI j := by
  by_cases h1 : v.toInt < 0
  · exact Or.inl (Or.inl h1)
  · by_cases h2 : (hi : Int) < v.toInt
    · exact Or.inl (Or.inr h2)
    · refine Or.inr ?_
      obtain ⟨j, hj, rfl⟩ := nI_of (x := v) (by rw [Int32.lt_iff_toInt_lt]; exact h1)
      rw [nI_toInt hj] at h2
      exact ⟨j, by omega, rfl⟩
set_option maxHeartbeats 2000000 in
set_option maxRecDepth 20000 in
theorem m_count (hd : 2 ≤ d) (hR : RI r) (v : Int32) : Ct E d mX9_count 0 0 [.ref 81, .int v] (kJ (kset I 82 r)) (kT I (s_count I r v)) := by
  refine Ct.of (L := [some (.ref 81), some (.int v)]) rfl rfl (Nat.le_of_ble_eq_true rfl) ?_
  refine il1 (n := 1) dX9_count_0 rfl ?_
  rcases ksw v 13 (by decide) with h | ⟨j, hj, rfl⟩
  · refine k_swOut (t := 171) dX9_count_1 h (by decide) ?_
    refine al0 (n := 172) dX9_count_171 rfl ?_
    refine cX9_45 (n := 174) dX9_count_172 rfl rfl ?_
    refine qiX9_46 (n := 177) dX9_count_174 rfl rfl (Nat.le_of_ble_eq_true rfl) (by omega) rfl (m_errs 1 _ (by decide) rfl) (Nat.le_refl _) (Nat.le_refl _) ?_
    refine k_ireturn (ty := .int) dX9_count_177 rfl rfl (Nat.le_refl _) (Nat.le_refl _) ?_
    have hn : ∀ z : Nat, z ≤ 13 → ¬ v = nI z := fun z hz e => by rw [e, nI_toInt (by omega)] at h; omega
    (refine ⟨?_, ?_⟩ <;> simp only [kT, s_count, sB, ke1] <;> simp only [if_neg (show ¬ v = 0 from hn 0 (by decide)), if_neg (show ¬ v = 1 from hn 1 (by decide)), if_neg (show ¬ v = 2 from hn 2 (by decide)), if_neg (show ¬ v = 3 from hn 3 (by decide)), if_neg (show ¬ v = 4 from hn 4 (by decide)), if_neg (show ¬ v = 5 from hn 5 (by decide)), if_neg (show ¬ v = 6 from hn 6 (by decide)), if_neg (show ¬ v = 7 from hn 7 (by decide)), if_neg (show ¬ v = 8 from hn 8 (by decide)), if_neg (show ¬ v = 9 from hn 9 (by decide)), if_neg (show ¬ v = 10 from hn 10 (by decide)), if_neg (show ¬ v = 11 from hn 11 (by decide)), if_neg (show ¬ v = 12 from hn 12 (by decide)), if_neg (show ¬ v = 13 from hn 13 (by decide))] <;> rfl)
  · rcases (show j = 0 ∨ j = 1 ∨ j = 2 ∨ j = 3 ∨ j = 4 ∨ j = 5 ∨ j = 6 ∨ j = 7 ∨ j = 8 ∨ j = 9 ∨ j = 10 ∨ j = 11 ∨ j = 12 ∨ j = 13 by omega) with rfl | rfl | rfl | rfl | rfl | rfl | rfl | rfl | rfl | rfl | rfl | rfl | rfl | rfl
    · refine k_swIn (t := 72) (off := 71) dX9_count_1 (by decide) (by decide) (by decide) (by decide) ?_
      refine al0 (n := 73) dX9_count_72 rfl ?_
      refine gX9_7 (n := 76) dX9_count_73 rfl rfl rfl rfl ?_
      refine k_iconst (a := 3) (n := 77) dX9_count_76 rfl rfl ?_
      refine js_iald (j := 3) (n := 78) dX9_count_77 rfl rfl rfl (by decide) (by decide) ?_
      refine k_ireturn (ty := .int) dX9_count_78 rfl rfl (Nat.le_refl _) (Nat.le_refl _) ?_
      exact ⟨rfl, rfl⟩
    · refine k_swIn (t := 79) (off := 78) dX9_count_1 (by decide) (by decide) (by decide) (by decide) ?_
      refine al0 (n := 80) dX9_count_79 rfl ?_
      refine gX9_7 (n := 83) dX9_count_80 rfl rfl rfl rfl ?_
      refine k_iconst (a := 1) (n := 84) dX9_count_83 rfl rfl ?_
      refine js_iald (j := 1) (n := 85) dX9_count_84 rfl rfl rfl (by decide) (by decide) ?_
      refine k_ireturn (ty := .int) dX9_count_85 rfl rfl (Nat.le_refl _) (Nat.le_refl _) ?_
      exact ⟨rfl, rfl⟩
    · refine k_swIn (t := 86) (off := 85) dX9_count_1 (by decide) (by decide) (by decide) (by decide) ?_
      refine al0 (n := 87) dX9_count_86 rfl ?_
      refine gX9_7 (n := 90) dX9_count_87 rfl rfl rfl rfl ?_
      refine k_bipush (a := 10) (n := 92) dX9_count_90 rfl rfl ?_
      refine js_iald (j := 10) (n := 93) dX9_count_92 rfl rfl rfl (by decide) (by decide) ?_
      refine k_ireturn (ty := .int) dX9_count_93 rfl rfl (Nat.le_refl _) (Nat.le_refl _) ?_
      exact ⟨rfl, rfl⟩
    · refine k_swIn (t := 94) (off := 93) dX9_count_1 (by decide) (by decide) (by decide) (by decide) ?_
      refine al0 (n := 95) dX9_count_94 rfl ?_
      refine gX9_7 (n := 98) dX9_count_95 rfl rfl rfl rfl ?_
      refine k_iconst (a := 0) (n := 99) dX9_count_98 rfl rfl ?_
      refine js_iald (j := 0) (n := 100) dX9_count_99 rfl rfl rfl (by decide) (by decide) ?_
      refine k_ireturn (ty := .int) dX9_count_100 rfl rfl (Nat.le_refl _) (Nat.le_refl _) ?_
      exact ⟨rfl, rfl⟩
    · refine k_swIn (t := 101) (off := 100) dX9_count_1 (by decide) (by decide) (by decide) (by decide) ?_
      refine al0 (n := 102) dX9_count_101 rfl ?_
      refine gX9_7 (n := 105) dX9_count_102 rfl rfl rfl rfl ?_
      refine k_bipush (a := 8) (n := 107) dX9_count_105 rfl rfl ?_
      refine js_iald (j := 8) (n := 108) dX9_count_107 rfl rfl rfl (by decide) (by decide) ?_
      refine k_ireturn (ty := .int) dX9_count_108 rfl rfl (Nat.le_refl _) (Nat.le_refl _) ?_
      exact ⟨rfl, rfl⟩
    · refine k_swIn (t := 109) (off := 108) dX9_count_1 (by decide) (by decide) (by decide) (by decide) ?_
      refine al0 (n := 110) dX9_count_109 rfl ?_
      refine gX9_7 (n := 113) dX9_count_110 rfl rfl rfl rfl ?_
      refine k_bipush (a := 11) (n := 115) dX9_count_113 rfl rfl ?_
      refine js_iald (j := 11) (n := 116) dX9_count_115 rfl rfl rfl (by decide) (by decide) ?_
      refine k_ireturn (ty := .int) dX9_count_116 rfl rfl (Nat.le_refl _) (Nat.le_refl _) ?_
      exact ⟨rfl, rfl⟩
    · refine k_swIn (t := 117) (off := 116) dX9_count_1 (by decide) (by decide) (by decide) (by decide) ?_
      refine al0 (n := 118) dX9_count_117 rfl ?_
      refine gX9_7 (n := 121) dX9_count_118 rfl rfl rfl rfl ?_
      refine k_bipush (a := 9) (n := 123) dX9_count_121 rfl rfl ?_
      refine js_iald (j := 9) (n := 124) dX9_count_123 rfl rfl rfl (by decide) (by decide) ?_
      refine k_ireturn (ty := .int) dX9_count_124 rfl rfl (Nat.le_refl _) (Nat.le_refl _) ?_
      exact ⟨rfl, rfl⟩
    · refine k_swIn (t := 125) (off := 124) dX9_count_1 (by decide) (by decide) (by decide) (by decide) ?_
      refine al0 (n := 126) dX9_count_125 rfl ?_
      refine gX9_7 (n := 129) dX9_count_126 rfl rfl rfl rfl ?_
      refine k_bipush (a := 12) (n := 131) dX9_count_129 rfl rfl ?_
      refine js_iald (j := 12) (n := 132) dX9_count_131 rfl rfl rfl (by decide) (by decide) ?_
      refine k_ireturn (ty := .int) dX9_count_132 rfl rfl (Nat.le_refl _) (Nat.le_refl _) ?_
      exact ⟨rfl, rfl⟩
    · refine k_swIn (t := 133) (off := 132) dX9_count_1 (by decide) (by decide) (by decide) (by decide) ?_
      refine al0 (n := 134) dX9_count_133 rfl ?_
      refine k_iconst (a := 2) (n := 135) dX9_count_134 rfl rfl ?_
      refine qiX9_189 (n := 138) dX9_count_135 rfl rfl (Nat.le_of_ble_eq_true rfl) (by omega) rfl (m_setOf (by omega) hR 2) (Nat.le_refl _) (Nat.le_refl _) ?_
      refine k_ireturn (ty := .int) dX9_count_138 rfl rfl (Nat.le_refl _) (Nat.le_refl _) ?_
      exact ⟨rfl, rfl⟩
    · refine k_swIn (t := 139) (off := 138) dX9_count_1 (by decide) (by decide) (by decide) (by decide) ?_
      refine al0 (n := 140) dX9_count_139 rfl ?_
      refine k_iconst (a := 3) (n := 141) dX9_count_140 rfl rfl ?_
      refine qiX9_189 (n := 144) dX9_count_141 rfl rfl (Nat.le_of_ble_eq_true rfl) (by omega) rfl (m_setOf (by omega) hR 3) (Nat.le_refl _) (Nat.le_refl _) ?_
      refine k_ireturn (ty := .int) dX9_count_144 rfl rfl (Nat.le_refl _) (Nat.le_refl _) ?_
      exact ⟨rfl, rfl⟩
    · refine k_swIn (t := 145) (off := 144) dX9_count_1 (by decide) (by decide) (by decide) (by decide) ?_
      refine al0 (n := 146) dX9_count_145 rfl ?_
      refine gX9_7 (n := 149) dX9_count_146 rfl rfl rfl rfl ?_
      refine k_iconst (a := 4) (n := 150) dX9_count_149 rfl rfl ?_
      refine js_iald (j := 4) (n := 151) dX9_count_150 rfl rfl rfl (by decide) (by decide) ?_
      refine k_ireturn (ty := .int) dX9_count_151 rfl rfl (Nat.le_refl _) (Nat.le_refl _) ?_
      exact ⟨rfl, rfl⟩
    · refine k_swIn (t := 152) (off := 151) dX9_count_1 (by decide) (by decide) (by decide) (by decide) ?_
      refine al0 (n := 153) dX9_count_152 rfl ?_
      refine gX9_7 (n := 156) dX9_count_153 rfl rfl rfl rfl ?_
      refine k_iconst (a := 5) (n := 157) dX9_count_156 rfl rfl ?_
      refine js_iald (j := 5) (n := 158) dX9_count_157 rfl rfl rfl (by decide) (by decide) ?_
      refine k_ireturn (ty := .int) dX9_count_158 rfl rfl (Nat.le_refl _) (Nat.le_refl _) ?_
      exact ⟨rfl, rfl⟩
    · refine k_swIn (t := 159) (off := 158) dX9_count_1 (by decide) (by decide) (by decide) (by decide) ?_
      refine al0 (n := 160) dX9_count_159 rfl ?_
      refine gX9_212 (n := 163) dX9_count_160 rfl rfl rfl ?_
      try rw [kset_ne _ _ (show (81 : Nat) ≠ 82 by decide)]
      refine k_ireturn (ty := .int) dX9_count_163 rfl rfl (Nat.le_refl _) (Nat.le_refl _) ?_
      exact ⟨rfl, rfl⟩
    · refine k_swIn (t := 164) (off := 163) dX9_count_1 (by decide) (by decide) (by decide) (by decide) ?_
      refine al0 (n := 165) dX9_count_164 rfl ?_
      refine gX9_7 (n := 168) dX9_count_165 rfl rfl rfl rfl ?_
      refine k_iconst (a := 2) (n := 169) dX9_count_168 rfl rfl ?_
      refine js_iald (j := 2) (n := 170) dX9_count_169 rfl rfl rfl (by decide) (by decide) ?_
      refine k_ireturn (ty := .int) dX9_count_170 rfl rfl (Nat.le_refl _) (Nat.le_refl _) ?_
      exact ⟨rfl, rfl⟩
/-- the strongest of the first n, and what is left to it -/
def relF (r : Nat → Int32) : Nat → Int32 × Int32
  | 0 => (0, -200)
  | n + 1 => let q := relF r n; let v := r (21 + 2 * n) - r (21 + 2 * n + 1); (if v ≤ q.2 then q.1 else nI n, if v ≤ q.2 then q.2 else v)
set_option maxHeartbeats 2000000 in
set_option maxRecDepth 20000 in
theorem m_relief_l (c : Nat) (hc : r 8 = nI c) (h4 : c ≤ 4) (Q : Option Value → kM → Prop) (hQ : Q (some (.int (relF r c).1)) (kJ (kset I 82 r))) (m : Nat) : ∀ (i : Nat) (x4 : Option Value), i + m = c → Wd E d mX9_relief 0 0 0 0 25 [some (.ref 81), some (.int (relF r i).1), some (.int (relF r i).2), some (.int (nI i)), x4] [] (kJ (kset I 82 r)) Q := by
  induction m with
  | zero =>
    intro i x4 hi
    have e : i = c := by omega
    subst e
    refine il3 (n := 26) dX9_relief_25 rfl ?_
    refine al0 (n := 27) dX9_relief_26 rfl ?_
    refine gX9_7 (n := 30) dX9_relief_27 rfl rfl rfl rfl ?_
    refine k_bipush (a := 8) (n := 32) dX9_relief_30 rfl rfl ?_
    refine js_iald (j := 8) (n := 33) dX9_relief_32 rfl rfl rfl (by decide) (by decide) ?_
    refine k_icmp_ge (t := 94) (n := 36) dX9_relief_33 (by decide) rfl (fun h33 => ?_) (fun h33 => ?_)
    · refine il1 (n := 95) dX9_relief_94 rfl ?_
      refine k_ireturn (ty := .int) dX9_relief_95 rfl rfl (Nat.le_refl _) (Nat.le_refl _) ?_
      exact hQ
    · exact absurd (by rw [hc]; exact Int32.le_refl _) h33
  | succ m ih =>
    intro i x4 hi
    refine il3 (n := 26) dX9_relief_25 rfl ?_
    refine al0 (n := 27) dX9_relief_26 rfl ?_
    refine gX9_7 (n := 30) dX9_relief_27 rfl rfl rfl rfl ?_
    refine k_bipush (a := 8) (n := 32) dX9_relief_30 rfl rfl ?_
    refine js_iald (j := 8) (n := 33) dX9_relief_32 rfl rfl rfl (by decide) (by decide) ?_
    refine k_icmp_ge (t := 94) (n := 36) dX9_relief_33 (by decide) rfl (fun h33 => ?_) (fun h33 => ?_)
    · exact absurd h33 (by rw [hc]; exact nI_ge (by omega) (by omega))
    · refine al0 (n := 37) dX9_relief_36 rfl ?_
      refine gX9_7 (n := 40) dX9_relief_37 rfl rfl rfl rfl ?_
      refine k_bipush (a := 21) (n := 42) dX9_relief_40 rfl rfl ?_
      refine k_iconst (a := 2) (n := 43) dX9_relief_42 rfl rfl ?_
      refine il3 (n := 44) dX9_relief_43 rfl ?_
      refine k_imul (n := 45) dX9_relief_44 rfl ?_
      refine k_iadd (n := 46) dX9_relief_45 rfl ?_
      refine js_iald (j := 21 + 2 * i) (n := 47) dX9_relief_46 rfl rfl (by show nI 21 + nI 2 * nI i = _; rw [pk_mul, nI_add]) (by omega) (by decide) ?_
      refine al0 (n := 48) dX9_relief_47 rfl ?_
      refine gX9_7 (n := 51) dX9_relief_48 rfl rfl rfl rfl ?_
      refine k_bipush (a := 21) (n := 53) dX9_relief_51 rfl rfl ?_
      refine k_iconst (a := 2) (n := 54) dX9_relief_53 rfl rfl ?_
      refine il3 (n := 55) dX9_relief_54 rfl ?_
      refine k_imul (n := 56) dX9_relief_55 rfl ?_
      refine k_iadd (n := 57) dX9_relief_56 rfl ?_
      refine k_iconst (a := 1) (n := 58) dX9_relief_57 rfl rfl ?_
      refine k_iadd (n := 59) dX9_relief_58 rfl ?_
      refine js_iald (j := 21 + 2 * i + 1) (n := 60) dX9_relief_59 rfl rfl (by show nI 21 + nI 2 * nI i + nI 1 = _; rw [pk_mul, nI_add, nI_add]) (by omega) (by decide) ?_
      refine k_isub (n := 61) dX9_relief_60 rfl ?_
      refine is4 (n := 63) dX9_relief_61 rfl trivial ?_
      refine il4 (n := 65) dX9_relief_63 rfl ?_
      refine il2 (n := 66) dX9_relief_65 rfl ?_
      refine k_icmp_le (t := 73) (n := 69) dX9_relief_66 (by decide) rfl (fun h66 => ?_) (fun h66 => ?_)
      · refine il1 (n := 74) dX9_relief_73 rfl ?_
        refine is1 (n := 75) dX9_relief_74 rfl trivial ?_
        refine il4 (n := 77) dX9_relief_75 rfl ?_
        refine il2 (n := 78) dX9_relief_77 rfl ?_
        refine k_icmp_le (t := 86) (n := 81) dX9_relief_78 (by decide) rfl (fun h78 => ?_) (fun h78 => ?_)
        · refine il2 (n := 87) dX9_relief_86 rfl ?_
          refine is2 (n := 88) dX9_relief_87 rfl trivial ?_
          refine ii3 (n := 91) dX9_relief_88 rfl (ki1 _) trivial ?_
          rw [nI_1]
          refine k_goto (n := 25) dX9_relief_91 (by decide) ?_
          first
            | exact absurd h78 h66
            | exact absurd h66 h78
            | (have h := ih (i + 1) (some (.int (r (21 + 2 * i) - r (21 + 2 * i + 1)))) (by omega)
               simp only [relF, if_neg h33, if_pos h66, if_pos h78] at h
               exact h)
        · refine il4 (n := 83) dX9_relief_81 rfl ?_
          refine k_goto (n := 87) dX9_relief_83 (by decide) ?_
          refine is2 (n := 88) dX9_relief_87 rfl trivial ?_
          refine ii3 (n := 91) dX9_relief_88 rfl (ki1 _) trivial ?_
          rw [nI_1]
          refine k_goto (n := 25) dX9_relief_91 (by decide) ?_
          first
            | exact absurd h78 h66
            | exact absurd h66 h78
            | (have h := ih (i + 1) (some (.int (r (21 + 2 * i) - r (21 + 2 * i + 1)))) (by omega)
               simp only [relF, if_neg h33, if_pos h66, if_neg h78] at h
               exact h)
      · refine il3 (n := 70) dX9_relief_69 rfl ?_
        refine k_goto (n := 74) dX9_relief_70 (by decide) ?_
        refine is1 (n := 75) dX9_relief_74 rfl trivial ?_
        refine il4 (n := 77) dX9_relief_75 rfl ?_
        refine il2 (n := 78) dX9_relief_77 rfl ?_
        refine k_icmp_le (t := 86) (n := 81) dX9_relief_78 (by decide) rfl (fun h78 => ?_) (fun h78 => ?_)
        · refine il2 (n := 87) dX9_relief_86 rfl ?_
          refine is2 (n := 88) dX9_relief_87 rfl trivial ?_
          refine ii3 (n := 91) dX9_relief_88 rfl (ki1 _) trivial ?_
          rw [nI_1]
          refine k_goto (n := 25) dX9_relief_91 (by decide) ?_
          first
            | exact absurd h78 h66
            | exact absurd h66 h78
            | (have h := ih (i + 1) (some (.int (r (21 + 2 * i) - r (21 + 2 * i + 1)))) (by omega)
               simp only [relF, if_neg h33, if_neg h66, if_pos h78] at h
               exact h)
        · refine il4 (n := 83) dX9_relief_81 rfl ?_
          refine k_goto (n := 87) dX9_relief_83 (by decide) ?_
          refine is2 (n := 88) dX9_relief_87 rfl trivial ?_
          refine ii3 (n := 91) dX9_relief_88 rfl (ki1 _) trivial ?_
          rw [nI_1]
          refine k_goto (n := 25) dX9_relief_91 (by decide) ?_
          first
            | exact absurd h78 h66
            | exact absurd h66 h78
            | (have h := ih (i + 1) (some (.int (r (21 + 2 * i) - r (21 + 2 * i + 1)))) (by omega)
               simp only [relF, if_neg h33, if_neg h66, if_neg h78] at h
               exact h)
def s_relief (r : Nat → Int32) : sT := if r 8 = 0 then sN r else ((relF r (r 8).toNatClampNeg).1, r, 0)
set_option maxHeartbeats 2000000 in
set_option maxRecDepth 20000 in
theorem m_relief (hd : 2 ≤ d) (hR : RI r) : Ct E d mX9_relief 0 0 [.ref 81] (kJ (kset I 82 r)) (kT I (s_relief r)) := by
  refine Ct.of (L := [some (.ref 81), none, none, none, none]) rfl rfl (Nat.le_of_ble_eq_true rfl) ?_
  refine al0 (n := 1) dX9_relief_0 rfl ?_
  refine gX9_7 (n := 4) dX9_relief_1 rfl rfl rfl rfl ?_
  refine k_bipush (a := 8) (n := 6) dX9_relief_4 rfl rfl ?_
  refine js_iald (j := 8) (n := 7) dX9_relief_6 rfl rfl rfl (by decide) (by decide) ?_
  refine k_if_ne (t := 17) (n := 10) dX9_relief_7 (by decide) rfl (fun h7 => ?_) (fun h7 => ?_)
  · refine k_iconst (a := 0) (n := 18) dX9_relief_17 rfl rfl ?_
    refine is1 (n := 19) dX9_relief_18 rfl trivial ?_
    refine k_sipush (a := (-200)) (n := 22) dX9_relief_19 rfl rfl ?_
    refine is2 (n := 23) dX9_relief_22 rfl trivial ?_
    refine k_iconst (a := 0) (n := 24) dX9_relief_23 rfl rfl ?_
    refine is3 (n := 25) dX9_relief_24 rfl trivial ?_
    obtain ⟨-, ⟨c, hc, h4⟩, -⟩ := hR
    have e : (r 8).toNatClampNeg = c := by rw [hc]; exact kcl (by omega)
    refine m_relief_l c hc h4 _ ?_ c 0 _ (by omega)
    exact ⟨by simp only [s_relief, e, if_neg h7], by simp only [s_relief, ke0, if_neg h7]⟩
  · refine al0 (n := 11) dX9_relief_10 rfl ?_
    refine cX9_199 (n := 13) dX9_relief_11 rfl rfl ?_
    refine qiX9_46 (n := 16) dX9_relief_13 rfl rfl (Nat.le_of_ble_eq_true rfl) (by omega) rfl (m_errs 2 _ (by decide) rfl) (Nat.le_refl _) (Nat.le_refl _) ?_
    refine k_ireturn (ty := .int) dX9_relief_16 rfl rfl (Nat.le_refl _) (Nat.le_refl _) ?_
    (refine ⟨?_, ?_⟩ <;> simp only [kT, s_relief, sB, sN, sS, sF, sK, ke0, ke1, ke2, ke3, ke4, ke5, if_pos h7] <;> rfl)
end M4

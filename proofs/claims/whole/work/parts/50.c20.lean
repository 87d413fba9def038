section C20
variable {E : kE} {d c t u e : Nat} {I J : Nat → Nat → Int32} {r : Nat → Int32}
/-- the tape's bytes are bytes -/
def TB (r : Nat → Int32) : Prop := ∀ k, k < 50 → ∃ x, x < 256 ∧ r (85 + k) = nI x
def rB (I : Nat → Nat → Int32) (e : Nat) : Nat → Int32 := fun k => if k < e then I 24 k else -1
def rQ (I : Nat → Nat → Int32) (u e : Nat) : Option Value → kM → Prop := fun v M => ∃ J s', v = some (.int (kb ((pzP (rB I e) u 2000 0 0 0).2.2 = true ∧ (pzP (rB I e) u 2000 0 0 0).2.1 = e))) ∧ M = kJ J ∧ (∀ k, k ≠ 67 → k ≠ 68 → J k = I k) ∧ J 67 4 = nI (pzP (rB I e) u 2000 0 0 0).2.1 ∧ J 67 2 = nI s' ∧ s' ≤ 50 ∧ ((pzP (rB I e) u 2000 0 0 0).2.2 = true → (∀ q, q < s' → okI (J 68 q)) ∧ EV (J 68) 0 s' (pzV (rB I e) u 2000 0 0 0))
theorem rS_0 {nm : Int32} (hu : u < 2) (he : e ≤ 50) (hn : nm = (if u = 0 then 1 else 2)) (hx : ∀ k, k < 50 → ∃ x, x < 256 ∧ I 24 k = nI x) {I1 I2 I3 : Nat → Nat → Int32} (h0 : kset I 67 (upd (I 67) 5 nm) = J) (e1 : kset J 67 (upd (J 67) 3 (nI e)) = I1) (e2 : kset I1 67 (upd (I1 67) 2 0) = I2) (e3 : kset I2 67 (upd (I2 67) 4 0) = I3) : rS I3 (rB I e) u e 0 0 ∧ ∀ k, k ≠ 67 → I3 k = I k := by
  have fo : ∀ k, k ≠ 67 → I3 k = I k := fun k hk => by rw [← e3, kset_ne _ _ hk, ← e2, kset_ne _ _ hk, ← e1, kset_ne _ _ hk, ← h0, kset_ne _ _ hk]
  have f67 : I3 67 = upd (upd (upd (upd (I 67) 5 nm) 3 (nI e)) 2 0) 4 0 := by rw [← e3, kset_same, ← e2, kset_same, ← e1, kset_same, ← h0, kset_same]
  refine ⟨⟨⟨?_, he, hu, ?_, fun k hk => ?_, fun k hk => ?_, fun k hk => if_neg (by omega)⟩, ?_, Nat.zero_le _, ?_, Nat.le_refl _⟩, fo⟩
  · rw [f67, pk_un (by decide), pk_un (by decide), pk_us]
  · rw [f67, pk_un (by decide), pk_un (by decide), pk_un (by decide), pk_us]; exact hn
  · rw [fo 24 (by decide)]; exact (if_pos hk).symm
  · obtain ⟨x, h1, h2⟩ := hx k (by omega)
    exact ⟨x, h1, (if_pos hk).trans h2⟩
  · rw [f67, pk_us]; rfl
  · rw [f67, pk_un (by decide), pk_us]; rfl
theorem nI_j {a b : Nat} (ha : a < 1000) (hb : b < 1000) (h : nI a = nI b) : a = b := by
  have z := congrArg Int32.toNatClampNeg h
  rwa [kcl ha, kcl hb] at z
set_option maxHeartbeats 2000000 in
set_option maxRecDepth 20000 in
theorem c_reads (hd : 70 ≤ d) (hu : u < 2) (he : e ≤ 50) (hx : ∀ k, k < 50 → ∃ x, x < 256 ∧ I 24 k = nI x) : Ct E d mX4_reads 0 0 [.ref 67, .int (nI e), .int (nI u)] (kJ I) (rQ I u e) := by
  have key : ∀ (nm : Int32) (J : Nat → Nat → Int32), kset I 67 (upd (I 67) 5 nm) = J → nm = (if u = 0 then 1 else 2) → Wd E d mX4_reads 0 0 0 0 15 [some (.ref 67), some (.int (nI e)), some (.int (nI u))] [] (kJ J) (rQ I u e) := by
    intro nm J h0 hn
    refine al0 (n := 16) dX4_reads_15 rfl ?_
    refine il1 (n := 17) dX4_reads_16 rfl ?_
    refine al0 (n := 18) dX4_reads_17 rfl ?_
    refine gX4_21 (n := 21) dX4_reads_18 rfl rfl rfl rfl ?_
    refine k_alen (n := 22) dX4_reads_21 rfl (jR rfl) ?_
    refine qX4_26 (n := 25) dX4_reads_22 rfl rfl (Nat.le_of_ble_eq_true rfl) (Nat.le_refl _) (Nat.le_refl _) ?_
    rw [show (if nI 50 < nI e then nI 50 else nI e) = nI e from if_neg (nI_nlt he (by decide))]
    refine pX4_32 (n := 28) dX4_reads_25 rfl rfl rfl ?_
    refine k_gen (fun I1 e1 => ?_)
    refine al0 (n := 29) dX4_reads_28 rfl ?_
    refine k_iconst (a := 0) (n := 30) dX4_reads_29 rfl rfl ?_
    refine pX4_36 (n := 33) dX4_reads_30 rfl rfl rfl ?_
    refine k_gen (fun I2 e2 => ?_)
    refine al0 (n := 34) dX4_reads_33 rfl ?_
    refine k_iconst (a := 0) (n := 35) dX4_reads_34 rfl rfl ?_
    refine pX4_39 (n := 38) dX4_reads_35 rfl rfl rfl ?_
    refine k_gen (fun I3 e3 => ?_)
    obtain ⟨hS, hfo⟩ := rS_0 hu he hn hx h0 e1 e2 e3
    have hk0 : rkF 0 = 10 := by decide
    refine al0 (n := 39) dX4_reads_38 rfl ?_
    refine k_iconst (a := 0) (n := 40) dX4_reads_39 rfl rfl ?_
    refine k_iconst (a := 0) (n := 41) dX4_reads_40 rfl rfl ?_
    refine qX4_42 (n := 44) dX4_reads_41 rfl rfl (Nat.le_of_ble_eq_true rfl) (by omega) (Nat.le_refl _) (Nat.le_refl _) rfl ((r_all 2000).2.1 (d - 1) I3 (rB I e) u e 0 0 0 hS (by decide) (by omega) (by omega)) ?_
    rintro _ _ ⟨K, s2, rfl, rfl, g1, g2, g3, g4, g5, g6⟩
    dsimp only [Option.toList, List.cons_append, List.nil_append, Nat.add_zero]
    refine k_ifb_eq (t := 62) (n := 47) dX4_reads_44 (by decide) rfl (fun h44 => ?_) (fun h44 => ?_)
    · refine k_iconst (a := 0) (n := 63) dX4_reads_62 rfl rfl ?_
      refine k_ireturn (ty := .boolean) dX4_reads_63 rfl (by first | rfl | exact knb _) (Nat.le_refl _) (Nat.le_refl _) ?_
      have hs50 : s2 ≤ 50 := by have := g2.2.2.2.2; have := g2.2.2.1; omega
      have fK : ∀ k, k ≠ 67 → k ≠ 68 → K k = I k := fun k a b => (g1.1 k a b).trans (hfo k a)
      have h9 : (pzP (rB I e) u 2000 0 0 0).2.2 = true → (∀ q, q < s2 → okI (K 68 q)) ∧ EV (K 68) 0 s2 (pzV (rB I e) u 2000 0 0 0) := fun z => ⟨fun q hq => (g6 z).2.1 q (Nat.zero_le _) hq, (g6 z).2.2⟩
      have hle : (pzP (rB I e) u 2000 0 0 0).2.1 ≤ 50 := by have := g2.2.2.1; omega
      first
        | exact ⟨K, s2, by rw [kb_f (fun z => h44 z.1)], rfl, fK, g2.2.1, g2.2.2.2.1, hs50, h9⟩
        | exact ⟨K, s2, by rw [kb_f (fun z => h55 (by rw [z.2]))], rfl, fK, g2.2.1, g2.2.2.2.1, hs50, h9⟩
        | exact ⟨K, s2, by rw [kb_t ⟨h44, nI_j (by omega) (by omega) h55⟩], rfl, fK, g2.2.1, g2.2.2.2.1, hs50, h9⟩
    · refine al0 (n := 48) dX4_reads_47 rfl ?_
      refine gX4_39 (n := 51) dX4_reads_48 rfl rfl rfl ?_
      refine k_top g2.2.1 ?_
      refine al0 (n := 52) dX4_reads_51 rfl ?_
      refine gX4_32 (n := 55) dX4_reads_52 rfl rfl rfl ?_
      refine k_top g2.1.1 ?_
      refine k_icmp_ne (t := 62) (n := 58) dX4_reads_55 (by decide) rfl (fun h55 => ?_) (fun h55 => ?_)
      · refine k_iconst (a := 0) (n := 63) dX4_reads_62 rfl rfl ?_
        refine k_ireturn (ty := .boolean) dX4_reads_63 rfl (by first | rfl | exact knb _) (Nat.le_refl _) (Nat.le_refl _) ?_
        have hs50 : s2 ≤ 50 := by have := g2.2.2.2.2; have := g2.2.2.1; omega
        have fK : ∀ k, k ≠ 67 → k ≠ 68 → K k = I k := fun k a b => (g1.1 k a b).trans (hfo k a)
        have h9 : (pzP (rB I e) u 2000 0 0 0).2.2 = true → (∀ q, q < s2 → okI (K 68 q)) ∧ EV (K 68) 0 s2 (pzV (rB I e) u 2000 0 0 0) := fun z => ⟨fun q hq => (g6 z).2.1 q (Nat.zero_le _) hq, (g6 z).2.2⟩
        have hle : (pzP (rB I e) u 2000 0 0 0).2.1 ≤ 50 := by have := g2.2.2.1; omega
        first
          | exact ⟨K, s2, by rw [kb_f (fun z => h44 z.1)], rfl, fK, g2.2.1, g2.2.2.2.1, hs50, h9⟩
          | exact ⟨K, s2, by rw [kb_f (fun z => h55 (by rw [z.2]))], rfl, fK, g2.2.1, g2.2.2.2.1, hs50, h9⟩
          | exact ⟨K, s2, by rw [kb_t ⟨h44, nI_j (by omega) (by omega) h55⟩], rfl, fK, g2.2.1, g2.2.2.2.1, hs50, h9⟩
      · refine k_iconst (a := 1) (n := 59) dX4_reads_58 rfl rfl ?_
        refine k_goto (n := 63) dX4_reads_59 (by decide) ?_
        refine k_ireturn (ty := .boolean) dX4_reads_63 rfl (by first | rfl | exact knb _) (Nat.le_refl _) (Nat.le_refl _) ?_
        have hs50 : s2 ≤ 50 := by have := g2.2.2.2.2; have := g2.2.2.1; omega
        have fK : ∀ k, k ≠ 67 → k ≠ 68 → K k = I k := fun k a b => (g1.1 k a b).trans (hfo k a)
        have h9 : (pzP (rB I e) u 2000 0 0 0).2.2 = true → (∀ q, q < s2 → okI (K 68 q)) ∧ EV (K 68) 0 s2 (pzV (rB I e) u 2000 0 0 0) := fun z => ⟨fun q hq => (g6 z).2.1 q (Nat.zero_le _) hq, (g6 z).2.2⟩
        have hle : (pzP (rB I e) u 2000 0 0 0).2.1 ≤ 50 := by have := g2.2.2.1; omega
        first
          | exact ⟨K, s2, by rw [kb_f (fun z => h44 z.1)], rfl, fK, g2.2.1, g2.2.2.2.1, hs50, h9⟩
          | exact ⟨K, s2, by rw [kb_f (fun z => h55 (by rw [z.2]))], rfl, fK, g2.2.1, g2.2.2.2.1, hs50, h9⟩
          | exact ⟨K, s2, by rw [kb_t ⟨h44, nI_j (by omega) (by omega) h55⟩], rfl, fK, g2.2.1, g2.2.2.2.1, hs50, h9⟩
  refine Ct.of (L := [some (.ref 67), some (.int (nI e)), some (.int (nI u))]) rfl rfl (Nat.le_of_ble_eq_true rfl) ?_
  refine al0 (n := 1) dX4_reads_0 rfl ?_
  refine il2 (n := 2) dX4_reads_1 rfl ?_
  refine k_if_ne (t := 10) (n := 5) dX4_reads_2 (by decide) rfl (fun h2 => ?_) (fun h2 => ?_)
  · refine k_ldcS (n := 12) dX4_reads_10 rfl rfl (Or.inr ⟨rfl, rfl⟩) ?_
    refine pX4_17 (a := 2) (n := 15) dX4_reads_12 rfl rfl rfl (Or.inr ⟨rfl, rfl⟩) ?_
    exact key 2 _ rfl (by rw [if_neg (fun z => h2 (by rw [z]; rfl))])
  · refine k_ldcS (n := 7) dX4_reads_5 rfl rfl (Or.inl ⟨rfl, rfl⟩) ?_
    refine k_goto (n := 12) dX4_reads_7 (by decide) ?_
    refine pX4_17 (a := 1) (n := 15) dX4_reads_12 rfl rfl rfl (Or.inl ⟨rfl, rfl⟩) ?_
    exact key 1 _ rfl (by rw [if_pos (nI_j (a := u) (b := 0) (by omega) (by decide) h2)])
theorem tc_out {k : Nat} (h : ¬ (155 + 50 * u ≤ k ∧ k < 155 + 50 * u + 50)) : tcR r u 50 k = r k := if_neg (by omega)
theorem tx_out {k : Nat} (h : ¬ (155 + 50 * u ≤ k ∧ k < 155 + 50 * u + 50)) (h6 : k ≠ 6 + u) : txR r u k = r k := (pk_un h6).trans (tc_out h)
theorem tx_in {k : Nat} (hk : k < 50) (h6 : 155 + 50 * u + k ≠ 6 + u) : txR r u (155 + 50 * u + k) = r (85 + k) := by
  unfold txR
  rw [pk_un h6]
  refine (if_pos ⟨by omega, by omega⟩).trans ?_
  rw [show 155 + 50 * u + k - (155 + 50 * u) = k by omega]
theorem lawF_one {q : Nat → Int32} {v : Nat} {x y z : Int32} (h6 : q (6 + v) = r (6 + v)) (h : ∀ k, k < 50 → q (155 + 50 * v + k) = r (155 + 50 * v + k)) (hn : (r (6 + v)).toNatClampNeg ≤ 50) : lawF q v x y z = lawF r v x y z := by
  unfold lawF walkF
  rw [txB_cg h6 h hn, h6]
theorem LW.cg1 {K v : Nat} (h : LW K I r v) {q : Nat → Int32} (hJ : J (K + 1 + 3 * v) = I (K + 1 + 3 * v)) (hJ2 : J (K + 2 + 3 * v) = I (K + 2 + 3 * v)) (hl : ∀ x y z, lawF q v x y z = lawF r v x y z) : LW K J q v := by
  obtain ⟨h1, h2, n, h3, h4, h5, h6⟩ := h
  unfold LW
  rw [hJ, hJ2]
  exact ⟨h1, h2, n, h3, h4, h5, fun s x y z => by rw [hl]; exact h6 s x y z⟩
/-- a text is taken: the row, and the cells -/
theorem CR.tx (hC : CR I r c t) (hT : TX r) (hu : u < 2) (hr4 : r 4 = nI e) (he : e ≤ 50) {s2 : Nat} {K : Nat → Nat → Int32} (fK : ∀ k, k ≠ 67 → k ≠ 68 → K k = I k) (hs : s2 ≤ 50) (hok : ∀ q, q < s2 → okI (K 68 q)) (hev : EV (K 68) 0 s2 (pzV (rB I e) u 2000 0 0 0)) {I1 : Nat → Nat → Int32} (e1 : kset K 1 (upd (K 1) 5 0) = I1) (hJ : J = kset (kset I1 (2 + 3 * u) (upd (I1 (2 + 3 * u)) 4 (nI s2))) (3 + 3 * u) (va_cpy (I1 68) (I1 (3 + 3 * u)) 0 0 s2)) : CR J (upd (txR r u) 4 0) c t ∧ FX I J := by
  have f1 : ∀ k, k ≠ 1 → k ≠ 67 → k ≠ 68 → I1 k = I k := fun k a b d => by rw [← e1, kset_ne _ _ a, fK k b d]
  have f68 : I1 68 = K 68 := by rw [← e1, kset_ne _ _ (by decide)]
  have fJ : ∀ k, k ≠ 2 + 3 * u → k ≠ 3 + 3 * u → J k = I1 k := fun k a b => by rw [hJ, kset_ne _ _ b, kset_ne _ _ a]
  have fA : J (2 + 3 * u) = upd (I (2 + 3 * u)) 4 (nI s2) := by rw [hJ, kset_ne _ _ (by omega), kset_same, f1 _ (by omega) (by omega) (by omega)]
  have fC : ∀ q, q < s2 → J (3 + 3 * u) q = K 68 q := fun q hq => by rw [hJ, kset_same, sb_cpy0 hq, f68]
  have f8 : ∀ k, 8 ≤ k → k < 26 → J k = I k := fun k a b => by rw [fJ k (by omega) (by omega), f1 k (by omega) (by omega) (by omega)]
  have f11 : J 1 = upd (I 1) 5 0 := by rw [fJ 1 (by omega) (by omega), ← e1, kset_same, fK 1 (by omega) (by omega)]
  have q_out : ∀ k, k ≠ 4 → k ≠ 6 + u → ¬ (155 + 50 * u ≤ k ∧ k < 155 + 50 * u + 50) → upd (txR r u) 4 0 k = r k := fun k a b d => (pk_un a).trans (tx_out d b)
  have hb := hC.bl
  have h8 := hb.c8
  have h4 := hb.t4
  have oth : ∀ v, v < 2 → v ≠ u → LW 1 I r v → LW 1 J (upd (txR r u) 4 0) v := fun v hv hvu hl => by
    refine hl.cg1 ?_ ?_ (fun x y z => lawF_one (q_out _ (by omega) (by omega) (by omega)) (fun k hk => q_out _ (by omega) (by omega) (by omega)) (hT v hv))
    · rw [fJ _ (by omega) (by omega), f1 _ (by omega) (by omega) (by omega)]
    · rw [fJ _ (by omega) (by omega), f1 _ (by omega) (by omega) (by omega)]
  have own : LC 1 I → LW 1 J (upd (txR r u) 4 0) u := fun hl => by
    have hA : J (1 + 1 + 3 * u) = upd (I (1 + 1 + 3 * u)) 4 (nI s2) := fA
    have h6 : upd (txR r u) 4 0 (6 + u) = nI e := by
      rw [pk_un (by omega)]; unfold txR; rw [pk_us]; exact hr4
    have hB : txB (upd (txR r u) 4 0) u = rB I e := by
      funext k
      unfold txB rB
      rw [h6, kcl (by omega)]
      by_cases hk : k < e
      · rw [if_pos hk, if_pos hk, pk_un (by omega), tx_in (by omega) (by omega)]; exact (hC.ta (by omega)).symm
      · rw [if_neg hk, if_neg hk]
    refine ⟨?_, ?_, s2, hs, ?_, fun q hq => ?_, fun st x y z => ?_⟩
    · rw [hA, pk_un (by decide)]; exact (hl u hu).1
    · rw [hA, pk_un (by decide)]; exact (hl u hu).2
    · rw [hA, pk_us]
    · rw [show 1 + 2 + 3 * u = 3 + 3 * u by omega, fC q hq]; exact hok q hq
    · have ev := (hev x y z (st, 0) (Nat.zero_le _) hs).2.1
      rw [show 1 + 2 + 3 * u = 3 + 3 * u by omega, run_cg s2 fC, run_sg]
      unfold lawF walkF
      rw [h6, if_neg (nI_pos (by omega)), hB]
      rw [show s2 - 0 = s2 from rfl] at ev
      rw [ev]
      rfl
  refine ⟨⟨⟨⟨⟨(q_out 9 (by omega) (by omega) (by omega)).trans hb.c9, h8, (q_out 8 (by omega) (by omega) (by omega)).trans hb.t8, h4⟩, ?_, fun p hp => ?_, fun k hk => ?_, fun k hk l hl => ?_⟩, ?_, ?_⟩, ?_, fun k hk => ?_, fun k hk => ?_⟩, fun k hk => ?_⟩
  · rw [f8 _ (by omega) (by omega), q_out 3 (by omega) (by omega) (by omega), q_out 1 (by omega) (by omega) (by omega), q_out 10 (by omega) (by omega) (by omega), q_out 0 (by omega) (by omega) (by omega), q_out 8 (by omega) (by omega) (by omega), q_out 11 (by omega) (by omega) (by omega), q_out 9 (by omega) (by omega) (by omega), q_out 12 (by omega) (by omega) (by omega)]
    exact hb.1.2.1
  · rw [f8 _ (by omega) (by omega), q_out _ (by omega) (by omega) (by omega)]; exact hb.we hp
  · rw [f8 _ (by omega) (by omega), q_out _ (by omega) (by omega) (by omega), q_out _ (by omega) (by omega) (by omega)]; exact hb.1.2.2.2.1 k hk
  · rw [f8 _ (by omega) (by omega), q_out _ (by omega) (by omega) (by omega)]; exact hb.cr hk hl
  · rcases (show u = 0 ∨ u = 1 by omega) with e0 | e0
    · have := own hb.2.lc; rw [e0] at this ⊢; exact this
    · exact oth 0 (by decide) (by omega) hb.2.1
  · rcases (show u = 0 ∨ u = 1 by omega) with e0 | e0
    · exact oth 1 (by decide) (by omega) hb.2.2
    · have := own hb.2.lc; rw [e0] at this ⊢; exact this
  · rw [f11]
    exact ⟨pk_us.trans pk_us.symm, (pk_un (by decide)).trans (hC.g6.trans (q_out 5 (by omega) (by omega) (by omega)).symm), (pk_un (by decide)).trans (hC.g7.trans (q_out 2 (by omega) (by omega) (by omega)).symm)⟩
  · rw [f8 _ (by omega) (by omega), q_out _ (by omega) (by omega) (by omega)]; exact hC.ta hk
  · rw [f8 _ (by omega) (by omega), q_out _ (by omega) (by omega) (by omega)]; exact hC.wa hk
  · rw [fJ k (by omega) (by omega), f1 k (by omega) (by omega) (by omega)]
theorem CR.tx0 (hC : CR I r c t) (hT : TX r) {K : Nat → Nat → Int32} (fK : ∀ k, k ≠ 67 → k ≠ 68 → K k = I k) {I1 : Nat → Nat → Int32} (e1 : kset K 1 (upd (K 1) 5 0) = I1) : CR I1 (upd r 4 0) c t ∧ FX I I1 := by
  have hK : CR K r c t := KR.ag hC (fun k a b => fK k (by omega) (by omega))
  refine ⟨hK.p5 hT e1, fun k hk => ?_⟩
  rw [← e1, kset_ne _ _ (by omega), fK k (by omega) (by omega)]
theorem hLC {u : Nat} (hu : u < 2) : PP (2 + 3 * u) 0 = some (3 + 3 * u) ∧ SS[3 + 3 * u]? = some (100, 50) := by rcases (show u = 0 ∨ u = 1 by omega) with rfl | rfl <;> exact ⟨rfl, rfl⟩
theorem txQ_P (hC : CR I r c t) (hu : u < 2) (hr4 : r 4 = nI e) (he : e ≤ 50) : (txQ r u).2 = (pzP (rB I e) u 2000 0 0 0).2 := by
  have h6 : txR r u (6 + u) = nI e := by unfold txR; rw [pk_us]; exact hr4
  have hB : txB (txR r u) u = rB I e := by
    funext k
    unfold txB rB
    rw [h6, kcl (by omega)]
    by_cases hk : k < e
    · rw [if_pos hk, if_pos hk, tx_in (by omega) (by omega)]; exact (hC.ta (by omega)).symm
    · rw [if_neg hk, if_neg hk]
  unfold txQ walkF
  rw [hB]
  exact pz_i (rB I e) u 1 1 1 0 0 0 2000 0 (by decide) 0 0 0 0
set_option maxHeartbeats 2000000 in
set_option maxRecDepth 20000 in
theorem c_text (hd : 72 ≤ d) (hC : CR I r c t) (hR : RI r) (hX : RX r) (v : Int32) (hB : TB r) : Ct E d mX8_text 0 0 [.ref 0, .int v] (kJ I) (kZ I (s_text r v)) := by
  have hb := hC.bl
  have hT := hR.TX
  have h8 := hb.c8
  have h4 := hb.t4
  obtain ⟨-, -, -, -, ⟨e, hr4, he⟩, -⟩ := id hR
  have ee : (r 4).toNatClampNeg = e := by rw [hr4]; exact kcl (by omega)
  refine Ct.of (L := [some (.ref 0), some (.int v), none]) rfl rfl (Nat.le_of_ble_eq_true rfl) ?_
  refine il1 (n := 1) dX8_text_0 rfl ?_
  refine qiX8_199 (n := 4) dX8_text_1 rfl rfl (Nat.le_of_ble_eq_true rfl) (by omega) (c_isUse _) (Nat.le_refl _) (Nat.le_refl _) ?_
  refine k_ifb_ne (t := 13) (n := 7) dX8_text_4 (by decide) rfl (fun h4_ => ?_) (fun h4_ => ?_)
  · obtain ⟨u, -, hu1, rfl⟩ := kbt (a := 0) (b := 1) h4_ (by decide) (by decide)
    have hu : u < 2 := by omega
    have hP := txQ_P hC hu hr4 he
    refine al0 (n := 14) dX8_text_13 rfl ?_
    refine gX8_44 (n := 17) dX8_text_14 rfl rfl rfl rfl ?_
    refine al0 (n := 18) dX8_text_17 rfl ?_
    refine gX8_10 (n := 21) dX8_text_18 rfl rfl rfl rfl ?_
    refine gX8_196 (n := 24) dX8_text_21 rfl rfl rfl ?_
    refine k_top (hC.g5.trans hr4) ?_
    refine il1 (n := 25) dX8_text_24 rfl ?_
    refine qX8_202 (n := 28) dX8_text_25 rfl rfl (Nat.le_of_ble_eq_true rfl) (by omega) (Nat.le_refl _) (Nat.le_refl _) rfl (c_reads (by omega) hu he (fun k hk => by obtain ⟨x, h1, h2⟩ := hB k hk; exact ⟨x, h1, (hC.ta hk).trans h2⟩)) ?_
    rintro _ _ ⟨K, s2, rfl, rfl, fK, g4, g2, gs, g9⟩
    dsimp only [Option.toList, List.cons_append, List.nil_append, Nat.add_zero]
    refine is2 (n := 29) dX8_text_28 rfl trivial ?_
    refine al0 (n := 30) dX8_text_29 rfl ?_
    refine gX8_10 (n := 33) dX8_text_30 rfl rfl rfl rfl ?_
    refine k_iconst (a := 0) (n := 34) dX8_text_33 rfl rfl ?_
    refine pX8_196 (n := 37) dX8_text_34 rfl rfl rfl ?_
    refine k_gen (fun I1 e1 => ?_)
    refine il2 (n := 38) dX8_text_37 rfl ?_
    refine k_ifb_ne (t := 52) (n := 41) dX8_text_38 (by decide) rfl (fun h38 => ?_) (fun h38 => ?_)
    · refine al0 (n := 53) dX8_text_52 rfl ?_
      refine gX8_10 (n := 56) dX8_text_53 rfl rfl rfl rfl ?_
      refine il1 (n := 57) dX8_text_56 rfl ?_
      refine qX8_208 (n := 60) dX8_text_57 rfl rfl (Nat.le_of_ble_eq_true rfl) (by omega) (Nat.le_refl _) (Nat.le_refl _) rfl (c_lawOf u hu) ?_
      rintro _ _ ⟨rfl, rfl⟩
      dsimp only [Option.toList, List.cons_append, List.nil_append, Nat.add_zero]
      refine al0 (n := 61) dX8_text_60 rfl ?_
      refine gX8_44 (n := 64) dX8_text_61 rfl rfl rfl rfl ?_
      refine gX8_212 (n := 67) dX8_text_64 rfl rfl rfl rfl ?_
      refine al0 (n := 68) dX8_text_67 rfl ?_
      refine gX8_44 (n := 71) dX8_text_68 rfl rfl rfl rfl ?_
      refine gX8_215 (n := 74) dX8_text_71 rfl rfl rfl ?_
      refine k_top (show I1 67 2 = nI s2 by rw [← e1, kset_ne _ _ (by decide)]; exact g2) ?_
      refine qiX8_218 (n := 77) dX8_text_74 rfl rfl (Nat.le_of_ble_eq_true rfl) (by omega) (hL3 hu) (c_take (A := 2 + 3 * u) (C := 3 + 3 * u) (F := 68) (hL3 hu) (hLC hu).1 (hLC hu).2 rfl (by omega) (by omega) gs) (Nat.le_refl _) (Nat.le_refl _) ?_
      refine k_iconst (a := 1) (n := 78) dX8_text_77 rfl rfl ?_
      refine k_ireturn (ty := .int) dX8_text_78 rfl rfl (Nat.le_refl _) (Nat.le_refl _) ?_
      have h38' := h38
      rw [← hP] at h38'
      obtain ⟨g8, g7⟩ := g9 h38.1
      obtain ⟨c1, c2⟩ := hC.tx hT hu hr4 he fK gs g8 g7 e1 rfl
      have hyes : txO r u := ⟨h38'.1, h38'.2.trans ee.symm⟩
      exact kZ.to (by simp only [s_text, if_pos h4_, kcl (show u < 1000 by omega), if_pos hyes]) (kZ_x c1 c2)
    · refine k_bipush (a := (-10)) (n := 43) dX8_text_41 rfl rfl ?_
      refine al0 (n := 44) dX8_text_43 rfl ?_
      refine gX8_44 (n := 47) dX8_text_44 rfl rfl rfl rfl ?_
      refine gX8_205 (n := 50) dX8_text_47 rfl rfl rfl ?_
      refine k_top (show I1 67 4 = nI (pzP (rB I e) u 2000 0 0 0).2.1 by rw [← e1, kset_ne _ _ (by decide)]; exact g4) ?_
      refine k_isub (n := 51) dX8_text_50 rfl ?_
      refine k_ireturn (ty := .int) dX8_text_51 rfl rfl (Nat.le_refl _) (Nat.le_refl _) ?_
      obtain ⟨c1, c2⟩ := hC.tx0 hT fK e1
      have hno : ¬ txO r u := fun z => h38 (by rw [← hP]; exact ⟨z.1, z.2.trans ee⟩)
      exact kZ.to (by simp only [s_text, if_pos h4_, kcl (show u < 1000 by omega), if_neg hno]; rw [hP]) (kZ_x c1 c2)
  · refine al0 (n := 8) dX8_text_7 rfl ?_
    refine k_iconst (a := 1) (n := 9) dX8_text_8 rfl rfl ?_
    refine qiX8_69 (n := 12) dX8_text_9 rfl rfl (Nat.le_of_ble_eq_true rfl) (by omega) rfl (c_refuse1 (by omega)) (Nat.le_refl _) (Nat.le_refl _) ?_
    refine k_ireturn (ty := .int) dX8_text_12 rfl rfl (Nat.le_refl _) (Nat.le_refl _) ?_
    exact kZ.to (by simp only [s_text, if_neg h4_]) (kZ_e1 hC (FX.rf _))
end C20

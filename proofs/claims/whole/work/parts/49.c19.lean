section C19
variable {E : kE} {d u e a s : Nat} {I J : Nat → Nat → Int32} {B : Nat → Int32}
theorem rS.wa (h : rS I B u e a s) (ha : a < e) (v : Int32) (e1 : kset (wrF I s v) 67 (upd (wrF I s v 67) 4 (nI a + 1)) = J) : rS J B u e (a + 1) (s + 1) ∧ rF I J ∧ J 68 = upd (I 68) s v := by
  have hf0 : rF I (wrF I s v) := ⟨fun k p q => by unfold wrF; rw [kset_ne _ _ p, kset_ne _ _ q], fun j p q => by unfold wrF; rw [kset_same, pk_un p]⟩
  have hf : rF I J := hf0.tr ⟨fun k p q => by rw [← e1, kset_ne _ _ p], fun j p q => by rw [← e1, kset_same, pk_un q]⟩
  have hsa := h.2.2.2.2
  refine ⟨⟨h.1.fr hf, ?_, ha, ?_, by omega⟩, hf, ?_⟩
  · rw [← e1, kset_same, pk_us, nI_1]
  · rw [← e1, kset_same, pk_un (by decide)]; unfold wrF; rw [kset_same, pk_us, nI_1]
  · rw [← e1, kset_ne _ _ (by decide)]; unfold wrF; rw [kset_ne _ _ (by decide), kset_same]
theorem num_1 (hB : ∀ k, e ≤ k → B k = -1) (ha : a < e) (h : 48 ≤ B a ∧ B a ≤ 57) : a + 1 ≤ (numF B 4 0 a).2 ∧ (numF B 4 0 a).2 ≤ e := by
  rw [numF, if_pos h]
  exact numF_le B hB 3 _ (a + 1) (by omega)
theorem nm_q (h : rC I B u e) : (I 67 5 = 1 ∧ 1005 + u = 1005) ∨ (I 67 5 = 2 ∧ 1005 + u = 1006) := by
  have h5 := h.2.2.2.1
  rcases (show u = 0 ∨ u = 1 by have := h.2.2.1; omega) with rfl | rfl
  · exact Or.inl ⟨h5, rfl⟩
  · exact Or.inr ⟨h5, rfl⟩
theorem nm_no (hu : u < 2) {x : Nat} (h : ¬ 0 ≤ ixF u x) (p q v : Int32) (a : Nat) : namF (B, u, p, q, v) (nI x) a = (0, a, false) := by
  unfold ixF at h
  by_cases h0 : nI x = nmB u 0
  · rw [if_pos h0] at h; exact absurd (by decide) h
  · rw [if_neg h0] at h
    by_cases h1 : nI x = nmB u 1
    · rw [if_pos h1] at h; exact absurd (by decide) h
    · rw [if_neg h1] at h
      by_cases h2 : nI x = nmB u 2
      · rw [if_pos h2] at h; exact absurd (by decide) h
      · rcases (show u = 0 ∨ u = 1 by omega) with rfl | rfl
        · exact (if_neg h0).trans ((if_neg h1).trans (if_neg h2))
        · exact (if_neg h0).trans ((if_neg h1).trans (if_neg h2))
theorem nm_yes (hu : u < 2) {x : Nat} (h : 0 ≤ ixF u x) : ∃ w : Int32, -1 - ixF u x = w ∧ -3 ≤ w ∧ ∀ (p q v : Int32) (a : Nat), namF (B, u, p, q, v) (nI x) a = ((if 0 ≤ w then w else if w = -1 then p else if w = -2 then q else v), a + 1, true) := by
  unfold ixF at h ⊢
  by_cases h0 : nI x = nmB u 0
  · refine ⟨-1, by rw [if_pos h0]; decide, by decide, fun p q v a => ?_⟩
    rw [if_neg (show ¬ (0 : Int32) ≤ -1 by decide), if_pos (show (-1 : Int32) = -1 from rfl)]
    rcases (show u = 0 ∨ u = 1 by omega) with rfl | rfl <;> exact if_pos h0
  · by_cases h1 : nI x = nmB u 1
    · refine ⟨-2, by rw [if_neg h0, if_pos h1]; decide, by decide, fun p q v a => ?_⟩
      rw [if_neg (show ¬ (0 : Int32) ≤ -2 by decide), if_neg (show ¬ (-2 : Int32) = -1 by decide), if_pos (show (-2 : Int32) = -2 from rfl)]
      rcases (show u = 0 ∨ u = 1 by omega) with rfl | rfl <;> exact (if_neg h0).trans (if_pos h1)
    · by_cases h2 : nI x = nmB u 2
      · refine ⟨-3, by rw [if_neg h0, if_neg h1, if_pos h2]; decide, by decide, fun p q v a => ?_⟩
        rw [if_neg (show ¬ (0 : Int32) ≤ -3 by decide), if_neg (show ¬ (-3 : Int32) = -1 by decide), if_neg (show ¬ (-3 : Int32) = -2 by decide)]
        rcases (show u = 0 ∨ u = 1 by omega) with rfl | rfl <;> exact (if_neg h0).trans ((if_neg h1).trans (if_pos h2))
      · rw [if_neg h0, if_neg h1, if_neg h2] at h; exact absurd h (by decide)
theorem nm_m1 (hu : u < 2) (p q v : Int32) (a : Nat) : namF (B, u, p, q, v) (-1) a = (0, a, false) := by
  rcases (show u = 0 ∨ u = 1 by omega) with rfl | rfl <;> rfl
/-- units, by their first byte -/
theorem pz5_n {n op : Nat} (h : ¬ (48 ≤ B a ∧ B a ≤ 57)) (h1 : ¬ B a = 33) (h2 : ¬ B a = 40) (x y z : Int32) : pz (B, u, x, y, z) (n + 1) 5 0 a op = namF (B, u, x, y, z) (B a) a := by
  rw [pz5, if_neg h, if_neg h1, if_neg h2]
theorem pz5_5 {n : Nat} (h : ¬ (48 ≤ B a ∧ B a ≤ 57)) (h1 : B a = 33 ∨ B a = 40) (x y z : Int32) : pz (B, u, x, y, z) (n + 1) 5 0 a 5 = (0, a, false) := by
  rw [pz5, if_neg h]
  rcases h1 with h1 | h1
  · rw [if_pos h1, if_pos rfl]
  · rw [if_neg (show ¬ B a = 33 by rw [h1]; decide), if_pos h1, if_pos rfl]
theorem pz5_b {n op : Nat} (h1 : B a = 33) (hop : op < 5) (x y z : Int32) : pz (B, u, x, y, z) (n + 1) 5 0 a op = (kb ((pz (B, u, x, y, z) n 5 0 (a + 1) (op + 1)).1 = 0), (pz (B, u, x, y, z) n 5 0 (a + 1) (op + 1)).2.1, (pz (B, u, x, y, z) n 5 0 (a + 1) (op + 1)).2.2) := by
  rw [pz5, if_neg (show ¬ (48 ≤ B a ∧ B a ≤ 57) by rw [h1]; decide), if_pos h1, if_neg (by omega)]
theorem pz5_p {n op : Nat} (h1 : B a = 40) (hop : op < 5) (x y z : Int32) : pz (B, u, x, y, z) (n + 1) 5 0 a op = (if (pz (B, u, x, y, z) n 0 0 (a + 1) (op + 1)).2.2 then (if B (pz (B, u, x, y, z) n 0 0 (a + 1) (op + 1)).2.1 = 41 then ((pz (B, u, x, y, z) n 0 0 (a + 1) (op + 1)).1, (pz (B, u, x, y, z) n 0 0 (a + 1) (op + 1)).2.1 + 1, true) else (0, (pz (B, u, x, y, z) n 0 0 (a + 1) (op + 1)).2.1, false)) else (0, (pz (B, u, x, y, z) n 0 0 (a + 1) (op + 1)).2.1, false)) := by
  rw [pz5, if_neg (show ¬ (48 ≤ B a ∧ B a ≤ 57) by rw [h1]; decide), if_neg (show ¬ B a = 33 by rw [h1]; decide), if_pos h1, if_neg (by omega)]
set_option maxHeartbeats 2000000 in
set_option maxRecDepth 20000 in
theorem ro_n {n op : Nat} (hS : rS I B u e a s) (hop : op < 5) (hfu : 16 * (e + 1 - a) + 1 ≤ n + 1) (hd : 9 * (5 - op) + 6 ≤ d) (hU : RUK E n) (hb : B a = 33) : Ct E d mX4_readOpened 0 0 [.ref 67, .int 33, .int (nI (op + 1))] (kJ I) (rPL I B u e a s (pzP B u (n + 1) 5 a op) (pzV B u (n + 1) 5 a op)) := by
  have hsa := hS.2.2.2.2
  have h50 := hS.1.2.1
  have hae : a < e := hS.1.lt (by rw [hb]; decide)
  have hk5 : rkF 5 = 1 ∧ rkF 0 = 10 := by decide
  refine Ct.of (L := [some (.ref 67), some (.int 33), some (.int (nI (op + 1))), none]) rfl rfl (Nat.le_of_ble_eq_true rfl) ?_
  refine al0 (n := 1) dX4_readOpened_0 rfl ?_
  refine k_dup (n := 2) dX4_readOpened_1 rfl rfl ?_
  refine gX4_39 (n := 5) dX4_readOpened_2 rfl rfl rfl ?_
  refine k_top hS.2.1 ?_
  refine k_iconst (a := 1) (n := 6) dX4_readOpened_5 rfl rfl ?_
  refine k_iadd (n := 7) dX4_readOpened_6 rfl ?_
  refine pX4_39 (n := 10) dX4_readOpened_7 rfl rfl rfl ?_
  refine k_gen (fun I1 e1 => ?_)
  obtain ⟨hS1, hf1, g68⟩ := hS.at1 hae e1
  refine il1 (n := 11) dX4_readOpened_10 rfl ?_
  refine k_bipush (a := 33) (n := 13) dX4_readOpened_11 rfl rfl ?_
  refine k_icmp_ne (t := 30) (n := 16) dX4_readOpened_13 (by decide) rfl (fun h13 => ?_) (fun h13 => ?_)
  · exact absurd rfl h13
  · refine al0 (n := 17) dX4_readOpened_16 rfl ?_
    refine il2 (n := 18) dX4_readOpened_17 rfl ?_
    refine qX4_46 (n := 21) dX4_readOpened_18 rfl rfl (Nat.le_of_ble_eq_true rfl) (by omega) (Nat.le_refl _) (Nat.le_refl _) rfl (hU (d - 1) I1 B u e (a + 1) (op + 1) s hS1 (by omega) (by omega) (by omega)) ?_
    rintro _ _ ⟨K, s2, rfl, rfl, g1, g2, g3, g4, g5, g6⟩
    dsimp only [Option.toList, List.cons_append, List.nil_append, Nat.add_zero]
    refine is3 (n := 22) dX4_readOpened_21 rfl trivial ?_
    refine al0 (n := 23) dX4_readOpened_22 rfl ?_
    refine k_bipush (a := (-33)) (n := 25) dX4_readOpened_23 rfl rfl ?_
    refine qiX4_58 (n := 28) dX4_readOpened_25 rfl rfl (Nat.le_of_ble_eq_true rfl) (by omega) rfl (c_wr g2.2.2.2.1 (by have := g2.2.2.1; omega) _) (Nat.le_refl _) (Nat.le_refl _) ?_
    refine il3 (n := 29) dX4_readOpened_28 rfl ?_
    refine k_ireturn (ty := .boolean) dX4_readOpened_29 rfl (knb _) (Nat.le_refl _) (Nat.le_refl _) ?_
    obtain ⟨w1, w2, w3⟩ := g2.wr (-33) (by omega)
    refine rPL.to (P' := (kb ((pzP B u n 5 (a + 1) (op + 1)).1 = 0), (pzP B u n 5 (a + 1) (op + 1)).2.1, (pzP B u n 5 (a + 1) (op + 1)).2.2)) (V' := fun x y z => kb (pzV B u n 5 (a + 1) (op + 1) x y z = 0)) (pz5_b hb hop 0 0 0) (fun x y z => by unfold pzV; rw [pz5_b hb hop x y z]) ?_
    refine ⟨wrF K s2 (-33), s2 + 1, rfl, rfl, (hf1.tr g1).tr w2, w1, by omega, by dsimp only; omega, fun q hq => by rw [w3, pk_un (by omega), g5 q hq, g68], fun z => ?_⟩
    obtain ⟨g7, g8, g9⟩ := g6 z
    refine ⟨by omega, fun q p r => ?_, ?_⟩
    · rw [w3]
      by_cases hq : q = s2
      · rw [hq, pk_us]; exact Or.inr (Or.inl rfl)
      · rw [pk_un hq]; exact g8 q p (by omega)
    · rw [w3]
      exact EV_not (g9.cg (by omega) (fun q p r => pk_un (by omega))) g7 pk_us
set_option maxHeartbeats 2000000 in
set_option maxRecDepth 20000 in
theorem ro_p {n op : Nat} (hS : rS I B u e a s) (hop : op < 5) (hfu : 16 * (e + 1 - a) + 1 ≤ n + 1) (hd : 9 * (5 - op) + 6 ≤ d) (hL : RLK E n 0) (hb : B a = 40) : Ct E d mX4_readOpened 0 0 [.ref 67, .int 40, .int (nI (op + 1))] (kJ I) (rPL I B u e a s (pzP B u (n + 1) 5 a op) (pzV B u (n + 1) 5 a op)) := by
  have hsa := hS.2.2.2.2
  have h50 := hS.1.2.1
  have hae : a < e := hS.1.lt (by rw [hb]; decide)
  have hk5 : rkF 5 = 1 ∧ rkF 0 = 10 := by decide
  have hpi : ∀ x y z, (pz (B, u, x, y, z) n 0 0 (a + 1) (op + 1)).2 = (pzP B u n 0 (a + 1) (op + 1)).2 := fun x y z => pz_i B u x y z 0 0 0 n 0 (by omega) 0 0 (a + 1) (op + 1)
  refine Ct.of (L := [some (.ref 67), some (.int 40), some (.int (nI (op + 1))), none]) rfl rfl (Nat.le_of_ble_eq_true rfl) ?_
  refine al0 (n := 1) dX4_readOpened_0 rfl ?_
  refine k_dup (n := 2) dX4_readOpened_1 rfl rfl ?_
  refine gX4_39 (n := 5) dX4_readOpened_2 rfl rfl rfl ?_
  refine k_top hS.2.1 ?_
  refine k_iconst (a := 1) (n := 6) dX4_readOpened_5 rfl rfl ?_
  refine k_iadd (n := 7) dX4_readOpened_6 rfl ?_
  refine pX4_39 (n := 10) dX4_readOpened_7 rfl rfl rfl ?_
  refine k_gen (fun I1 e1 => ?_)
  obtain ⟨hS1, hf1, g68⟩ := hS.at1 hae e1
  refine il1 (n := 11) dX4_readOpened_10 rfl ?_
  refine k_bipush (a := 33) (n := 13) dX4_readOpened_11 rfl rfl ?_
  refine k_icmp_ne (t := 30) (n := 16) dX4_readOpened_13 (by decide) rfl (fun h13 => ?_) (fun h13 => ?_)
  · refine al0 (n := 31) dX4_readOpened_30 rfl ?_
    refine k_iconst (a := 0) (n := 32) dX4_readOpened_31 rfl rfl ?_
    refine il2 (n := 33) dX4_readOpened_32 rfl ?_
    refine qX4_42 (n := 36) dX4_readOpened_33 rfl rfl (Nat.le_of_ble_eq_true rfl) (by omega) (Nat.le_refl _) (Nat.le_refl _) rfl (hL (d - 1) I1 B u e (a + 1) (op + 1) s hS1 (by omega) (by omega) (by omega)) ?_
    rintro _ _ ⟨K, s2, rfl, rfl, g1, g2, g3, g4, g5, g6⟩
    dsimp only [Option.toList, List.cons_append, List.nil_append, Nat.add_zero]
    refine k_ifb_eq (t := 48) (n := 39) dX4_readOpened_36 (by decide) rfl (fun h36 => ?_) (fun h36 => ?_)
    · refine k_iconst (a := 0) (n := 49) dX4_readOpened_48 rfl rfl ?_
      refine k_ireturn (ty := .boolean) dX4_readOpened_49 rfl (by first | rfl | exact knb _) (Nat.le_refl _) (Nat.le_refl _) ?_
      refine rPL.to (P' := (0, (pzP B u n 0 (a + 1) (op + 1)).2.1, false)) (V' := pzV B u (n + 1) 5 a op) ?_ (fun _ _ _ => rfl) ?_
      · unfold pzP at *
        rw [pz5_p hb hop]
        first
          | rw [if_neg h36]
          | rw [if_pos h36, if_neg h45]
      · exact ⟨K, s2, rfl, rfl, hf1.tr g1, g2, by omega, by dsimp only; omega, fun q hq => by rw [g5 q hq, g68], fun z => absurd (show false = true from z) (by decide)⟩
    · refine al0 (n := 40) dX4_readOpened_39 rfl ?_
      refine qiX4_50 (n := 43) dX4_readOpened_40 rfl rfl (Nat.le_of_ble_eq_true rfl) (by omega) rfl (c_ahead g2) (Nat.le_refl _) (Nat.le_refl _) ?_
      refine k_bipush (a := 41) (n := 45) dX4_readOpened_43 rfl rfl ?_
      refine k_icmp_eq (t := 50) (n := 48) dX4_readOpened_45 (by decide) rfl (fun h45 => ?_) (fun h45 => ?_)
      · refine al0 (n := 51) dX4_readOpened_50 rfl ?_
        refine k_dup (n := 52) dX4_readOpened_51 rfl rfl ?_
        refine gX4_39 (n := 55) dX4_readOpened_52 rfl rfl rfl ?_
        refine k_top g2.2.1 ?_
        refine k_iconst (a := 1) (n := 56) dX4_readOpened_55 rfl rfl ?_
        refine k_iadd (n := 57) dX4_readOpened_56 rfl ?_
        refine pX4_39 (n := 60) dX4_readOpened_57 rfl rfl rfl ?_
        refine k_gen (fun I2 e2 => ?_)
        refine k_iconst (a := 1) (n := 61) dX4_readOpened_60 rfl rfl ?_
        refine k_ireturn (ty := .boolean) dX4_readOpened_61 rfl (by first | rfl | exact knb _) (Nat.le_refl _) (Nat.le_refl _) ?_
        have hlt : (pzP B u n 0 (a + 1) (op + 1)).2.1 < e := g2.1.lt (by rw [h45]; decide)
        obtain ⟨hS2, hf2, k68⟩ := g2.at1 hlt e2
        have hst : ∀ x y z, pz (B, u, x, y, z) (n + 1) 5 0 a op = (pzV B u n 0 (a + 1) (op + 1) x y z, (pzP B u n 0 (a + 1) (op + 1)).2.1 + 1, true) := fun x y z => by
          rw [pz5_p hb hop, hpi x y z, if_pos h36, if_pos h45]
          rfl
        refine rPL.to (hst 0 0 0) (V' := pzV B u n 0 (a + 1) (op + 1)) (fun x y z => by unfold pzV; rw [hst x y z]; rfl) ?_
        obtain ⟨g7, g8, g9⟩ := g6 h36
        exact ⟨I2, s2, rfl, rfl, (hf1.tr g1).tr hf2, hS2, by omega, by dsimp only; omega, fun q hq => by rw [k68, g5 q hq, g68], fun _ => ⟨g7, by rw [k68]; exact g8, by rw [k68]; exact g9⟩⟩
      · refine k_iconst (a := 0) (n := 49) dX4_readOpened_48 rfl rfl ?_
        refine k_ireturn (ty := .boolean) dX4_readOpened_49 rfl (by first | rfl | exact knb _) (Nat.le_refl _) (Nat.le_refl _) ?_
        refine rPL.to (P' := (0, (pzP B u n 0 (a + 1) (op + 1)).2.1, false)) (V' := pzV B u (n + 1) 5 a op) ?_ (fun _ _ _ => rfl) ?_
        · unfold pzP at *
          rw [pz5_p hb hop]
          first
            | rw [if_neg h36]
            | rw [if_pos h36, if_neg h45]
        · exact ⟨K, s2, rfl, rfl, hf1.tr g1, g2, by omega, by dsimp only; omega, fun q hq => by rw [g5 q hq, g68], fun z => absurd (show false = true from z) (by decide)⟩
  · exact absurd h13 (by decide)
theorem ro (hS : rS I B u e a s) {n op : Nat} (hop : op < 5) (hfu : 16 * (e + 1 - a) + 1 ≤ n + 1) (hd : 9 * (5 - op) + 6 ≤ d) (hU : RUK E n) (hL : RLK E n 0) (hb : B a = 33 ∨ B a = 40) : Ct E d mX4_readOpened 0 0 [.ref 67, .int (B a), .int (nI (op + 1))] (kJ I) (rPL I B u e a s (pzP B u (n + 1) 5 a op) (pzV B u (n + 1) 5 a op)) := by
  rcases hb with hb | hb
  · rw [hb]; exact ro_n hS hop hfu hd hU hb
  · rw [hb]; exact ro_p hS hop hfu hd hL hb
set_option maxHeartbeats 2000000 in
set_option maxRecDepth 20000 in
theorem ru_n {n : Nat} (hU : ∀ m, m ≤ n → RUK E m) (hL : ∀ m, m ≤ n → RLK E m 0) : RUK E (n + 1) := by
  intro d I B u e a op s hS hop hfu hd
  have hsa := hS.2.2.2.2
  have h50 := hS.1.2.1
  have hsi : u < 2 := hS.1.2.2.1
  have hk5 : rkF 5 = 1 := by decide
  refine Ct.of (L := [some (.ref 67), some (.int (nI op)), none, none]) rfl rfl (Nat.le_of_ble_eq_true rfl) ?_
  refine al0 (n := 1) dX4_readUnit_0 rfl ?_
  refine qiX4_50 (n := 4) dX4_readUnit_1 rfl rfl (Nat.le_of_ble_eq_true rfl) (by omega) rfl (c_ahead hS) (Nat.le_refl _) (Nat.le_refl _) ?_
  refine is2 (n := 5) dX4_readUnit_4 rfl trivial ?_
  refine il2 (n := 6) dX4_readUnit_5 rfl ?_
  refine qiX4_62 (n := 9) dX4_readUnit_6 rfl rfl (Nat.le_of_ble_eq_true rfl) (by omega) (c_dig _) (Nat.le_refl _) (Nat.le_refl _) ?_
  refine k_ifb_eq (t := 18) (n := 12) dX4_readUnit_9 (by decide) rfl (fun h9 => ?_) (fun h9 => ?_)
  · refine il2 (n := 19) dX4_readUnit_18 rfl ?_
    refine k_bipush (a := 33) (n := 21) dX4_readUnit_19 rfl rfl ?_
    refine k_icmp_eq (t := 30) (n := 24) dX4_readUnit_21 (by decide) rfl (fun h21 => ?_) (fun h21 => ?_)
    · refine il1 (n := 31) dX4_readUnit_30 rfl ?_
      refine k_iconst (a := 5) (n := 32) dX4_readUnit_31 rfl rfl ?_
      refine k_icmp_ge (t := 50) (n := 35) dX4_readUnit_32 (by decide) rfl (fun h32 => ?_) (fun h32 => ?_)
      · have eop : op = 5 := Nat.le_antisymm hop (Nat.le_of_not_lt fun z => nI_ge (a := op) (b := 5) z (by decide) h32)
        refine k_iconst (a := 0) (n := 51) dX4_readUnit_50 rfl rfl ?_
        refine k_ireturn (ty := .boolean) dX4_readUnit_51 rfl (by first | rfl | exact knb _) (Nat.le_refl _) (Nat.le_refl _) ?_
        first
          | (subst eop
             refine rPL.to (P' := (0, a, false)) (V' := pzV B u (n + 1) 5 a 5) (pz5_5 h9 (by first | exact Or.inl h21 | exact Or.inr h27) 0 0 0) (fun _ _ _ => rfl) ?_
             exact ⟨I, s, rfl, rfl, rF.rf I, hS, Nat.le_refl _, by dsimp only; omega, fun _ _ => rfl, fun z => absurd (show false = true from z) (by decide)⟩)
          | exact ⟨K, s2, by rw [kb_t h43], rfl, g1, g2, g3, g4, g5, g6⟩
          | exact ⟨K, s2, by rw [kb_f h43], rfl, g1, g2, g3, g4, g5, g6⟩
      · have hlt : op < 5 := Nat.lt_of_not_le fun z => h32 (Int32.not_lt.mp (nI_nlt (a := op) (b := 5) z (by omega)))
        refine al0 (n := 36) dX4_readUnit_35 rfl ?_
        refine il2 (n := 37) dX4_readUnit_36 rfl ?_
        refine il1 (n := 38) dX4_readUnit_37 rfl ?_
        refine k_iconst (a := 1) (n := 39) dX4_readUnit_38 rfl rfl ?_
        refine k_iadd (n := 40) dX4_readUnit_39 rfl ?_
        rw [nI_1]
        refine qX4_68 (n := 43) dX4_readUnit_40 rfl rfl (Nat.le_of_ble_eq_true rfl) (by omega) (Nat.le_refl _) (Nat.le_refl _) rfl (ro hS hlt (by omega) (by omega) (hU n (Nat.le_refl _)) (hL n (Nat.le_refl _)) (by first | exact Or.inl h21 | exact Or.inr h27)) ?_
        rintro _ _ ⟨K, s2, rfl, rfl, g1, g2, g3, g4, g5, g6⟩
        dsimp only [Option.toList, List.cons_append, List.nil_append, Nat.add_zero]
        refine k_ifb_eq (t := 50) (n := 46) dX4_readUnit_43 (by decide) rfl (fun h43 => ?_) (fun h43 => ?_)
        · refine k_iconst (a := 0) (n := 51) dX4_readUnit_50 rfl rfl ?_
          refine k_ireturn (ty := .boolean) dX4_readUnit_51 rfl (by first | rfl | exact knb _) (Nat.le_refl _) (Nat.le_refl _) ?_
          first
            | (subst eop
               refine rPL.to (P' := (0, a, false)) (V' := pzV B u (n + 1) 5 a 5) (pz5_5 h9 (by first | exact Or.inl h21 | exact Or.inr h27) 0 0 0) (fun _ _ _ => rfl) ?_
               exact ⟨I, s, rfl, rfl, rF.rf I, hS, Nat.le_refl _, by dsimp only; omega, fun _ _ => rfl, fun z => absurd (show false = true from z) (by decide)⟩)
            | exact ⟨K, s2, by rw [kb_t h43], rfl, g1, g2, g3, g4, g5, g6⟩
            | exact ⟨K, s2, by rw [kb_f h43], rfl, g1, g2, g3, g4, g5, g6⟩
        · refine k_iconst (a := 1) (n := 47) dX4_readUnit_46 rfl rfl ?_
          refine k_goto (n := 51) dX4_readUnit_47 (by decide) ?_
          refine k_ireturn (ty := .boolean) dX4_readUnit_51 rfl (by first | rfl | exact knb _) (Nat.le_refl _) (Nat.le_refl _) ?_
          first
            | (subst eop
               refine rPL.to (P' := (0, a, false)) (V' := pzV B u (n + 1) 5 a 5) (pz5_5 h9 (by first | exact Or.inl h21 | exact Or.inr h27) 0 0 0) (fun _ _ _ => rfl) ?_
               exact ⟨I, s, rfl, rfl, rF.rf I, hS, Nat.le_refl _, by dsimp only; omega, fun _ _ => rfl, fun z => absurd (show false = true from z) (by decide)⟩)
            | exact ⟨K, s2, by rw [kb_t h43], rfl, g1, g2, g3, g4, g5, g6⟩
            | exact ⟨K, s2, by rw [kb_f h43], rfl, g1, g2, g3, g4, g5, g6⟩
    · refine il2 (n := 25) dX4_readUnit_24 rfl ?_
      refine k_bipush (a := 40) (n := 27) dX4_readUnit_25 rfl rfl ?_
      refine k_icmp_ne (t := 52) (n := 30) dX4_readUnit_27 (by decide) rfl (fun h27 => ?_) (fun h27 => ?_)
      · refine il2 (n := 53) dX4_readUnit_52 rfl ?_
        refine k_iconst (a := (-1)) (n := 54) dX4_readUnit_53 rfl rfl ?_
        refine k_icmp_ne (t := 61) (n := 57) dX4_readUnit_54 (by decide) rfl (fun h54 => ?_) (fun h54 => ?_)
        · have hae : a < e := hS.1.lt h54
          obtain ⟨x, hx, ex⟩ := hS.1.2.2.2.2.2.1 a hae
          refine al0 (n := 62) dX4_readUnit_61 rfl ?_
          refine gX4_17 (n := 65) dX4_readUnit_62 rfl rfl rfl (nm_q hS.1) ?_
          refine il2 (n := 66) dX4_readUnit_65 rfl ?_
          refine k_i2c (n := 67) dX4_readUnit_66 rfl ?_
          rw [ex, i2c_eq x hx]
          refine k_invVS (z := mJ0_indexOf_0f7a4) (As := [.int (nI x)]) (n := 70) dX4_readUnit_67 rfl wJ0_indexOf_0f7a4 (gwi 501 (by decide +kernel) rfl) (gwi 502 (by decide +kernel) rfl) (gwi 503 (by decide +kernel) rfl) hsi rfl (Nat.le_of_ble_eq_true rfl) (by omega) (Nat.le_refl _) (Nat.le_refl _) (j_io (by omega) hsi x hx) (fun v M' hv => kRi hv ?_)
          refine is3 (n := 71) dX4_readUnit_70 rfl trivial ?_
          refine il3 (n := 72) dX4_readUnit_71 rfl ?_
          refine k_if_ge (t := 77) (n := 75) dX4_readUnit_72 (by decide) rfl (fun h72 => ?_) (fun h72 => ?_)
          · refine al0 (n := 78) dX4_readUnit_77 rfl ?_
            refine k_iconst (a := (-1)) (n := 79) dX4_readUnit_78 rfl rfl ?_
            refine il3 (n := 80) dX4_readUnit_79 rfl ?_
            refine k_isub (n := 81) dX4_readUnit_80 rfl ?_
            refine qiX4_58 (n := 84) dX4_readUnit_81 rfl rfl (Nat.le_of_ble_eq_true rfl) (by omega) rfl (c_wr hS.2.2.2.1 (by omega) _) (Nat.le_refl _) (Nat.le_refl _) ?_
            refine al0 (n := 85) dX4_readUnit_84 rfl ?_
            refine k_dup (n := 86) dX4_readUnit_85 rfl rfl ?_
            refine gX4_39 (n := 89) dX4_readUnit_86 rfl rfl rfl ?_
            refine k_top (show wrF I s _ 67 4 = nI a by unfold wrF; rw [kset_same, pk_un (by decide)]; exact hS.2.1) ?_
            refine k_iconst (a := 1) (n := 90) dX4_readUnit_89 rfl rfl ?_
            refine k_iadd (n := 91) dX4_readUnit_90 rfl ?_
            refine pX4_39 (n := 94) dX4_readUnit_91 rfl rfl rfl ?_
            refine k_gen (fun I1 e1 => ?_)
            refine k_iconst (a := 1) (n := 95) dX4_readUnit_94 rfl rfl ?_
            refine k_ireturn (ty := .boolean) dX4_readUnit_95 rfl (by first | rfl | exact knb _) (Nat.le_refl _) (Nat.le_refl _) ?_
            obtain ⟨v, hv, hv3, hvn⟩ := nm_yes (B := B) hsi h72
            obtain ⟨w1, w2, w3⟩ := hS.wa hae _ e1
            rw [hv] at w3
            have hst : ∀ x y z, pz (B, u, x, y, z) (n + 1) 5 0 a op = ((if 0 ≤ v then v else if v = -1 then x else if v = -2 then y else z), a + 1, true) := fun x y z => by rw [pz5_n h9 h21 h27, ex]; exact hvn x y z a
            refine rPL.to (hst 0 0 0) (V' := fun x y z => (if 0 ≤ v then v else if v = -1 then x else if v = -2 then y else z)) (fun x y z => by unfold pzV; rw [hst x y z]) ?_
            refine ⟨I1, s + 1, rfl, rfl, w2, w1, by omega, by dsimp only; omega, fun q hq => by rw [w3, pk_un (by omega)], fun _ => ⟨by omega, fun q p r => ?_, ?_⟩⟩
            · rw [w3, show q = s by omega, pk_us]
              exact Or.inl hv3
            · rw [w3]
              exact EV_push pk_us hv3 (fun x y z => rfl)
          · refine k_iconst (a := 0) (n := 76) dX4_readUnit_75 rfl rfl ?_
            refine k_ireturn (ty := .boolean) dX4_readUnit_76 rfl (by first | rfl | exact knb _) (Nat.le_refl _) (Nat.le_refl _) ?_
            refine rPL.to (P' := (0, a, false)) (V' := pzV B u (n + 1) 5 a op) ?_ (fun _ _ _ => rfl) ?_
            · unfold pzP
              rw [pz5_n h9 h21 h27]
              rw [ex]
              exact nm_no hsi h72 0 0 0 a
            · exact ⟨I, s, rfl, rfl, rF.rf I, hS, Nat.le_refl _, by dsimp only; omega, fun _ _ => rfl, fun z => absurd (show false = true from z) (by decide)⟩
        · refine k_iconst (a := (-1)) (n := 58) dX4_readUnit_57 rfl rfl ?_
          refine k_goto (n := 70) dX4_readUnit_58 (by decide) ?_
          refine is3 (n := 71) dX4_readUnit_70 rfl trivial ?_
          refine il3 (n := 72) dX4_readUnit_71 rfl ?_
          refine k_if_ge (t := 77) (n := 75) dX4_readUnit_72 (by decide) rfl (fun h72 => absurd h72 (by decide)) (fun h72 => ?_)
          refine k_iconst (a := 0) (n := 76) dX4_readUnit_75 rfl rfl ?_
          refine k_ireturn (ty := .boolean) dX4_readUnit_76 rfl rfl (Nat.le_refl _) (Nat.le_refl _) ?_
          refine rPL.to (P' := (0, a, false)) (V' := pzV B u (n + 1) 5 a op) ?_ (fun _ _ _ => rfl) ?_
          · unfold pzP
            rw [pz5_n h9 h21 h27, h54]
            exact nm_m1 hsi 0 0 0 a
          · exact ⟨I, s, rfl, rfl, rF.rf I, hS, Nat.le_refl _, by dsimp only; omega, fun _ _ => rfl, fun z => absurd (show false = true from z) (by decide)⟩
      · refine il1 (n := 31) dX4_readUnit_30 rfl ?_
        refine k_iconst (a := 5) (n := 32) dX4_readUnit_31 rfl rfl ?_
        refine k_icmp_ge (t := 50) (n := 35) dX4_readUnit_32 (by decide) rfl (fun h32 => ?_) (fun h32 => ?_)
        · have eop : op = 5 := Nat.le_antisymm hop (Nat.le_of_not_lt fun z => nI_ge (a := op) (b := 5) z (by decide) h32)
          refine k_iconst (a := 0) (n := 51) dX4_readUnit_50 rfl rfl ?_
          refine k_ireturn (ty := .boolean) dX4_readUnit_51 rfl (by first | rfl | exact knb _) (Nat.le_refl _) (Nat.le_refl _) ?_
          first
            | (subst eop
               refine rPL.to (P' := (0, a, false)) (V' := pzV B u (n + 1) 5 a 5) (pz5_5 h9 (by first | exact Or.inl h21 | exact Or.inr h27) 0 0 0) (fun _ _ _ => rfl) ?_
               exact ⟨I, s, rfl, rfl, rF.rf I, hS, Nat.le_refl _, by dsimp only; omega, fun _ _ => rfl, fun z => absurd (show false = true from z) (by decide)⟩)
            | exact ⟨K, s2, by rw [kb_t h43], rfl, g1, g2, g3, g4, g5, g6⟩
            | exact ⟨K, s2, by rw [kb_f h43], rfl, g1, g2, g3, g4, g5, g6⟩
        · have hlt : op < 5 := Nat.lt_of_not_le fun z => h32 (Int32.not_lt.mp (nI_nlt (a := op) (b := 5) z (by omega)))
          refine al0 (n := 36) dX4_readUnit_35 rfl ?_
          refine il2 (n := 37) dX4_readUnit_36 rfl ?_
          refine il1 (n := 38) dX4_readUnit_37 rfl ?_
          refine k_iconst (a := 1) (n := 39) dX4_readUnit_38 rfl rfl ?_
          refine k_iadd (n := 40) dX4_readUnit_39 rfl ?_
          rw [nI_1]
          refine qX4_68 (n := 43) dX4_readUnit_40 rfl rfl (Nat.le_of_ble_eq_true rfl) (by omega) (Nat.le_refl _) (Nat.le_refl _) rfl (ro hS hlt (by omega) (by omega) (hU n (Nat.le_refl _)) (hL n (Nat.le_refl _)) (by first | exact Or.inl h21 | exact Or.inr h27)) ?_
          rintro _ _ ⟨K, s2, rfl, rfl, g1, g2, g3, g4, g5, g6⟩
          dsimp only [Option.toList, List.cons_append, List.nil_append, Nat.add_zero]
          refine k_ifb_eq (t := 50) (n := 46) dX4_readUnit_43 (by decide) rfl (fun h43 => ?_) (fun h43 => ?_)
          · refine k_iconst (a := 0) (n := 51) dX4_readUnit_50 rfl rfl ?_
            refine k_ireturn (ty := .boolean) dX4_readUnit_51 rfl (by first | rfl | exact knb _) (Nat.le_refl _) (Nat.le_refl _) ?_
            first
              | (subst eop
                 refine rPL.to (P' := (0, a, false)) (V' := pzV B u (n + 1) 5 a 5) (pz5_5 h9 (by first | exact Or.inl h21 | exact Or.inr h27) 0 0 0) (fun _ _ _ => rfl) ?_
                 exact ⟨I, s, rfl, rfl, rF.rf I, hS, Nat.le_refl _, by dsimp only; omega, fun _ _ => rfl, fun z => absurd (show false = true from z) (by decide)⟩)
              | exact ⟨K, s2, by rw [kb_t h43], rfl, g1, g2, g3, g4, g5, g6⟩
              | exact ⟨K, s2, by rw [kb_f h43], rfl, g1, g2, g3, g4, g5, g6⟩
          · refine k_iconst (a := 1) (n := 47) dX4_readUnit_46 rfl rfl ?_
            refine k_goto (n := 51) dX4_readUnit_47 (by decide) ?_
            refine k_ireturn (ty := .boolean) dX4_readUnit_51 rfl (by first | rfl | exact knb _) (Nat.le_refl _) (Nat.le_refl _) ?_
            first
              | (subst eop
                 refine rPL.to (P' := (0, a, false)) (V' := pzV B u (n + 1) 5 a 5) (pz5_5 h9 (by first | exact Or.inl h21 | exact Or.inr h27) 0 0 0) (fun _ _ _ => rfl) ?_
                 exact ⟨I, s, rfl, rfl, rF.rf I, hS, Nat.le_refl _, by dsimp only; omega, fun _ _ => rfl, fun z => absurd (show false = true from z) (by decide)⟩)
              | exact ⟨K, s2, by rw [kb_t h43], rfl, g1, g2, g3, g4, g5, g6⟩
              | exact ⟨K, s2, by rw [kb_f h43], rfl, g1, g2, g3, g4, g5, g6⟩
  · have hae : a < e := hS.1.lt (fun z => absurd (z ▸ h9.1 : (48 : Int32) ≤ -1) (by decide))
    refine al0 (n := 13) dX4_readUnit_12 rfl ?_
    refine qX4_65 (n := 16) dX4_readUnit_13 rfl rfl (Nat.le_of_ble_eq_true rfl) (by omega) (Nat.le_refl _) (Nat.le_refl _) rfl (c_num (by omega) hS (by omega)) ?_
    rintro _ _ ⟨K, rfl, rfl, g1, g2, g3⟩
    dsimp only [Option.toList, List.nil_append, Nat.add_zero]
    refine k_iconst (a := 1) (n := 17) dX4_readUnit_16 rfl rfl ?_
    refine k_ireturn (ty := .boolean) dX4_readUnit_17 rfl (by first | rfl | exact knb _) (Nat.le_refl _) (Nat.le_refl _) ?_
    obtain ⟨n1, n2⟩ := num_1 hS.1.2.2.2.2.2.2 hae h9
    obtain ⟨v, hv, hv4⟩ := num_n B 4 (by decide) 0 a ⟨0, rfl, by decide⟩
    obtain ⟨w1, w2, w3⟩ := g2.wr (numF B 4 0 a).1 (by omega)
    have hst : ∀ x y z, pz (B, u, x, y, z) (n + 1) 5 0 a op = ((numF B 4 0 a).1, (numF B 4 0 a).2, true) := fun x y z => by rw [pz5, if_pos h9]
    have hpos : 0 ≤ (numF B 4 0 a).1 := by rw [hv]; exact Int32.not_lt.mp (nI_pos (by omega))
    refine rPL.to (hst 0 0 0) (V' := fun _ _ _ => (numF B 4 0 a).1) (fun x y z => by unfold pzV; rw [hst x y z]) ?_
    refine ⟨wrF K s (numF B 4 0 a).1, s + 1, rfl, rfl, g1.tr w2, w1, by omega, by dsimp only; omega, fun q hq => by rw [w3, pk_un (by omega), g3], fun _ => ⟨by omega, fun q p r => ?_, ?_⟩⟩
    · rw [w3, show q = s by omega, pk_us]
      exact Or.inl (Int32.le_trans (by decide) hpos)
    · rw [w3]
      exact EV_push pk_us (Int32.le_trans (by decide) hpos) (fun x y z => if_pos hpos)
theorem RUK_0 : RUK E 0 := by
  intro d I B u e a op s hS hop hfu hd
  have : rkF 5 = 1 := by decide
  omega
theorem RLK_0 {md : Nat} : RLK E 0 md := by
  intro d I B u e a op s hS hop hfu hd
  have := rk_pos md
  omega
theorem r_all : ∀ n, RUK E n ∧ RLK E n 0 ∧ RLK E n 1 ∧ RLK E n 2 ∧ RLK E n 3 ∧ RLK E n 4 := by
  intro n
  induction n using Nat.strongRecOn with
  | ind n ih =>
    cases n with
    | zero => exact ⟨RUK_0, RLK_0, RLK_0, RLK_0, RLK_0, RLK_0⟩
    | succ n =>
      exact ⟨ru_n (fun m hm => (ih m (by omega)).1) (fun m hm => (ih m (by omega)).2.1), rl_L (by decide) (fun m hm => (ih m (by omega)).2.2.1), rl_L (by decide) (fun m hm => (ih m (by omega)).2.2.2.1), rl_2 (ih n (by omega)).2.2.2.2.1, rl_L (by decide) (fun m hm => (ih m (by omega)).2.2.2.2.2), rl_L (by decide) (fun m hm => rl_5 (ih m (by omega)).1)⟩
end C19

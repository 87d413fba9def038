section C18
variable {E : kE} {d u e a s : Nat} {I J : Nat → Nat → Int32} {B : Nat → Int32}
theorem rPL.to {P P' : pR} {V V' : Int32 → Int32 → Int32 → Int32} (h1 : P = P') (h2 : ∀ x y z, V x y z = V' x y z) {v : Option Value} {M : kM} (h : rPL I B u e a s P' V' v M) : rPL I B u e a s P V v M := by
  rw [h1, show V = V' from funext fun x => funext fun y => funext fun z => h2 x y z]; exact h
theorem rPL_w {E : kE} {d : Nat} {y : kY} {cl sl mc ms pc : Nat} {L : List (Option Value)} {st : List Value} {M : kM} {P P' : pR} {V V' : Int32 → Int32 → Int32 → Int32} (h1 : P = P') (h2 : ∀ x y z, V x y z = V' x y z) (h : Wd E d y cl sl mc ms pc L st M (rPL I B u e a s P' V')) : Wd E d y cl sl mc ms pc L st M (rPL I B u e a s P V) := by
  rw [h1, show V = V' from funext fun x => funext fun y => funext fun z => h2 x y z]; exact h
/-- a sign that is a level's, as a number -/
theorem lv_n {L k : Nat} (hc : rC I B u e) (hL : L < 5) (h : lvF (B k) = nI L) : ∃ n, B k = nI n ∧ (n = 37 ∨ n = 38 ∨ n = 42 ∨ n = 43 ∨ n = 45 ∨ n = 47 ∨ n = 60 ∨ n = 61 ∨ n = 62 ∨ n = 124) := by
  rcases hc.ch k with q | ⟨x, hx, q⟩
  · exact absurd (show (-1 : Int32) = nI L by rw [← h, q, lv_m1]) (lv_ne L hL)
  · exact ⟨x, q, lv_sg x hx (fun z => lv_ne L hL (by rw [← h, q, z]))⟩
theorem okI_s {n : Nat} (h : n = 37 ∨ n = 38 ∨ n = 42 ∨ n = 43 ∨ n = 45 ∨ n = 47 ∨ n = 60 ∨ n = 61 ∨ n = 62 ∨ n = 124) : okI (-(nI n)) := Or.inr (Or.inr ⟨n, (sgn_f n h).2.2, h⟩)
/-- one more sign behind two readings -/
theorem lp_step {K : Nat → Nat → Int32} {s0 s1 s2 n : Nat} {V W : Int32 → Int32 → Int32 → Int32} (h01 : s0 < s1) (h12 : s1 < s2) (hpre : ∀ q, q < s1 → K 68 q = J 68 q) (hok1 : ∀ q, s0 ≤ q → q < s1 → okI (J 68 q)) (hok2 : ∀ q, s1 ≤ q → q < s2 → okI (K 68 q)) (hV : EV (J 68) s0 s1 V) (hW : EV (K 68) s1 s2 W) (hn : n = 37 ∨ n = 38 ∨ n = 42 ∨ n = 43 ∨ n = 45 ∨ n = 47 ∨ n = 60 ∨ n = 61 ∨ n = 62 ∨ n = 124) {c : Nat → Int32} (hc : c = upd (K 68) s2 (-(nI n))) : (∀ q, s0 ≤ q → q < s2 + 1 → okI (c q)) ∧ EV c s0 (s2 + 1) (fun x y z => jnF (nI n) (V x y z) (W x y z)) := by
  refine ⟨fun q a b => ?_, EV_bin (hV.cg (by omega) (fun q a b => ?_)) (hW.cg (by omega) (fun q a b => ?_)) h01 h12 hn (by rw [hc, pk_us])⟩
  · rw [hc]
    by_cases e : q = s2
    · rw [e, pk_us]; exact okI_s hn
    · rw [pk_un e]
      rcases Nat.lt_or_ge q s1 with z | z
      · rw [hpre q z]; exact hok1 q a z
      · exact hok2 q z (by omega)
  · rw [hc, pk_un (by omega), hpre q b]
  · rw [hc, pk_un (by omega)]
theorem rk_pos (md : Nat) : 1 ≤ rkF md := by
  unfold rkF
  repeat' split
  all_goals decide
theorem rk_ch : ∀ L, (L = 0 ∨ L = 1 ∨ L = 3 ∨ L = 4) → rkF (L + 1) < rkF (10 + L) ∧ rkF (10 + L) < rkF L := by
  intro L hL
  rcases hL with rfl | rfl | rfl | rfl <;> decide
set_option maxHeartbeats 2000000 in
set_option maxRecDepth 20000 in
theorem rloop {L op n : Nat} (hL : L = 0 ∨ L = 1 ∨ L = 3 ∨ L = 4) (hC : ∀ m, m ≤ n → RLK E m (L + 1)) (hop : op ≤ 5) (hd : 9 * (5 - op) + (5 - L) + 8 ≤ d) (m : Nat) : m ≤ n + 1 → ∀ (i a1 s1 : Nat) (J : Nat → Nat → Int32) (V : Int32 → Int32 → Int32 → Int32) (x5 : Option Value), rF I J → rS J B u e a1 s1 → s < s1 → s1 + a ≤ s + a1 → (∀ q, q < s → J 68 q = I 68 q) → (∀ q, s ≤ q → q < s1 → okI (J 68 q)) → EV (J 68) s s1 V → i + a < a1 → 16 * (e + 1 - a1) + rkF (10 + L) ≤ m → Wd E d mX4_readLevel 0 0 0 0 39 [some (.ref 67), some (.int (nI L)), some (.int (nI op)), some (.int (nI 50)), some (.int (nI i)), x5] [] (kJ J) (rPL I B u e a s (pz (B, u, 0, 0, 0) m (10 + L) (V 0 0 0) a1 op) (fun x y z => (pz (B, u, x, y, z) m (10 + L) (V x y z) a1 op).1)) := by
  have hk := rk_ch L hL
  have hL5 : L < 5 := by omega
  induction m with
  | zero =>
    intro _ i a1 s1 J V x5 hf hS h1 h2 h3 h4 h5 h6 h7
    have := rk_pos (10 + L)
    omega
  | succ m ih =>
    intro hm i a1 s1 J V x5 hf hS h1 h2 h3 h4 h5 h6 h7
    have hae := hS.2.2.1
    have he := hS.1.2.1
    refine c_rbody (hC m (by omega)) hL5 hop 50 (by omega) (by omega) hd hS (fun _ => by omega) _ (fun hl => ?_) (fun hl ha K s2 g1 g2 g3 g4 g5 g6 => ?_) (fun hl ha K s2 g1 g2 g3 g4 g5 g6 g7 g8 g9 y5 => ?_) x5
    · refine rPL.to (P' := (V 0 0 0, a1, true)) (V' := V) (by rw [pz_lp _ m hL, if_neg hl]) (fun x y z => by rw [pz_lp _ m hL, if_neg hl]) ?_
      exact ⟨J, s1, rfl, rfl, hf, hS, by omega, h2, h3, fun _ => ⟨h1, h4, h5⟩⟩
    · refine rPL.to (P' := (jnF (B a1) (V 0 0 0) (pzP B u m (L + 1) (a1 + 1) op).1, (pzP B u m (L + 1) (a1 + 1) op).2.1, false)) (V' := fun x y z => (pz (B, u, x, y, z) (m + 1) (10 + L) (V x y z) a1 op).1) ?_ (fun _ _ _ => rfl) ?_
      · rw [pz_lp _ m hL, if_pos hl]
        rw [if_neg (show ¬ (pz (B, u, 0, 0, 0) m (L + 1) 0 (a1 + 1) op).2.2 = true from by rw [show (pz (B, u, 0, 0, 0) m (L + 1) 0 (a1 + 1) op).2.2 = false from g6]; decide)]
        rfl
      · exact ⟨K, s2, rfl, rfl, hf.tr g1, g2, by omega, by dsimp only; omega, fun q hq => by rw [g5 q (by omega)]; exact h3 q hq, fun z => absurd (show false = true from z) (by decide)⟩
    · obtain ⟨n1, hn, hn2⟩ := lv_n hS.1 hL5 hl
      have hlt : s2 + 1 ≤ (pzP B u m (L + 1) (a1 + 1) op).2.1 := by have := hS.2.2.2.2; omega
      obtain ⟨w1, w2, w3⟩ := g2.wr (-(B a1)) hlt
      obtain ⟨l1, l2⟩ := lp_step h1 g7 g5 h4 g8 h5 g9 hn2 (c := wrF K s2 (-(B a1)) 68) (by rw [w3, hn])
      have hpi : ∀ x y z, (pz (B, u, x, y, z) m (L + 1) 0 (a1 + 1) op).2 = (pzP B u m (L + 1) (a1 + 1) op).2 := fun x y z => pz_i B u x y z 0 0 0 m (L + 1) (by omega) 0 0 (a1 + 1) op
      have hst : ∀ x y z, pz (B, u, x, y, z) (m + 1) (10 + L) (V x y z) a1 op = pz (B, u, x, y, z) m (10 + L) (jnF (nI n1) (V x y z) (pzV B u m (L + 1) (a1 + 1) op x y z)) (pzP B u m (L + 1) (a1 + 1) op).2.1 op := fun x y z => by
        rw [pz_lp _ m hL, if_pos hl, hpi x y z, if_pos g6, ← hn]
        rfl
      refine rPL_w (hst 0 0 0) (fun x y z => by rw [hst x y z]) ?_
      exact ih (by omega) (i + 1) (pzP B u m (L + 1) (a1 + 1) op).2.1 (s2 + 1) (wrF K s2 (-(B a1))) (fun x y z => jnF (nI n1) (V x y z) (pzV B u m (L + 1) (a1 + 1) op x y z)) y5 ((hf.tr g1).tr w2) w1 (by omega) (by omega) (fun q hq => by rw [w3, pk_un (by omega), g5 q (by omega)]; exact h3 q hq) l1 l2 (by omega) (by omega)
theorem l_n2 (L : Nat) (hL : L = 0 ∨ L = 1 ∨ L = 3 ∨ L = 4) : ¬ nI L = 2 := by rcases hL with rfl | rfl | rfl | rfl <;> decide
set_option maxHeartbeats 2000000 in
set_option maxRecDepth 20000 in
theorem rl_L {n L : Nat} (hL : L = 0 ∨ L = 1 ∨ L = 3 ∨ L = 4) (hC : ∀ m, m ≤ n → RLK E m (L + 1)) : RLK E (n + 1) L := by
  intro d I B u e a op s hS hop hfu hd
  have hk := rk_ch L hL
  refine Ct.of (L := [some (.ref 67), some (.int (nI L)), some (.int (nI op)), none, none, none]) rfl rfl (Nat.le_of_ble_eq_true rfl) ?_
  refine il1 (n := 1) dX4_readLevel_0 rfl ?_
  refine k_iconst (a := 5) (n := 2) dX4_readLevel_1 rfl rfl ?_
  refine k_icmp_lt (t := 11) (n := 5) dX4_readLevel_2 (by decide) rfl (fun h2 => ?_) (fun h2 => ?_)
  · refine al0 (n := 12) dX4_readLevel_11 rfl ?_
    refine il1 (n := 13) dX4_readLevel_12 rfl ?_
    refine k_iconst (a := 1) (n := 14) dX4_readLevel_13 rfl rfl ?_
    refine k_iadd (n := 15) dX4_readLevel_14 rfl ?_
    rw [nI_1]
    refine il2 (n := 16) dX4_readLevel_15 rfl ?_
    refine qX4_42 (n := 19) dX4_readLevel_16 rfl rfl (Nat.le_of_ble_eq_true rfl) (by omega) (Nat.le_refl _) (Nat.le_refl _) rfl (hC n (Nat.le_refl _) (d - 1) I B u e a op s hS hop (by omega) (by omega)) ?_
    rintro _ _ ⟨K, s2, rfl, rfl, g1, g2, g3, g4, g5, g6⟩
    dsimp only [Option.toList, List.cons_append, List.nil_append, Nat.add_zero]
    refine k_ifb_ne (t := 24) (n := 22) dX4_readLevel_19 (by decide) rfl (fun h19 => ?_) (fun h19 => ?_)
    · obtain ⟨g7, g8, g9⟩ := g6 h19
      refine il1 (n := 25) dX4_readLevel_24 rfl ?_
      refine k_iconst (a := 2) (n := 26) dX4_readLevel_25 rfl rfl ?_
      refine k_icmp_ne (t := 33) (n := 29) dX4_readLevel_26 (by decide) rfl (fun h26 => ?_) (fun h26 => ?_)
      · refine k_bipush (a := 50) (n := 35) dX4_readLevel_33 rfl rfl ?_
        refine is3 (n := 36) dX4_readLevel_35 rfl trivial ?_
        refine k_iconst (a := 0) (n := 37) dX4_readLevel_36 rfl rfl ?_
        refine is4 (n := 39) dX4_readLevel_37 rfl trivial ?_
        have hpi : ∀ x y z, (pz (B, u, x, y, z) n (L + 1) 0 a op).2 = (pzP B u n (L + 1) a op).2 := fun x y z => pz_i B u x y z 0 0 0 n (L + 1) (by omega) 0 0 a op
        have hst : ∀ x y z, pz (B, u, x, y, z) (n + 1) L 0 a op = pz (B, u, x, y, z) n (10 + L) (pzV B u n (L + 1) a op x y z) (pzP B u n (L + 1) a op).2.1 op := fun x y z => by
          rw [pz_hd _ n hL, hpi x y z, if_pos h19]
          rfl
        refine rPL_w (hst 0 0 0) (fun x y z => by unfold pzV; rw [hst x y z]) ?_
        exact rloop hL hC hop hd n (by omega) 0 (pzP B u n (L + 1) a op).2.1 s2 K (pzV B u n (L + 1) a op) none g1 g2 g7 g4 g5 g8 g9 (by omega) (by have := (pz_at (B, u, 0, 0, 0) (e := e) hS.1.2.2.2.2.2.2 n (L + 1) (by omega) 0 a op hS.2.2.1).1; have : a ≤ (pzP B u n (L + 1) a op).2.1 := this; omega)
      · exact absurd h26 (l_n2 L hL)
    · refine k_iconst (a := 0) (n := 23) dX4_readLevel_22 rfl rfl ?_
      refine k_ireturn (ty := .boolean) dX4_readLevel_23 rfl (by first | rfl | exact knb _) (Nat.le_refl _) (Nat.le_refl _) ?_
      refine rPL.to (P' := pzP B u n (L + 1) a op) (V' := pzV B u (n + 1) L a op) ?_ (fun _ _ _ => rfl) ?_
      · unfold pzP
        rw [pz_hd _ n hL, if_neg (show ¬ (pz (B, u, 0, 0, 0) n (L + 1) 0 a op).2.2 = true from h19)]
      · exact ⟨K, s2, by rw [kb_f h19], rfl, g1, g2, g3, g4, g5, fun z => absurd z h19⟩
  · exact absurd (nI_lt (show L < 5 by omega) (by decide)) h2
set_option maxHeartbeats 2000000 in
set_option maxRecDepth 20000 in
theorem rl_2 {n : Nat} (hC : RLK E n 3) : RLK E (n + 1) 2 := by
  intro d I B u e a op s hS hop hfu hd
  have hk3 : rkF 2 = 6 ∧ rkF 3 = 5 := by decide
  refine Ct.of (L := [some (.ref 67), some (.int (nI 2)), some (.int (nI op)), none, none, none]) rfl rfl (Nat.le_of_ble_eq_true rfl) ?_
  refine il1 (n := 1) dX4_readLevel_0 rfl ?_
  refine k_iconst (a := 5) (n := 2) dX4_readLevel_1 rfl rfl ?_
  refine k_icmp_lt (t := 11) (n := 5) dX4_readLevel_2 (by decide) rfl (fun h2 => ?_) (fun h2 => ?_)
  · refine al0 (n := 12) dX4_readLevel_11 rfl ?_
    refine il1 (n := 13) dX4_readLevel_12 rfl ?_
    refine k_iconst (a := 1) (n := 14) dX4_readLevel_13 rfl rfl ?_
    refine k_iadd (n := 15) dX4_readLevel_14 rfl ?_
    rw [nI_1]
    refine il2 (n := 16) dX4_readLevel_15 rfl ?_
    refine qX4_42 (n := 19) dX4_readLevel_16 rfl rfl (Nat.le_of_ble_eq_true rfl) (by omega) (Nat.le_refl _) (Nat.le_refl _) rfl (hC (d - 1) I B u e a op s hS hop (by omega) (by omega)) ?_
    rintro _ _ ⟨K, s2, rfl, rfl, g1, g2, g3, g4, g5, g6⟩
    dsimp only [Option.toList, List.cons_append, List.nil_append, Nat.add_zero]
    refine k_ifb_ne (t := 24) (n := 22) dX4_readLevel_19 (by decide) rfl (fun h19 => ?_) (fun h19 => ?_)
    · obtain ⟨g7, g8, g9⟩ := g6 h19
      refine il1 (n := 25) dX4_readLevel_24 rfl ?_
      refine k_iconst (a := 2) (n := 26) dX4_readLevel_25 rfl rfl ?_
      refine k_icmp_ne (t := 33) (n := 29) dX4_readLevel_26 (by decide) rfl (fun h26 => ?_) (fun h26 => ?_)
      · exact absurd rfl h26
      · refine k_iconst (a := 1) (n := 30) dX4_readLevel_29 rfl rfl ?_
        refine k_goto (n := 35) dX4_readLevel_30 (by decide) ?_
        refine is3 (n := 36) dX4_readLevel_35 rfl trivial ?_
        refine k_iconst (a := 0) (n := 37) dX4_readLevel_36 rfl rfl ?_
        refine is4 (n := 39) dX4_readLevel_37 rfl trivial ?_
        have hpi : ∀ x y z, (pz (B, u, x, y, z) n 3 0 a op).2 = (pzP B u n 3 a op).2 := fun x y z => pz_i B u x y z 0 0 0 n 3 (by omega) 0 0 a op
        have hle : a ≤ (pzP B u n 3 a op).2.1 := (pz_at (B, u, 0, 0, 0) (e := e) hS.1.2.2.2.2.2.2 n 3 (by omega) 0 a op hS.2.2.1).1
        refine c_rbody (sn := 1) hC (by decide) hop (by decide) (by decide) hd g2 (fun _ => show 16 * (e + 1 - ((pzP B u n 3 a op).2.1 + 1)) + rkF 3 ≤ n by omega) _ (fun hl => ?_) (fun hl ha K2 s3 k1 k2 k3 k4 k5 k6 => ?_) (fun hl ha K2 s3 k1 k2 k3 k4 k5 k6 k7 k8 k9 y5 => ?_) none
        · refine rPL.to (P' := pzP B u n 3 a op) (V' := pzV B u n 3 a op) ?_ (fun x y z => ?_) ?_
          · unfold pzP at *
            rw [pz_2, if_pos h19, if_neg hl]
          · unfold pzV
            rw [pz_2, hpi x y z, if_pos h19, if_neg hl]
          · exact ⟨K, s2, by rw [kb_t h19], rfl, g1, g2, g3, g4, g5, g6⟩
        · replace k4 : s3 + ((pzP B u n 3 a op).2.1 + 1) ≤ s2 + (pzP B u n 3 ((pzP B u n 3 a op).2.1 + 1) op).2.1 := k4
          refine rPL.to (P' := (jnF (B (pzP B u n 3 a op).2.1) (pzP B u n 3 a op).1 (pzP B u n 3 ((pzP B u n 3 a op).2.1 + 1) op).1, (pzP B u n 3 ((pzP B u n 3 a op).2.1 + 1) op).2.1, false)) (V' := pzV B u (n + 1) 2 a op) ?_ (fun _ _ _ => rfl) ?_
          · unfold pzP at *
            rw [pz_2, if_pos h19, if_pos hl, k6]
          · exact ⟨K2, s3, rfl, rfl, g1.tr k1, k2, by omega, by dsimp only; omega, fun q hq => by rw [k5 q (by omega)]; exact g5 q hq, fun z => absurd (show false = true from z) (by decide)⟩
        · replace k4 : s3 + ((pzP B u n 3 a op).2.1 + 1) ≤ s2 + (pzP B u n 3 ((pzP B u n 3 a op).2.1 + 1) op).2.1 := k4
          obtain ⟨n1, hn, hn2⟩ := lv_n g2.1 (by decide) hl
          have hlt : s3 + 1 ≤ (pzP B u n 3 ((pzP B u n 3 a op).2.1 + 1) op).2.1 := by have := g2.2.2.2.2; omega
          obtain ⟨w1, w2, w3⟩ := k2.wr (-(B (pzP B u n 3 a op).2.1)) hlt
          obtain ⟨l1, l2⟩ := lp_step g7 k7 k5 g8 k8 g9 k9 hn2 (c := wrF K2 s3 (-(B (pzP B u n 3 a op).2.1)) 68) (by rw [w3, hn])
          have hst : ∀ x y z, pz (B, u, x, y, z) (n + 1) 2 0 a op = (jnF (nI n1) (pzV B u n 3 a op x y z) (pzV B u n 3 ((pzP B u n 3 a op).2.1 + 1) op x y z), (pzP B u n 3 ((pzP B u n 3 a op).2.1 + 1) op).2) := fun x y z => by
            rw [pz_2, hpi x y z, if_pos h19, if_pos hl, ← hn]
            rw [show (pz (B, u, x, y, z) n 3 0 ((pzP B u n 3 a op).2.1 + 1) op).2.1 = (pzP B u n 3 ((pzP B u n 3 a op).2.1 + 1) op).2.1 from congrArg Prod.fst (pz_i B u x y z 0 0 0 n 3 (by omega) 0 0 _ op), show (pz (B, u, x, y, z) n 3 0 ((pzP B u n 3 a op).2.1 + 1) op).2.2 = (pzP B u n 3 ((pzP B u n 3 a op).2.1 + 1) op).2.2 from congrArg Prod.snd (pz_i B u x y z 0 0 0 n 3 (by omega) 0 0 _ op)]
            rfl
          refine rPL_w (hst 0 0 0) (fun x y z => by unfold pzV; rw [hst x y z]) ?_
          refine il4 (n := 41) dX4_readLevel_39 rfl ?_
          refine il3 (n := 42) dX4_readLevel_41 rfl ?_
          refine k_icmp_ge (t := 98) (n := 45) dX4_readLevel_42 (by decide) rfl (fun h42 => ?_) (fun h42 => absurd (Int32.le_refl _) h42)
          refine k_iconst (a := 1) (n := 99) dX4_readLevel_98 rfl rfl ?_
          refine k_ireturn (ty := .boolean) dX4_readLevel_99 rfl rfl (Nat.le_refl _) (Nat.le_refl _) ?_
          exact ⟨_, s3 + 1, by dsimp only; rw [kb_t k6], rfl, (g1.tr k1).tr w2, w1, by omega, by dsimp only; omega, fun q hq => by rw [w3, pk_un (by omega), k5 q (by omega)]; exact g5 q hq, fun _ => ⟨by omega, l1, l2⟩⟩
    · refine k_iconst (a := 0) (n := 23) dX4_readLevel_22 rfl rfl ?_
      refine k_ireturn (ty := .boolean) dX4_readLevel_23 rfl (by first | rfl | exact knb _) (Nat.le_refl _) (Nat.le_refl _) ?_
      refine rPL.to (P' := pzP B u n (3) a op) (V' := pzV B u (n + 1) 2 a op) ?_ (fun _ _ _ => rfl) ?_
      · unfold pzP
        rw [pz_2, if_neg (show ¬ (pz (B, u, 0, 0, 0) n (3) 0 a op).2.2 = true from h19)]
      · exact ⟨K, s2, by rw [kb_f h19], rfl, g1, g2, g3, g4, g5, fun z => absurd z h19⟩
  · exact absurd (nI_lt (show 2 < 5 by omega) (by decide)) h2
set_option maxHeartbeats 2000000 in
set_option maxRecDepth 20000 in
theorem rl_5 {n : Nat} (hU : RUK E n) : RLK E n 5 := by
  intro d I B u e a op s hS hop hfu hd
  refine Ct.of (L := [some (.ref 67), some (.int (nI 5)), some (.int (nI op)), none, none, none]) rfl rfl (Nat.le_of_ble_eq_true rfl) ?_
  refine il1 (n := 1) dX4_readLevel_0 rfl ?_
  refine k_iconst (a := 5) (n := 2) dX4_readLevel_1 rfl rfl ?_
  refine k_icmp_lt (t := 11) (n := 5) dX4_readLevel_2 (by decide) rfl (fun h2 => ?_) (fun h2 => ?_)
  · exact absurd h2 (nI_nlt (show 5 ≤ 5 by omega) (by decide))
  · refine al0 (n := 6) dX4_readLevel_5 rfl ?_
    refine il2 (n := 7) dX4_readLevel_6 rfl ?_
    refine qX4_46 (n := 10) dX4_readLevel_7 rfl rfl (Nat.le_of_ble_eq_true rfl) (by omega) (Nat.le_refl _) (Nat.le_refl _) rfl (hU (d - 1) I B u e a op s hS hop hfu (by omega)) ?_
    rintro _ _ ⟨K, s2, rfl, rfl, g1, g2, g3, g4, g5, g6⟩
    dsimp only [Option.toList, List.cons_append, List.nil_append, Nat.add_zero]
    refine k_ireturn (ty := .boolean) dX4_readLevel_10 rfl (by first | rfl | exact knb _) (Nat.le_refl _) (Nat.le_refl _) ?_
    exact ⟨K, s2, rfl, rfl, g1, g2, g3, g4, g5, g6⟩
end C18

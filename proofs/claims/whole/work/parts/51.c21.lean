section C21
variable {r q : Nat → Int32}
theorem RI_ag (h : RI r) (e : ∀ k, (k ≤ 12 ∨ (29 ≤ k ∧ k < 85)) → k ≠ 6 → k ≠ 7 → q k = r k) (h6 : ∀ k, k < 2 → q (6 + k) = -1 ∨ ∃ c, q (6 + k) = nI c ∧ c ≤ 50) : RI q := by
  obtain ⟨a1, a2, a3, a4, a5, a6, a7, a8, a9⟩ := h
  refine ⟨?_, ?_, ?_, ?_, ?_, ?_, ?_, fun k hk => ?_, h6⟩
  · rw [e 9 (by omega) (by omega) (by omega)]; exact a1
  · rw [e 8 (by omega) (by omega) (by omega)]; exact a2
  · rw [e 11 (by omega) (by omega) (by omega)]; exact a3
  · rw [e 3 (by omega) (by omega) (by omega)]; exact a4
  · rw [e 4 (by omega) (by omega) (by omega)]; exact a5
  · rw [e 5 (by omega) (by omega) (by omega)]; exact a6
  · rw [e 1 (by omega) (by omega) (by omega)]; exact a7
  · rw [e _ (by omega) (by omega) (by omega), e _ (by omega) (by omega) (by omega)]; exact a8 k hk
theorem RI_s9 (h : RI r) {v : Int32} {c : Nat} (hv : v = nI c) (hc : c ≤ 8) : RI (upd r 9 v) := by
  obtain ⟨a1, a2, a3, a4, a5, a6, a7, a8, a9⟩ := h
  exact ⟨⟨c, pk_us.trans hv, hc⟩, (by rw [pk_un (by decide)]; exact a2), (by rw [pk_un (by decide)]; exact a3), (by rw [pk_un (by decide)]; exact a4), (by rw [pk_un (by decide)]; exact a5), (by rw [pk_un (by decide)]; exact a6), (by rw [pk_un (by decide)]; exact a7), fun k hk => by rw [pk_un (by omega), pk_un (by omega)]; exact a8 k hk, fun k hk => by rw [pk_un (by omega)]; exact a9 k hk⟩
theorem RI_s8 (h : RI r) {v : Int32} {c : Nat} (hv : v = nI c) (hc : c ≤ 4) : RI (upd r 8 v) := by
  obtain ⟨a1, a2, a3, a4, a5, a6, a7, a8, a9⟩ := h
  exact ⟨(by rw [pk_un (by decide)]; exact a1), ⟨c, pk_us.trans hv, hc⟩, (by rw [pk_un (by decide)]; exact a3), (by rw [pk_un (by decide)]; exact a4), (by rw [pk_un (by decide)]; exact a5), (by rw [pk_un (by decide)]; exact a6), (by rw [pk_un (by decide)]; exact a7), fun k hk => by rw [pk_un (by omega), pk_un (by omega)]; exact a8 k hk, fun k hk => by rw [pk_un (by omega)]; exact a9 k hk⟩
theorem RI_s11 (h : RI r) {v : Int32} {c : Nat} (hv : v = nI c) (hc : c < 4) : RI (upd r 11 v) := by
  obtain ⟨a1, a2, a3, a4, a5, a6, a7, a8, a9⟩ := h
  exact ⟨(by rw [pk_un (by decide)]; exact a1), (by rw [pk_un (by decide)]; exact a2), ⟨c, pk_us.trans hv, hc⟩, (by rw [pk_un (by decide)]; exact a4), (by rw [pk_un (by decide)]; exact a5), (by rw [pk_un (by decide)]; exact a6), (by rw [pk_un (by decide)]; exact a7), fun k hk => by rw [pk_un (by omega), pk_un (by omega)]; exact a8 k hk, fun k hk => by rw [pk_un (by omega)]; exact a9 k hk⟩
theorem RI_s3 (h : RI r) {v : Int32} {c : Nat} (hv : v = nI c) (hc : 2 ≤ c ∧ c ≤ 8) : RI (upd r 3 v) := by
  obtain ⟨a1, a2, a3, a4, a5, a6, a7, a8, a9⟩ := h
  exact ⟨(by rw [pk_un (by decide)]; exact a1), (by rw [pk_un (by decide)]; exact a2), (by rw [pk_un (by decide)]; exact a3), ⟨c, pk_us.trans hv, hc⟩, (by rw [pk_un (by decide)]; exact a5), (by rw [pk_un (by decide)]; exact a6), (by rw [pk_un (by decide)]; exact a7), fun k hk => by rw [pk_un (by omega), pk_un (by omega)]; exact a8 k hk, fun k hk => by rw [pk_un (by omega)]; exact a9 k hk⟩
theorem RI_s4 (h : RI r) {v : Int32} {c : Nat} (hv : v = nI c) (hc : c ≤ 50) : RI (upd r 4 v) := by
  obtain ⟨a1, a2, a3, a4, a5, a6, a7, a8, a9⟩ := h
  exact ⟨(by rw [pk_un (by decide)]; exact a1), (by rw [pk_un (by decide)]; exact a2), (by rw [pk_un (by decide)]; exact a3), (by rw [pk_un (by decide)]; exact a4), ⟨c, pk_us.trans hv, hc⟩, (by rw [pk_un (by decide)]; exact a6), (by rw [pk_un (by decide)]; exact a7), fun k hk => by rw [pk_un (by omega), pk_un (by omega)]; exact a8 k hk, fun k hk => by rw [pk_un (by omega)]; exact a9 k hk⟩
theorem RI_s5 (h : RI r) {v : Int32} {c : Nat} (hv : v = nI c) (hc : c ≤ 20) : RI (upd r 5 v) := by
  obtain ⟨a1, a2, a3, a4, a5, a6, a7, a8, a9⟩ := h
  exact ⟨(by rw [pk_un (by decide)]; exact a1), (by rw [pk_un (by decide)]; exact a2), (by rw [pk_un (by decide)]; exact a3), (by rw [pk_un (by decide)]; exact a4), (by rw [pk_un (by decide)]; exact a5), ⟨c, pk_us.trans hv, hc⟩, (by rw [pk_un (by decide)]; exact a7), fun k hk => by rw [pk_un (by omega), pk_un (by omega)]; exact a8 k hk, fun k hk => by rw [pk_un (by omega)]; exact a9 k hk⟩
theorem RI_s1 (h : RI r) {v : Int32} {c : Nat} (hv : v = nI c) (hc : 1 ≤ c ∧ c ≤ 16) : RI (upd r 1 v) := by
  obtain ⟨a1, a2, a3, a4, a5, a6, a7, a8, a9⟩ := h
  exact ⟨(by rw [pk_un (by decide)]; exact a1), (by rw [pk_un (by decide)]; exact a2), (by rw [pk_un (by decide)]; exact a3), (by rw [pk_un (by decide)]; exact a4), (by rw [pk_un (by decide)]; exact a5), (by rw [pk_un (by decide)]; exact a6), ⟨c, pk_us.trans hv, hc⟩, fun k hk => by rw [pk_un (by omega), pk_un (by omega)]; exact a8 k hk, fun k hk => by rw [pk_un (by omega)]; exact a9 k hk⟩
theorem RI_ck (h : RI r) {j : Nat} (hj : j < 8) {v : Int32} {c : Nat} (hv : v = nI c) (hc : c < 7) : RI (upd r (29 + 7 * j) v) := by
  obtain ⟨a1, a2, a3, a4, a5, a6, a7, a8, a9⟩ := h
  refine ⟨by rw [pk_un (by omega)]; exact a1, by rw [pk_un (by omega)]; exact a2, by rw [pk_un (by omega)]; exact a3, by rw [pk_un (by omega)]; exact a4, by rw [pk_un (by omega)]; exact a5, by rw [pk_un (by omega)]; exact a6, by rw [pk_un (by omega)]; exact a7, fun k hk => ?_, fun k hk => by rw [pk_un (by omega)]; exact a9 k hk⟩
  by_cases e : k = j
  · subst e
    rw [pk_us, pk_un (by omega)]; exact ⟨⟨c, hv, hc⟩, (a8 k hk).2⟩
  · rw [pk_un (by omega), pk_un (by omega)]; exact a8 k hk
theorem RI_cp (h : RI r) {j : Nat} (hj : j < 8) {v : Int32} {c : Nat} (hv : v = nI c) (hc : c < 8) : RI (upd r (29 + 7 * j + 4) v) := by
  obtain ⟨a1, a2, a3, a4, a5, a6, a7, a8, a9⟩ := h
  refine ⟨by rw [pk_un (by omega)]; exact a1, by rw [pk_un (by omega)]; exact a2, by rw [pk_un (by omega)]; exact a3, by rw [pk_un (by omega)]; exact a4, by rw [pk_un (by omega)]; exact a5, by rw [pk_un (by omega)]; exact a6, by rw [pk_un (by omega)]; exact a7, fun k hk => ?_, fun k hk => by rw [pk_un (by omega)]; exact a9 k hk⟩
  by_cases e : k = j
  · subst e
    rw [pk_un (show 29 + 7 * k ≠ 29 + 7 * k + 4 by omega), pk_us]; exact ⟨(a8 k hk).1, ⟨c, hv, hc⟩⟩
  · rw [pk_un (by omega), pk_un (by omega)]; exact a8 k hk
theorem RX_ag (h : RX r) (e : ∀ k, (k = 8 ∨ k = 11 ∨ (13 ≤ k ∧ k < 85)) → q k = r k) : RX q := by
  refine ⟨fun k hk => ?_, ?_⟩
  · have hk2 : 13 ≤ k ∧ k < 85 := by
      rcases Nat.lt_or_ge k 13 with z | z
      · exact absurd (bd_lo (Or.inl z)) hk
      · rcases Nat.lt_or_ge k 85 with z2 | z2
        · exact ⟨z, z2⟩
        · exact absurd (bd_lo (Or.inr z2)) hk
    rw [e k (by omega)]; exact h.1 k hk
  · rw [e 11 (by omega), e 8 (by omega)]; exact h.2
theorem TB_ag (h : TB r) (e : ∀ k, 85 ≤ k → k < 135 → q k = r k) : TB q := fun k hk => by rw [e _ (by omega) (by omega)]; exact h k hk
def RV (r : Nat → Int32) : Prop := RI r ∧ RX r ∧ TB r
theorem RV.tb (h : RV r) {i : Nat} {v : Int32} (hi : ¬ (85 ≤ i ∧ i < 135)) : TB (upd r i v) := TB_ag h.2.2 (fun k a b => pk_un (by omega))
theorem TB.u (h : TB r) {i : Nat} {v : Int32} (hi : ¬ (85 ≤ i ∧ i < 135)) : TB (upd r i v) := TB_ag h (fun k a b => pk_un (by omega))
theorem RV.lo (h : RV r) {i : Nat} (hi : i = 0 ∨ i = 2 ∨ i = 10 ∨ i = 12) (v : Int32) : RV (upd r i v) := ⟨RI_c h.1 hi v, RX_lo h.2.1 (by omega) v (by omega) (by omega), h.2.2.u (by omega)⟩
theorem RV.s4 (h : RV r) {v : Int32} {c : Nat} (hv : v = nI c) (hc : c ≤ 50) : RV (upd r 4 v) := ⟨RI_s4 h.1 hv hc, RX_lo h.2.1 (by omega) v (by omega) (by omega), h.2.2.u (by omega)⟩
theorem RV.s5 (h : RV r) {v : Int32} {c : Nat} (hv : v = nI c) (hc : c ≤ 20) : RV (upd r 5 v) := ⟨RI_s5 h.1 hv hc, RX_lo h.2.1 (by omega) v (by omega) (by omega), h.2.2.u (by omega)⟩
theorem RV.w (h : RV r) {p n : Nat} {v : Int32} (hp : p < 8) (hv : v = nI n) (hn : n ≤ 999) : RV (upd r (13 + p) v) := ⟨RI_w h.1 hp v, RX_w h.2.1 hp ⟨n, hv, hn⟩, h.2.2.u (by omega)⟩
theorem RV.hi (h : RV r) {i : Nat} {v : Int32} (hi : 135 ≤ i) : RV (upd r i v) := ⟨RI_upd h.1 v (by omega) (fun k hk => by omega), RX_lo h.2.1 (by omega) v (by omega) (by omega), h.2.2.u (by omega)⟩
theorem RV.cs (h : RV r) {j : Nat} (hj : j < 8) {f : Nat} (hf : f = 2 ∨ f = 5) (v : Int32) : RV (upd r (29 + 7 * j + f) v) := ⟨RI_upd h.1 v (by omega) (fun k hk => by omega), RX_upd h.2.1 (Or.inl (by rw [bd_c j hj f (by omega)]; rcases hf with rfl | rfl <;> decide)) (by omega) (by omega), h.2.2.u (by omega)⟩
theorem RV.cb (h : RV r) {j : Nat} (hj : j < 8) {f n : Nat} {v : Int32} (hv : v = nI n) (hf : (f = 1 ∧ n ≤ 9) ∨ ((f = 3 ∨ f = 6) ∧ n ≤ 99)) : RV (upd r (29 + 7 * j + f) v) := by
  refine ⟨RI_upd h.1 v (by omega) (fun k hk => by omega), RX_upd h.2.1 (Or.inr ⟨n, hv, ?_⟩) (by omega) (by omega), h.2.2.u (by omega)⟩
  rw [bd_c j hj f (by omega)]
  rcases hf with ⟨rfl, hn⟩ | ⟨rfl | rfl, hn⟩
  · exact hn
  · exact hn
  · exact hn
theorem RV.ck (h : RV r) {j c : Nat} {v : Int32} (hj : j < 8) (hv : v = nI c) (hc : c < 7) : RV (upd r (29 + 7 * j) v) := ⟨RI_ck h.1 hj hv hc, RX_upd h.2.1 (Or.inl (by have := bd_c j hj 0 (by decide); rw [Nat.add_zero] at this; rw [this]; decide)) (by omega) (by omega), h.2.2.u (by omega)⟩
theorem RV.cp (h : RV r) {j c : Nat} {v : Int32} (hj : j < 8) (hv : v = nI c) (hc : c < 8) : RV (upd r (29 + 7 * j + 4) v) := ⟨RI_cp h.1 hj hv hc, RX_upd h.2.1 (Or.inl (by rw [bd_c j hj 4 (by decide)]; decide)) (by omega) (by omega), h.2.2.u (by omega)⟩
theorem RV.pass (h : RV r) (n : Nat) : RV (passF n r) := ⟨RI_pass h.1 n, RX_pass h.1 h.2.1 n, TB_ag h.2.2 (fun k a b => pass_out h.1 (by omega) (by omega) n)⟩
theorem RV.loo (h : RV r) (n : Nat) : RV (looF n r) := by
  refine ⟨RI_loo h.1 n, RX_loo h.1 h.2.1 n, TB_ag h.2.2 (fun k a b => ?_)⟩
  induction n with
  | zero => rfl
  | succ n ih =>
    show beatF (gosF (looF n r)) k = _
    rw [beat_out (RI_gos (RI_loo h.1 n)) (by omega) (by omega)]
    unfold gosF
    split
    · exact ih
    · unfold drwF; rw [pk_un (by omega), pk_un (by omega)]; exact ih
theorem km_n : ∀ k, k < 70 → nI k / 10 = nI (k / 10) ∧ nI k - nI k / 10 * 10 = nI (k % 10) := by decide +kernel
theorem v_rhyme (h : RV r) (p d : Int32) : RV (s_rhyme r p d).2.1 := by
  unfold s_rhyme
  by_cases h1 : 1 ≤ p ∧ p ≤ 16
  · rw [if_pos h1]
    split
    · obtain ⟨c, c1, c2, rfl⟩ := kbt (a := 1) (b := 16) h1 (by decide) (by decide)
      have h2 := h.lo (i := 10) (by omega) d
      exact ⟨RI_s1 h2.1 rfl ⟨c1, c2⟩, RX_lo h2.2.1 (by omega) _ (by omega) (by omega), h2.2.2.u (by omega)⟩
    · exact h
  · rw [if_neg h1]; exact h
theorem v_rope (h : RV r) (v : Int32) : RV (s_rope r v).2.1 := by
  unfold s_rope
  by_cases h1 : 2 ≤ v ∧ v ≤ 8
  · rw [if_pos h1]
    split
    · obtain ⟨c, c1, c2, rfl⟩ := kbt (a := 2) (b := 8) h1 (by decide) (by decide)
      have hc : ∀ k, ¬ (13 ≤ k ∧ k < 21) → clearF r 8 k = r k := fun k hk => if_neg (by omega)
      have hI : RI (clearF r 8) := RI_ag h.1 (fun k a b d => hc k (by omega)) (fun k hk => by rw [hc _ (by omega)]; exact h.1.2.2.2.2.2.2.2.2 k hk)
      have hX : RX (clearF r 8) := by
        refine ⟨fun k hk => ?_, by rw [hc 11 (by omega), hc 8 (by omega)]; exact h.2.1.2⟩
        by_cases z : 13 ≤ k ∧ k < 21
        · exact ⟨0, if_pos ⟨z.1, by omega⟩, Nat.zero_le _⟩
        · rw [hc k z]; exact h.2.1.1 k hk
      exact ⟨RI_s3 hI rfl ⟨c1, c2⟩, RX_lo hX (by omega) _ (by omega) (by omega), TB.u (TB_ag h.2.2 (fun k a b => hc k (by omega))) (by omega)⟩
    · exact h
  · rw [if_neg h1]; exact h
theorem v_turner (h : RV r) (v : Int32) : RV (s_turner r v).2.1 := by
  unfold s_turner
  by_cases h1 : 1 ≤ v ∧ v ≤ 99
  · rw [if_pos h1]
    by_cases h2 : r 8 = 4
    · rw [if_pos h2]; exact h
    · rw [if_neg h2]
      obtain ⟨s, s1, s2, rfl⟩ := kbt (a := 1) (b := 99) h1 (by decide) (by decide)
      obtain ⟨a, t, ha, ht, h4, hat⟩ := h.2.1.2
      have ht3 : t < 4 := Nat.lt_of_le_of_ne h4 (fun z => h2 (by rw [ht, z]; rfl))
      have ec : (r 8).toNatClampNeg = t := by rw [ht]; exact kcl (by omega)
      rw [ec, ht]
      show RV (upd (upd (upd r (21 + 2 * t) (nI s)) (21 + 2 * t + 1) 0) 8 (nI t + 1))
      have hI : RI (upd (upd r (21 + 2 * t) (nI s)) (21 + 2 * t + 1) 0) := RI_t (RI_upd h.1 _ (by omega) (fun k hk => by omega)) (by omega) _
      have hX : RX (upd (upd r (21 + 2 * t) (nI s)) (21 + 2 * t + 1) 0) := RX_upd (RX_upd h.2.1 (Or.inr ⟨s, rfl, by rw [(bd_t t (by omega)).1]; exact s2⟩) (by omega) (by omega)) (Or.inr ⟨0, rfl, Nat.zero_le _⟩) (by omega) (by omega)
      refine ⟨RI_s8 hI (nI_1 t) (by omega), ⟨fun k hk => ?_, a, t + 1, ?_, ?_, by omega, by omega⟩, ((h.2.2.u (by omega)).u (by omega)).u (by omega)⟩
      · have : k ≠ 8 := fun z => hk (by rw [z]; decide)
        rw [pk_un this]; exact hX.1 k hk
      · rw [pk_un (by decide), pk_un (by omega), pk_un (by omega)]; exact ha
      · rw [pk_us, nI_1]
  · rw [if_neg h1]; exact h
theorem v_relieve (h : RV r) (v : Int32) : RV (s_relieve r v).2.1 := by
  unfold s_relieve
  by_cases h1 : 0 ≤ v ∧ v ≤ r 8 - 1
  · rw [if_pos h1]
    obtain ⟨a, t, ha, ht, h4, hat⟩ := h.2.1.2
    rw [ht] at h1
    obtain ⟨j, hj, rfl⟩ := kix h1 (by omega)
    show RV (upd r 11 (nI j))
    refine ⟨RI_s11 h.1 rfl (by omega), ⟨fun k hk => ?_, j, t, pk_us, (pk_un (by decide)).trans ht, h4, Or.inl hj⟩, h.2.2.u (by omega)⟩
    have : k ≠ 11 := fun z => hk (by rw [z]; decide)
    rw [pk_un this]; exact h.2.1.1 k hk
  · rw [if_neg h1]; exact h
theorem v_go (h : RV r) (v : Int32) : RV (s_go r v).2.1 := by
  unfold s_go
  split
  · exact h.lo (by omega) v
  · exact h
theorem v_seed (h : RV r) (v : Int32) : RV (s_seed r v).2.1 := h.lo (by omega) v
theorem v_splice (h : RV r) (v x : Int32) : RV (s_splice r v x).2.1 := by
  unfold s_splice
  by_cases h1 : 0 ≤ v ∧ v ≤ r 3 - 1
  · rw [if_pos h1]
    by_cases h2 : 0 ≤ x ∧ x ≤ 999
    · rw [if_pos h2]
      obtain ⟨j, hj, rfl⟩ := kixP h.1 h1
      obtain ⟨n, -, hn, rfl⟩ := kbt (a := 0) (b := 999) h2 (by decide) (by decide)
      rw [kcl (show j < 1000 by omega)]
      exact h.w hj rfl hn
    · rw [if_neg h2]; exact h
  · rw [if_neg h1]; exact h
theorem v_tell (h : RV r) (v : Int32) : RV (s_tell r v).2.1 := by
  unfold s_tell
  by_cases h1 : r 5 = 20
  · rw [if_pos h1]; exact h
  · rw [if_neg h1]
    obtain ⟨-, -, -, -, -, ⟨n, hn, h20⟩, -⟩ := id h.1
    have : n < 20 := Nat.lt_of_le_of_ne h20 (fun z => h1 (by rw [hn, z]; rfl))
    have ec : (r 5).toNatClampNeg = n := by rw [hn]; exact kcl (by omega)
    rw [ec, hn]
    exact (h.hi (by omega)).s5 (nI_1 n) (by omega)
theorem v_become (h : RV r) (v x : Int32) : RV (s_become r v x).2.1 := by
  unfold s_become
  by_cases h1 : 0 ≤ v ∧ v ≤ r 9 - 1
  · rw [if_pos h1]
    by_cases h2 : 0 ≤ x ∧ x ≤ 69
    · rw [if_pos h2]
      obtain ⟨j, hj, rfl⟩ := kixC h.1 h1
      obtain ⟨k, -, hk, rfl⟩ := kbt (a := 0) (b := 69) h2 (by decide) (by decide)
      rw [kcl (show j < 1000 by omega), (km_n k (by omega)).1]
      have := (km_n k (by omega)).2
      rw [(km_n k (by omega)).1] at this
      rw [this]
      exact (h.cb hj (f := 1) rfl (Or.inl ⟨rfl, by omega⟩)).ck hj rfl (by omega)
    · rw [if_neg h2]; exact h
  · rw [if_neg h1]; exact h
theorem v_crosser (h : RV r) (km sk pl : Int32) : RV (s_crosser r km sk pl).2.1 := by
  unfold s_crosser
  by_cases h1 : 0 ≤ km ∧ km ≤ 69
  · rw [if_pos h1]
    by_cases h2 : 0 ≤ sk ∧ sk ≤ 9
    · rw [if_pos h2]
      by_cases h3 : 0 ≤ pl ∧ pl ≤ r 3 - 1
      · rw [if_pos h3]
        by_cases h4 : r 9 = 8
        · rw [if_pos h4]; exact h
        · rw [if_neg h4]
          obtain ⟨⟨c, hc, h8⟩, -⟩ := id h.1
          have hc8 : c < 8 := Nat.lt_of_le_of_ne h8 (fun z => h4 (by rw [hc, z]; rfl))
          obtain ⟨j, hj, rfl⟩ := kixP h.1 h3
          obtain ⟨k, -, hk, rfl⟩ := kbt (a := 0) (b := 69) h1 (by decide) (by decide)
          have ec : (r 9).toNatClampNeg = c := by rw [hc]; exact kcl (by omega)
          rw [ec]
          unfold newC
          have e2 := (km_n k (by omega)).2
          rw [(km_n k (by omega)).1] at e2
          rw [(km_n k (by omega)).1, e2, hc]
          have z := ((((((h.ck hc8 rfl (show k / 10 < 7 by omega)).cb hc8 (f := 1) rfl (Or.inl ⟨rfl, show k % 10 ≤ 9 by omega⟩)).cs hc8 (f := 2) (by omega) sk).cb hc8 (f := 3) (n := 0) (v := 0) rfl (by omega)).cp hc8 rfl hj).cs hc8 (f := 5) (by omega) 0).cb hc8 (f := 6) (n := 0) (v := 0) rfl (by omega)
          exact ⟨RI_s9 z.1 (nI_1 c) (by omega), RX_lo z.2.1 (by omega) _ (by omega) (by omega), z.2.2.u (by omega)⟩
      · rw [if_neg h3]; exact h
    · rw [if_neg h2]; exact h
  · rw [if_neg h1]; exact h
theorem v_beats (h : RV r) (v : Int32) : RV (s_beats r v).2.1 := by
  unfold s_beats
  split
  · split
    · exact h.pass _
    · exact h
  · exact h
theorem v_loose (h : RV r) (v : Int32) : RV (s_loose r v).2.1 := by
  unfold s_loose
  split
  · split
    · exact h.loo _
    · exact h
  · exact h
theorem v_change (h : RV r) (c x v : Int32) : RV (s_change r c x v).2.1 := by
  unfold s_change
  by_cases h1 : 0 ≤ c ∧ c ≤ r 9 - 1
  · rw [if_pos h1]
    by_cases h2 : chOk r x v
    · rw [if_pos h2]
      obtain ⟨j, hj, rfl⟩ := kixC h.1 h1
      obtain ⟨w, hw, rfl⟩ := chOk_q h2
      rw [kcl (show j < 1000 by omega), kcl (show w < 1000 by omega)]
      rcases (show w = 0 ∨ w = 1 ∨ w = 2 ∨ w = 3 by omega) with rfl | rfl | rfl | rfl
      · rw [if_neg (by decide)]; exact h.cs hj (f := 2) (by omega) v
      · rw [if_neg (by decide)]
        obtain ⟨n, -, hn, rfl⟩ := kbt (a := 0) (b := 99) ((chOk1 r v).mpr h2) (by decide) (by decide)
        exact h.cb hj (f := 3) rfl (by omega)
      · rw [if_neg (by decide)]
        obtain ⟨n, hn, rfl⟩ := kixP h.1 ((chOk2 r v).mpr h2)
        exact h.cp hj rfl hn
      · rw [if_pos (by decide)]
        exact (h.cb hj (f := 6) (n := 0) (v := 0) rfl (by omega)).cs hj (f := 5) (by omega) v
    · rw [if_neg h2]; exact h
  · rw [if_neg h1]; exact h
theorem fdB_n (x : Int64) (i : Nat) : ∃ n, n < 256 ∧ fdB x i = nI n := by
  unfold fdB
  generalize x >>> ((nI (8 * i)).toInt64 &&& 63) = y
  refine ⟨(y.toBitVec &&& 255#64).toNat, ?_, ?_⟩
  · rw [BitVec.toNat_and]
    exact Nat.lt_of_le_of_lt Nat.and_le_right (by decide)
  · apply Int32.toBitVec_inj.mp
    show (y.toBitVec &&& 255#64).signExtend 32 = BitVec.ofNat 32 (y.toBitVec &&& 255#64).toNat
    apply BitVec.eq_of_getLsbD_eq
    intro j hj
    rw [BitVec.getLsbD_signExtend, if_pos (show j < 64 by omega), BitVec.getLsbD_ofNat]
    simp [hj, BitVec.getLsbD]
theorem fdR_RV (h : RV r) (x : Int64) {n : Nat} (hn : r 4 = nI n) : ∀ i, i ≤ 8 → n + i ≤ 50 → RV (fdR r x i)
  | 0, _, _ => h
  | i + 1, hi, h50 => by
    have z := fdR_RV h x hn i (by omega) (by omega)
    have e4 := fdR_4 (x := x) hn i
    rw [fdR, e4, kcl (show n + i < 1000 by omega)]
    obtain ⟨b, hb, eb⟩ := fdB_n x i
    have z1 : RV (upd (fdR r x i) (85 + (n + i)) (fdB x i)) := by
      refine ⟨RI_upd z.1 _ (by omega) (fun k hk => by omega), RX_lo z.2.1 (by omega) _ (by omega) (by omega), fun k hk => ?_⟩
      by_cases e : k = n + i
      · rw [e, pk_us]; exact ⟨b, hb, eb⟩
      · rw [pk_un (by omega)]; exact z.2.2 k hk
    exact z1.s4 (nI_1 (n + i)) (by omega)
theorem v_feed (h : RV r) (x : Int64) (v : Int32) : RV (s_feed r x v).2.1 := by
  unfold s_feed
  by_cases h1 : 1 ≤ v ∧ v ≤ 8
  · rw [if_pos h1]
    by_cases h2 : r 4 + v ≤ 50
    · rw [if_pos h2]
      obtain ⟨-, -, -, -, ⟨n, hn, h50⟩, -⟩ := id h.1
      obtain ⟨k, k1, k2, rfl⟩ := kbt (a := 1) (b := 8) h1 (by decide) (by decide)
      rw [hn, nI_add] at h2
      have : n + k ≤ 50 := Nat.le_of_not_lt fun z => nI_ge z (by omega) h2
      rw [kcl (show k < 1000 by omega)]
      exact fdR_RV h x hn k k2 this
    · rw [if_neg h2]; exact h
  · rw [if_neg h1]; exact h
theorem v_text (h : RV r) (v : Int32) : RV (s_text r v).2.1 := by
  unfold s_text
  by_cases h1 : 0 ≤ v ∧ v ≤ 1
  · rw [if_pos h1]
    obtain ⟨u, -, hu, rfl⟩ := kbt (a := 0) (b := 1) h1 (by decide) (by decide)
    rw [kcl (show u < 1000 by omega)]
    split
    · obtain ⟨-, -, -, -, ⟨n, hn, h50⟩, -⟩ := id h.1
      have o : ∀ k, (k < 155 ∧ k ≠ 6 + u) → txR r u k = r k := fun k hk => tx_out (by omega) (by omega)
      have z : RV (txR r u) := by
        refine ⟨RI_ag h.1 (fun k a b d => o k (by omega)) (fun k hk => ?_), RX_ag h.2.1 (fun k hk => o k (by omega)), TB_ag h.2.2 (fun k a b => o k (by omega))⟩
        by_cases e : k = u
        · refine Or.inr ⟨n, ?_, h50⟩
          rw [e]; unfold txR; rw [pk_us]; exact hn
        · rw [tx_out (by omega) (by omega)]; exact h.1.2.2.2.2.2.2.2.2 k hk
      exact z.s4 (c := 0) rfl (by omega)
    · exact h.s4 (c := 0) rfl (by omega)
  · rw [if_neg h1]; exact h
theorem srF_no (P : Nat → Prop) [DecidablePred P] : ∀ m i k, i ≤ k → k < srF P m i → ¬ P k
  | 0, i, k, h1, h2 => by
    have : srF P 0 i = i := rfl
    omega
  | m + 1, i, k, h1, h2 => by
    unfold srF at h2
    by_cases h : P i
    · rw [if_pos h] at h2; omega
    · rw [if_neg h] at h2
      rcases Nat.lt_or_ge i k with z | z
      · exact srF_no P m (i + 1) k (by omega) h2
      · rw [show k = i by omega]; exact h
theorem ld_RV {I : Nat → Nat → Int32} {a : Nat} (h : RV r) : ∀ n, n ≤ 8 → (∀ i, i < n → 0 ≤ I 89 (40 * a + i) ∧ I 89 (40 * a + i) ≤ 99) → RV (ldR I r a n)
  | 0, _, _ => h
  | n + 1, hn, hv => by
    obtain ⟨k, -, hk, ek⟩ := kbt (a := 0) (b := 99) (hv n (by omega)) (by decide) (by decide)
    exact (ld_RV h n (by omega) (fun i hi => hv i (by omega))).cb (by omega) (f := 3) ek (by omega)
theorem v_loads {I : Nat → Nat → Int32} (h : RV r) (v : Int32) : RV (s_loads I r v).2.1 := by
  unfold s_loads
  split
  · split
    · exact h
    · have h8 := sMany_le h.1
      have hl : 0 ≤ ldN I v.toNatClampNeg (min (sMany r) (I 88 v.toNatClampNeg).toNatClampNeg) 0 ∧ ldN I v.toNatClampNeg (min (sMany r) (I 88 v.toNatClampNeg).toNatClampNeg) 0 ≤ 0 + min (sMany r) (I 88 v.toNatClampNeg).toNatClampNeg := srF_le _ _ 0
      refine ld_RV h _ (by omega) (fun i hi => Decidable.not_not.mp (srF_no _ _ 0 i (by omega) hi))
  · exact h
theorem v_check (h : RV r) : RV (s_check r).2.1 := by
  unfold s_check
  split <;> exact h.s5 (c := 0) rfl (by omega)
end C21

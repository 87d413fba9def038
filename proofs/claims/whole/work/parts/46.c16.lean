/-- a stretch of code -/
def sg (g : Nat → Int32) (x y z : Int32) : Nat → Nat → cS → cS
  | _, 0, s => s
  | i, m + 1, s => sg g x y z (i + 1) m (stpF x y z (g i) s)
section C16
variable {g h : Nat → Int32} {x y z : Int32}
theorem sg_add : ∀ m i k s, sg g x y z i (m + k) s = sg g x y z (i + m) k (sg g x y z i m s)
  | 0, i, k, s => by rw [Nat.zero_add]; rfl
  | m + 1, i, k, s => by
    rw [show m + 1 + k = (m + k) + 1 by omega, sg, sg_add m (i + 1) k, show i + 1 + m = i + (m + 1) by omega]
    rfl
theorem sg_cg : ∀ m i s, (∀ q, i ≤ q → q < i + m → g q = h q) → sg g x y z i m s = sg h x y z i m s
  | 0, _, _, _ => rfl
  | m + 1, i, s, e => by
    rw [sg, sg, e i (by omega) (by omega)]
    exact sg_cg m (i + 1) _ (fun q a b => e q (by omega) (by omega))
theorem run_sg (s : cS) : ∀ n, runF g x y z s n = sg g x y z 0 n s
  | 0 => rfl
  | n + 1 => by
    rw [runF, run_sg s n, sg_add n 0 1 s, Nat.zero_add]
    rfl
/-- the code from i to j puts V on top of what lies there -/
def EV (g : Nat → Int32) (i j : Nat) (V : Int32 → Int32 → Int32 → Int32) : Prop := ∀ (x y z : Int32) (s : cS), s.2 ≤ i → j ≤ 50 → (sg g x y z i (j - i) s).2 = s.2 + 1 ∧ (sg g x y z i (j - i) s).1 s.2 = V x y z ∧ ∀ q, q < s.2 → (sg g x y z i (j - i) s).1 q = s.1 q
theorem EV.cg {i j : Nat} {V : Int32 → Int32 → Int32 → Int32} (k : EV g i j V) (hij : i ≤ j) (e : ∀ q, i ≤ q → q < j → h q = g q) : EV h i j V := fun x y z s hs hj => by
  rw [sg_cg (j - i) i s (fun q a b => e q a (by omega))]
  exact k x y z s hs hj
theorem EV.to {i j : Nat} {V W : Int32 → Int32 → Int32 → Int32} (k : EV g i j V) (e : ∀ x y z, V x y z = W x y z) : EV g i j W := fun x y z s hs hj => by
  have := k x y z s hs hj
  rw [e] at this
  exact this
theorem EV_push {i : Nat} {v : Int32} {V : Int32 → Int32 → Int32 → Int32} (hg : g i = v) (h3 : -3 ≤ v) (hV : ∀ x y z, (if 0 ≤ v then v else if v = -1 then x else if v = -2 then y else z) = V x y z) : EV g i (i + 1) V := fun x y z s hs hj => by
  rw [show i + 1 - i = 1 by omega]
  have e : sg g x y z i 1 s = (upd s.1 s.2 (V x y z), s.2 + 1) := by
    show stpF x y z (g i) s = _
    rw [hg, ← hV x y z]
    unfold stpF
    exact if_pos ⟨h3, by omega⟩
  rw [e]
  exact ⟨rfl, pk_us, fun q hq => pk_un (by omega)⟩
theorem EV_not {i j : Nat} {V : Int32 → Int32 → Int32 → Int32} (k : EV g i j V) (hij : i < j) (hg : g j = -33) : EV g i (j + 1) (fun x y z => kb (V x y z = 0)) := fun x y z s hs hj => by
  obtain ⟨k1, k2, k3⟩ := k x y z s hs (by omega)
  rw [show j + 1 - i = (j - i) + 1 by omega, sg_add, show i + (j - i) = j by omega]
  generalize sg g x y z i (j - i) s = t at k1 k2 k3
  have e : sg g x y z j 1 t = (upd t.1 (t.2 - 1) (kb (t.1 (t.2 - 1) = 0)), t.2) := by
    show stpF x y z (g j) t = _
    rw [hg]
    unfold stpF
    rw [if_neg (fun q => absurd q.1 (by decide))]
    exact if_pos ⟨rfl, by omega⟩
  rw [e, k1, show s.2 + 1 - 1 = s.2 by omega, k2]
  exact ⟨rfl, pk_us, fun q hq => (pk_un (by omega)).trans (k3 q hq)⟩
theorem sgn_f : ∀ n, (n = 37 ∨ n = 38 ∨ n = 42 ∨ n = 43 ∨ n = 45 ∨ n = 47 ∨ n = 60 ∨ n = 61 ∨ n = 62 ∨ n = 124) → ¬ -3 ≤ -(nI n) ∧ ¬ -(nI n) = -33 ∧ -(-(nI n)) = nI n := by
  intro n hn
  rcases hn with rfl | rfl | rfl | rfl | rfl | rfl | rfl | rfl | rfl | rfl <;> decide
theorem EV_bin {i j k n : Nat} {V W : Int32 → Int32 → Int32 → Int32} (hV : EV g i j V) (hW : EV g j k W) (hij : i < j) (hjk : j < k) (hn : n = 37 ∨ n = 38 ∨ n = 42 ∨ n = 43 ∨ n = 45 ∨ n = 47 ∨ n = 60 ∨ n = 61 ∨ n = 62 ∨ n = 124) (hg : g k = -(nI n)) : EV g i (k + 1) (fun x y z => jnF (nI n) (V x y z) (W x y z)) := fun x y z s hs hj => by
  obtain ⟨k1, k2, k3⟩ := hV x y z s hs (by omega)
  rw [show k + 1 - i = (j - i) + ((k - j) + 1) by omega, sg_add, show i + (j - i) = j by omega, sg_add, show j + (k - j) = k by omega]
  generalize sg g x y z i (j - i) s = t at k1 k2 k3
  obtain ⟨m1, m2, m3⟩ := hW x y z t (by omega) (by omega)
  generalize sg g x y z j (k - j) t = v at m1 m2 m3
  obtain ⟨n1, n2, n3⟩ := sgn_f n hn
  have e : sg g x y z k 1 v = (upd v.1 (v.2 - 2) (jnF (nI n) (v.1 (v.2 - 2)) (v.1 (v.2 - 1))), v.2 - 1) := by
    show stpF x y z (g k) v = _
    rw [hg]
    unfold stpF
    rw [if_neg (fun q => n1 q.1), if_neg (fun q => n2 q.1), if_pos (by omega), n3]
  rw [e]
  dsimp only
  rw [show v.2 - 2 = s.2 by omega, show v.2 - 1 = t.2 by omega, m2, m3 s.2 (by omega), k2, show t.2 = s.2 + 1 from k1]
  exact ⟨rfl, pk_us, fun q hq => (pk_un (by omega)).trans ((m3 q (by omega)).trans (k3 q hq))⟩
end C16
/-- the level of a sign -/
def lvF (v : Int32) : Int32 := if v = 124 then 0 else if v = 38 then 1 else if v = 60 ∨ v = 61 ∨ v = 62 then 2 else if v = 43 ∨ v = 45 then 3 else if v = 42 ∨ v = 47 ∨ v = 37 then 4 else -1
def sgL (n : Nat) : Prop := n = 37 ∨ n = 38 ∨ n = 42 ∨ n = 43 ∨ n = 45 ∨ n = 47 ∨ n = 60 ∨ n = 61 ∨ n = 62 ∨ n = 124
theorem lv_sg : ∀ n, n < 256 → ¬ lvF (nI n) = -1 → (n = 37 ∨ n = 38 ∨ n = 42 ∨ n = 43 ∨ n = 45 ∨ n = 47 ∨ n = 60 ∨ n = 61 ∨ n = 62 ∨ n = 124) := by decide +kernel
theorem lv_m1 : lvF (-1) = -1 := by decide
section C16b
variable (G : pG) (n : Nat)
theorem lv0 {v : Int32} : lvF v = 0 ↔ v = 124 := by
  unfold lvF
  by_cases h : v = 124
  · simp [h]
  · rw [if_neg h]
    simp only [h, iff_false]
    repeat' split
    all_goals decide
theorem lv1 {v : Int32} : lvF v = 1 ↔ v = 38 := by
  unfold lvF
  by_cases h : v = 38
  · subst h; decide
  · simp only [h, iff_false]
    repeat' split
    all_goals first | decide | contradiction
theorem lv2 {v : Int32} : lvF v = 2 ↔ (v = 60 ∨ v = 61 ∨ v = 62) := by
  unfold lvF
  by_cases h : v = 60 ∨ v = 61 ∨ v = 62
  · rcases h with rfl | rfl | rfl <;> decide
  · simp only [h, iff_false]
    repeat' split
    all_goals first | decide | contradiction
theorem lv3 {v : Int32} : lvF v = 3 ↔ (v = 43 ∨ v = 45) := by
  unfold lvF
  by_cases h : v = 43 ∨ v = 45
  · rcases h with rfl | rfl <;> decide
  · simp only [h, iff_false]
    repeat' split
    all_goals first | decide | contradiction
theorem lv4 {v : Int32} : lvF v = 4 ↔ (v = 42 ∨ v = 47 ∨ v = 37) := by
  unfold lvF
  by_cases h : v = 42 ∨ v = 47 ∨ v = 37
  · rcases h with rfl | rfl | rfl <;> decide
  · simp only [h, iff_false]
    repeat' split
    all_goals first | decide | contradiction
theorem jn_mul {s u v : Int32} (h : s = 42 ∨ s = 47 ∨ s = 37) : jnF s u v = mulF s u v := by
  rcases h with rfl | rfl | rfl
  · rfl
  · unfold jnF mulF; simp only [show ¬ (47 : Int32) = 124 by decide, show ¬ (47 : Int32) = 38 by decide, show ¬ (47 : Int32) = 60 by decide, show ¬ (47 : Int32) = 61 by decide, show ¬ (47 : Int32) = 62 by decide, show ¬ (47 : Int32) = 43 by decide, show ¬ (47 : Int32) = 45 by decide, show ¬ (47 : Int32) = 42 by decide, if_false, if_true]
  · unfold jnF mulF; simp only [show ¬ (37 : Int32) = 124 by decide, show ¬ (37 : Int32) = 38 by decide, show ¬ (37 : Int32) = 60 by decide, show ¬ (37 : Int32) = 61 by decide, show ¬ (37 : Int32) = 62 by decide, show ¬ (37 : Int32) = 43 by decide, show ¬ (37 : Int32) = 45 by decide, show ¬ (37 : Int32) = 42 by decide, show ¬ (37 : Int32) = 47 by decide, if_false]
theorem jn_cmp {s u v : Int32} (h : s = 60 ∨ s = 61 ∨ s = 62) : jnF s u v = cmpF s u v := by
  unfold jnF cmpF
  rcases h with rfl | rfl | rfl
  · rw [if_neg (show ¬ (60 : Int32) = 124 by decide), if_neg (show ¬ (60 : Int32) = 38 by decide), if_pos (show (60 : Int32) = 60 from rfl), if_pos (show (60 : Int32) = 60 from rfl)]
  · rw [if_neg (show ¬ (61 : Int32) = 124 by decide), if_neg (show ¬ (61 : Int32) = 38 by decide), if_neg (show ¬ (61 : Int32) = 60 by decide), if_pos (show (61 : Int32) = 61 from rfl), if_neg (show ¬ (61 : Int32) = 60 by decide), if_pos (show (61 : Int32) = 61 from rfl)]
  · rw [if_neg (show ¬ (62 : Int32) = 124 by decide), if_neg (show ¬ (62 : Int32) = 38 by decide), if_neg (show ¬ (62 : Int32) = 60 by decide), if_neg (show ¬ (62 : Int32) = 61 by decide), if_pos (show (62 : Int32) = 62 from rfl), if_neg (show ¬ (62 : Int32) = 60 by decide), if_neg (show ¬ (62 : Int32) = 61 by decide)]
theorem pz_hd {L : Nat} (hL : L = 0 ∨ L = 1 ∨ L = 3 ∨ L = 4) (v : Int32) (a op : Nat) : pz G (n + 1) L v a op = if (pz G n (L + 1) 0 a op).2.2 then pz G n (10 + L) (pz G n (L + 1) 0 a op).1 (pz G n (L + 1) 0 a op).2.1 op else pz G n (L + 1) 0 a op := by
  rcases hL with rfl | rfl | rfl | rfl <;> rfl
theorem pz_lp {L : Nat} (hL : L = 0 ∨ L = 1 ∨ L = 3 ∨ L = 4) (v : Int32) (a op : Nat) : pz G (n + 1) (10 + L) v a op = if lvF (G.1 a) = nI L then (if (pz G n (L + 1) 0 (a + 1) op).2.2 then pz G n (10 + L) (jnF (G.1 a) v (pz G n (L + 1) 0 (a + 1) op).1) (pz G n (L + 1) 0 (a + 1) op).2.1 op else (jnF (G.1 a) v (pz G n (L + 1) 0 (a + 1) op).1, (pz G n (L + 1) 0 (a + 1) op).2.1, false)) else (v, a, true) := by
  rcases hL with rfl | rfl | rfl | rfl
  · rw [pz10]
    by_cases h : G.1 a = 124
    · rw [if_pos h, if_pos (show lvF (G.1 a) = nI 0 from lv0.mpr h), h]; rfl
    · rw [if_neg h, if_neg (show ¬ lvF (G.1 a) = nI 0 from fun q => h (lv0.mp q))]
  · rw [pz11]
    by_cases h : G.1 a = 38
    · rw [if_pos h, if_pos (show lvF (G.1 a) = nI 1 from lv1.mpr h), h]; rfl
    · rw [if_neg h, if_neg (show ¬ lvF (G.1 a) = nI 1 from fun q => h (lv1.mp q))]
  · rw [pz13]
    by_cases h : G.1 a = 43 ∨ G.1 a = 45
    · rw [if_pos h, if_pos (show lvF (G.1 a) = nI 3 from lv3.mpr h)]
      rcases h with h | h <;> (rw [h]; rfl)
    · rw [if_neg h, if_neg (show ¬ lvF (G.1 a) = nI 3 from fun q => h (lv3.mp q))]
  · rw [pz14]
    by_cases h : G.1 a = 42 ∨ G.1 a = 47 ∨ G.1 a = 37
    · rw [if_pos h, if_pos (show lvF (G.1 a) = nI 4 from lv4.mpr h), jn_mul h]
    · rw [if_neg h, if_neg (show ¬ lvF (G.1 a) = nI 4 from fun q => h (lv4.mp q))]
theorem pz_2 (v : Int32) (a op : Nat) : pz G (n + 1) 2 v a op = if (pz G n 3 0 a op).2.2 then (if lvF (G.1 (pz G n 3 0 a op).2.1) = nI 2 then (jnF (G.1 (pz G n 3 0 a op).2.1) (pz G n 3 0 a op).1 (pz G n 3 0 ((pz G n 3 0 a op).2.1 + 1) op).1, (pz G n 3 0 ((pz G n 3 0 a op).2.1 + 1) op).2.1, (pz G n 3 0 ((pz G n 3 0 a op).2.1 + 1) op).2.2) else pz G n 3 0 a op) else pz G n 3 0 a op := by
  rw [pz2]
  by_cases h : G.1 (pz G n 3 0 a op).2.1 = 60 ∨ G.1 (pz G n 3 0 a op).2.1 = 61 ∨ G.1 (pz G n 3 0 a op).2.1 = 62
  · rw [if_pos h, if_pos (show lvF (G.1 (pz G n 3 0 a op).2.1) = nI 2 from lv2.mpr h), jn_cmp h]
  · rw [if_neg h, if_neg (show ¬ lvF (G.1 (pz G n 3 0 a op).2.1) = nI 2 from fun q => h (lv2.mp q))]
end C16b
/-- where a level stops, and whether it could be read, doesn't lie in the names' values -/
theorem pz_i (B : Nat → Int32) (u : Nat) (x y z x' y' z' : Int32) : ∀ n md, (md = 0 ∨ md = 1 ∨ md = 2 ∨ md = 3 ∨ md = 4 ∨ md = 5 ∨ md = 10 ∨ md = 11 ∨ md = 13 ∨ md = 14) → ∀ v v' a op, (pz (B, u, x, y, z) n md v a op).2 = (pz (B, u, x', y', z') n md v' a op).2 := by
  intro n
  induction n with
  | zero => intro md _ v v' a op; rfl
  | succ n ih =>
    intro md hmd v v' a op
    have hd : ∀ L, (L = 0 ∨ L = 1 ∨ L = 3 ∨ L = 4) → ∀ v v' a op, (pz (B, u, x, y, z) (n + 1) L v a op).2 = (pz (B, u, x', y', z') (n + 1) L v' a op).2 := by
      intro L hL v v' a op
      rw [pz_hd _ n hL, pz_hd _ n hL]
      have h1 := ih (L + 1) (by omega) 0 0 a op
      have e1 := congrArg Prod.fst h1
      have e2 := congrArg Prod.snd h1
      rw [← e2, ← e1]
      split
      · exact ih (10 + L) (by omega) _ _ _ _
      · exact h1
    have lp : ∀ L, (L = 0 ∨ L = 1 ∨ L = 3 ∨ L = 4) → ∀ v v' a op, (pz (B, u, x, y, z) (n + 1) (10 + L) v a op).2 = (pz (B, u, x', y', z') (n + 1) (10 + L) v' a op).2 := by
      intro L hL v v' a op
      rw [pz_lp _ n hL, pz_lp _ n hL]
      have h1 := ih (L + 1) (by omega) 0 0 (a + 1) op
      have e1 := congrArg Prod.fst h1
      have e2 := congrArg Prod.snd h1
      dsimp only
      rw [← e2, ← e1]
      split
      · split
        · exact ih (10 + L) (by omega) _ _ _ _
        · rfl
      · rfl
    rcases hmd with rfl | rfl | rfl | rfl | rfl | rfl | rfl | rfl | rfl | rfl
    · exact hd 0 (by decide) _ _ _ _
    · exact hd 1 (by decide) _ _ _ _
    · rw [pz_2, pz_2]
      have h1 := ih 3 (by decide) 0 0 a op
      have e1 := congrArg Prod.fst h1
      have e2 := congrArg Prod.snd h1
      dsimp only
      rw [← e2, ← e1]
      split
      · split
        · exact ih 3 (by decide) 0 0 _ op
        · exact h1
      · exact h1
    · exact hd 3 (by decide) _ _ _ _
    · exact hd 4 (by decide) _ _ _ _
    · rw [pz5, pz5]
      have h1 := ih 5 (by decide) 0 0 (a + 1) (op + 1)
      have h2 := ih 0 (by decide) 0 0 (a + 1) (op + 1)
      have e1 := congrArg Prod.fst h1
      have e2 := congrArg Prod.snd h1
      have f1 := congrArg Prod.fst h2
      have f2 := congrArg Prod.snd h2
      dsimp only
      rw [← e2, ← e1, ← f2, ← f1]
      unfold namF
      dsimp only
      repeat' split
      all_goals rfl
    · exact lp 0 (by decide) _ _ _ _
    · exact lp 1 (by decide) _ _ _ _
    · exact lp 3 (by decide) _ _ _ _
    · exact lp 4 (by decide) _ _ _ _
/-- a number of four digits at most -/
theorem num_n (B : Nat → Int32) : ∀ n, n ≤ 4 → ∀ v a, (∃ q, v = nI q ∧ q < 10 ^ (4 - n)) → ∃ q, (numF B n v a).1 = nI q ∧ q < 10000
  | 0, _, v, a, h => by obtain ⟨q, hq, h4⟩ := h; exact ⟨q, hq, h4⟩
  | n + 1, hn, v, a, h => by
    obtain ⟨q, rfl, h4⟩ := h
    have hp : 10 ^ (4 - n) = 10 * 10 ^ (4 - (n + 1)) := by rw [show 4 - n = (4 - (n + 1)) + 1 by omega, Nat.pow_succ, Nat.mul_comm]
    have hb : 10 ^ (4 - (n + 1)) ≤ 1000 := by
      have : 4 - (n + 1) ≤ 3 := by omega
      exact Nat.pow_le_pow_right (by decide) this
    unfold numF
    split
    · rename_i hd
      obtain ⟨k, hk1, hk2, hk⟩ := kbt (a := 48) (b := 57) hd (by decide) (by decide)
      refine num_n B n (by omega) _ _ ⟨10 * q + (k - 48), ?_, by omega⟩
      rw [hk, show (10 : Int32) * nI q = nI (10 * q) from pk_mul 10 q, nI_add, show (48 : Int32) = nI 48 from rfl, pk_sub (by omega)]
      congr 1
      omega
    · exact ⟨q, rfl, by
        have : (10 : Nat) ^ (4 - (n + 1)) ≤ 10000 := Nat.le_trans hb (by decide)
        omega⟩

section C22
variable {E : kE} {n c t : Nat} {I J : Nat → Nat → Int32} {r q : Nat → Int32}
def VO (I : Nat → Nat → Int32) : Prop := (∃ m, I 81 20 = nI m ∧ m ≤ 40) ∧ I 69 1 = I 81 20 ∧ ∀ k, k < 40 → I 70 k = I 91 k
def IM (n : Nat) (I : Nat → Nat → Int32) : Prop := (∃ m, m ≤ n ∧ I 0 7 = nI m ∧ I 81 5 = nI m ∧ I 81 4 = (if m = 0 then 0 else 1)) ∧ LC 26 I ∧ (¬ I 0 7 = 0 → (∃ c t, KR 26 I (I 83) c t) ∧ RV (I 83))
/-- between two calls: n of them have been done -/
def INV (n : Nat) (I : Nat → Nat → Int32) : Prop := (∃ c t, CR I (I 82) c t) ∧ RV (I 82) ∧ (∀ k, k < 6 → I 72 k = I 86 k) ∧ SH I ∧ SI I ∧ VO I ∧ IM n I
def FK (I J : Nat → Nat → Int32) : Prop := ∀ k, (k = 0 ∨ (26 ≤ k ∧ k < 51) ∨ 69 ≤ k) → k ≠ 72 → J k = I k
def Act (E : kE) (n : Nat) (I : Nat → Nat → Int32) (x y : kY) (as : List Value) : Prop := ∃ P : Option Value → kM → Prop, Ct E 99 x 0 0 (.ref 0 :: as) (kJ I) P ∧ ∀ v M, P v M → ∃ J a, v = some (.int a) ∧ M = kJ J ∧ ∃ P2 : Option Value → kM → Prop, Ct E 99 y 0 0 (.ref 81 :: as) (kJ J) P2 ∧ ∀ v2 M2, P2 v2 M2 → ∃ K, v2 = some (.int a) ∧ M2 = kJ K ∧ INV (n + 1) K
theorem ke_ne {J' : Nat → Nat → Int32} {e k : Nat} (h : k ≠ 82) (h2 : k ≠ 86) : ke (kset J' 82 q) e k = J' k := by
  unfold ke
  split
  · exact kset_ne _ _ h
  · unfold ker; rw [kset_ne _ _ h2, kset_ne _ _ h]
theorem ke_82 {J' : Nat → Nat → Int32} {e : Nat} : ke (kset J' 82 q) e 82 = q := by
  unfold ke
  split
  · exact kset_same _ _ _
  · unfold ker; rw [kset_ne _ _ (by decide), kset_same]
theorem ke_86 {J' : Nat → Nat → Int32} {e : Nat} : ke (kset J' 82 q) e 86 = erF (J' 86) e := by
  unfold ke erF
  split
  · exact kset_ne _ _ (by decide)
  · unfold ker; rw [kset_same, kset_ne _ _ (by decide)]
theorem er_eq {f g : Nat → Int32} (h : ∀ k, k < 6 → f k = g k) (e : Nat) : ∀ k, k < 6 → erF f e k = erF g e k := fun k hk => by
  unfold erF
  split
  · exact h k hk
  · by_cases z : k = e
    · subst z; rw [pk_us, pk_us, h k hk]
    · rw [pk_un z, pk_un z]; exact h k hk
theorem IM.st {K : Nat → Nat → Int32} (h : IM n I) (h0 : K 0 7 = I 0 7) (h5 : K 81 5 = I 81 5) (h4 : K 81 4 = I 81 4) (hk : ∀ k, 26 ≤ k → k < 51 → K k = I k) (h83 : K 83 = I 83) : IM (n + 1) K := by
  obtain ⟨⟨m, m1, m2, m3, m4⟩, hl, hr⟩ := h
  refine ⟨⟨m, by omega, h0.trans m2, h5.trans m3, h4.trans m4⟩, fun u hu => ?_, fun z => ?_⟩
  · rw [hk _ (by omega) (by omega)]; exact hl u hu
  · rw [h0] at z
    obtain ⟨⟨c, t, z1⟩, z2⟩ := hr z
    rw [h83]
    exact ⟨⟨c, t, z1.ag (fun k a b => hk k (by omega) (by omega))⟩, z2⟩
theorem SH.ag {K : Nat → Nat → Int32} (h : SH I) (e : ∀ k, (73 ≤ k ∧ k < 81) ∨ k = 87 ∨ k = 88 ∨ k = 89 → K k = I k) : SH K := fun a ha => by
  rw [e _ (by omega), e 87 (by omega), e 88 (by omega), e _ (by omega), e 89 (by omega)]; exact h a ha
theorem SI.ag {K : Nat → Nat → Int32} (h : SI I) (e : K 88 = I 88) : SI K := fun a ha => by rw [e]; exact h a ha
theorem VO.ag {K : Nat → Nat → Int32} (h : VO I) (e : K 81 20 = I 81 20) (e2 : K 69 = I 69) (e3 : K 70 = I 70) (e4 : K 91 = I 91) : VO K := by
  unfold VO
  rw [e, e2, e3, e4]; exact h
theorem INV_row (hI : INV n I) {u : sT} (hu : RV u.2.1) {J' : Nat → Nat → Int32} (hC : CR J u.2.1 c t) (hJ : FK I J) (h72 : J 72 = erF (I 72) u.2.2) (hj : kJnk J J') : INV (n + 1) (ke (kset J' 82 u.2.1) u.2.2) := by
  obtain ⟨-, -, hE, hS, hS2, hV, hM⟩ := hI
  have f1 : ∀ k, k ≠ 81 → k ≠ 82 → k ≠ 84 → k ≠ 85 → k ≠ 90 → k ≠ 86 → ke (kset J' 82 u.2.1) u.2.2 k = J k := fun k a b d e f g => by rw [ke_ne b g]; exact hj.1 k a b d e f
  have f2 : ∀ k, (k = 0 ∨ (26 ≤ k ∧ k < 51) ∨ 69 ≤ k) → k ≠ 72 → k ≠ 81 → k ≠ 82 → k ≠ 84 → k ≠ 85 → k ≠ 90 → k ≠ 86 → ke (kset J' 82 u.2.1) u.2.2 k = I k := fun k z a b d e f g h => by rw [f1 k b d e f g h]; exact hJ k z a
  have f81 : ∀ j, j < 7 ∨ 14 < j → ke (kset J' 82 u.2.1) u.2.2 81 j = I 81 j := fun j h => by rw [ke_ne (by decide) (by decide), hj.2 j h, hJ 81 (by omega) (by decide)]
  refine ⟨⟨c, t, ?_⟩, ?_, fun k hk => ?_, hS.ag (fun k hk => f2 k (by omega) (by omega) (by omega) (by omega) (by omega) (by omega) (by omega) (by omega)), hS2.ag (f2 88 (by omega) (by omega) (by omega) (by omega) (by omega) (by omega) (by omega) (by omega)), hV.ag (f81 20 (by omega)) (f2 69 (by omega) (by omega) (by omega) (by omega) (by omega) (by omega) (by omega) (by omega)) (f2 70 (by omega) (by omega) (by omega) (by omega) (by omega) (by omega) (by omega) (by omega)) (f2 91 (by omega) (by omega) (by omega) (by omega) (by omega) (by omega) (by omega) (by omega)), hM.st ?_ (f81 5 (by omega)) (f81 4 (by omega)) (fun k a b => f2 k (by omega) (by omega) (by omega) (by omega) (by omega) (by omega) (by omega) (by omega)) (f2 83 (by omega) (by omega) (by omega) (by omega) (by omega) (by omega) (by omega) (by omega))⟩
  · rw [ke_82]
    exact KR.ag hC (fun k a b => f1 k (by omega) (by omega) (by omega) (by omega) (by omega) (by omega))
  · rw [ke_82]; exact hu
  · rw [ke_86, f1 72 (by decide) (by decide) (by decide) (by decide) (by decide) (by decide), h72, hj.1 86 (by decide) (by decide) (by decide) (by decide) (by decide), hJ 86 (by omega) (by decide)]
    exact er_eq hE _ k hk
  · rw [f2 0 (by omega) (by omega) (by omega) (by omega) (by omega) (by omega) (by omega) (by omega)]
theorem INV_er (hI : INV n I) {e : Nat} (he : e ≠ 0) : INV (n + 1) (ker (kerC I e) e) := by
  obtain ⟨⟨c, t, hC⟩, hV, -⟩ := id hI
  obtain ⟨J, c2, t2, -, h2, h3, h4, h5⟩ := kZ_xe (a := 0) hC (FX.rf I) he
  have eJ : J = kerC I e := by
    have := congrArg (fun z => z.2.2) h2
    exact this.symm
  subst eJ
  have z := INV_row hI (u := (0, I 82, e)) hV h3 h4 h5 (kJnk.rf _)
  have e2 : ke (kset (kerC I e) 82 (I 82)) e = ker (kerC I e) e := by
    have : kset (kerC I e) 82 (I 82) = kerC I e := by
      have h82 : kerC I e 82 = I 82 := kset_ne _ _ (by decide)
      rw [← h82, kset_self]
    rw [this]; exact if_neg he
  rw [e2] at z
  exact z
theorem Act_row (hI : INV n I) {u : sT} (hu : RV u.2.1) {x y : kY} {as : List Value} (hx : Ct E 99 x 0 0 (.ref 0 :: as) (kJ I) (kZ I u)) (hy : ∀ J, FK I J → Ct E 99 y 0 0 (.ref 81 :: as) (kJ (kset J 82 (I 82))) (kU J u)) : Act E n I x y as := by
  refine ⟨_, hx, fun v M hv => ?_⟩
  obtain ⟨J, c, t, rfl, rfl, hC, hJ, h72⟩ := hv
  have h82 : J 82 = I 82 := hJ 82 (by omega) (by decide)
  have hc := hy J hJ
  rw [← h82, kset_self] at hc
  refine ⟨J, _, rfl, rfl, _, hc, fun v2 M2 h2 => ?_⟩
  obtain ⟨J', rfl, rfl, hj⟩ := h2
  exact ⟨_, rfl, rfl, INV_row hI hu hC hJ h72 hj⟩
theorem Act_rowT (hI : INV n I) {u : sT} (hu : RV u.2.1) {x y : kY} {as : List Value} (hx : Ct E 99 x 0 0 (.ref 0 :: as) (kJ I) (kZ I u)) (hy : ∀ J, FK I J → Ct E 99 y 0 0 (.ref 81 :: as) (kJ (kset J 82 (I 82))) (kT J u)) : Act E n I x y as := by
  refine ⟨_, hx, fun v M hv => ?_⟩
  obtain ⟨J, c, t, rfl, rfl, hC, hJ, h72⟩ := hv
  have h82 : J 82 = I 82 := hJ 82 (by omega) (by decide)
  have hc := hy J hJ
  rw [← h82, kset_self] at hc
  refine ⟨J, _, rfl, rfl, _, hc, fun v2 M2 h2 => ?_⟩
  obtain ⟨rfl, rfl⟩ := h2
  exact ⟨_, rfl, rfl, INV_row hI hu hC hJ h72 (kJnk.rf J)⟩
theorem a_rope (hI : INV n I) (v : Int32) : Act E n I mX8_rope mX9_rope [.int v] := by
  obtain ⟨⟨c, t, hC⟩, hV, hE, hS, hS2, hVO, hM⟩ := id hI
  exact Act_rowT hI (u := s_rope (I 82) v) (v_rope hV v) (c_rope (by omega) hC hV.1 hV.2.1 v ) (fun J hJ => (m_rope (by omega)  v))
theorem a_rhyme (hI : INV n I) (p : Int32) (x : Int32) : Act E n I mX8_rhyme mX9_rhyme [.int p, .int x] := by
  obtain ⟨⟨c, t, hC⟩, hV, hE, hS, hS2, hVO, hM⟩ := id hI
  exact Act_rowT hI (u := s_rhyme (I 82) p x) (v_rhyme hV p x) (c_rhyme (by omega) hC hV.1 hV.2.1 p x ) (fun J hJ => (m_rhyme (by omega)  p x))
theorem a_turner (hI : INV n I) (v : Int32) : Act E n I mX8_turner mX9_turner [.int v] := by
  obtain ⟨⟨c, t, hC⟩, hV, hE, hS, hS2, hVO, hM⟩ := id hI
  exact Act_rowT hI (u := s_turner (I 82) v) (v_turner hV v) (c_turner (by omega) hC hV.1 hV.2.1 v ) (fun J hJ => (m_turner (by omega) hV.1 v))
theorem k_ofTurner (h : RV r) (v : Int32) (x : Int32) : RV (s_ofTurner r v x).2.1 := by
  unfold s_ofTurner
  repeat' split
  all_goals exact h
theorem a_ofTurner (hI : INV n I) (v : Int32) (x : Int32) : Act E n I mX8_ofTurner mX9_ofTurner [.int v, .int x] := by
  obtain ⟨⟨c, t, hC⟩, hV, hE, hS, hS2, hVO, hM⟩ := id hI
  exact Act_rowT hI (u := s_ofTurner (I 82) v x) (k_ofTurner hV v x) (c_ofTurner (by omega) hC hV.1 hV.2.1 v x ) (fun J hJ => (m_ofTurner (by omega) hV.1 v x))
theorem a_relieve (hI : INV n I) (v : Int32) : Act E n I mX8_relieve mX9_relieve [.int v] := by
  obtain ⟨⟨c, t, hC⟩, hV, hE, hS, hS2, hVO, hM⟩ := id hI
  exact Act_rowT hI (u := s_relieve (I 82) v) (v_relieve hV v) (c_relieve (by omega) hC hV.1 hV.2.1 v ) (fun J hJ => (m_relieve (by omega)  v))
theorem a_crosser (hI : INV n I) (km : Int32) (sk : Int32) (pl : Int32) : Act E n I mX8_crosser mX9_crosser [.int km, .int sk, .int pl] := by
  obtain ⟨⟨c, t, hC⟩, hV, hE, hS, hS2, hVO, hM⟩ := id hI
  exact Act_rowT hI (u := s_crosser (I 82) km sk pl) (v_crosser hV km sk pl) (c_crosser (by omega) hC hV.1 hV.2.1 km sk pl ) (fun J hJ => (m_crosser (by omega) hV.1 km sk pl))
theorem k_ofCrosser (h : RV r) (v : Int32) (x : Int32) : RV (s_ofCrosser r v x).2.1 := by
  unfold s_ofCrosser
  repeat' split
  all_goals exact h
theorem a_ofCrosser (hI : INV n I) (v : Int32) (x : Int32) : Act E n I mX8_ofCrosser mX9_ofCrosser [.int v, .int x] := by
  obtain ⟨⟨c, t, hC⟩, hV, hE, hS, hS2, hVO, hM⟩ := id hI
  exact Act_row hI (u := s_ofCrosser (I 82) v x) (k_ofCrosser hV v x) (c_ofCrosser (by omega) hC hV.1 hV.2.1 v x ) (fun J hJ => (m_ofCrosser (by omega) hV.1 v x))
theorem a_change (hI : INV n I) (v : Int32) (x : Int32) (y : Int32) : Act E n I mX8_change mX9_change [.int v, .int x, .int y] := by
  obtain ⟨⟨c, t, hC⟩, hV, hE, hS, hS2, hVO, hM⟩ := id hI
  exact Act_rowT hI (u := s_change (I 82) v x y) (v_change hV v x y) (c_change (by omega) hC hV.1 hV.2.1 v x y ) (fun J hJ => (m_change (by omega) hV.1 v x y))
theorem a_become (hI : INV n I) (v : Int32) (x : Int32) : Act E n I mX8_become mX9_become [.int v, .int x] := by
  obtain ⟨⟨c, t, hC⟩, hV, hE, hS, hS2, hVO, hM⟩ := id hI
  exact Act_rowT hI (u := s_become (I 82) v x) (v_become hV v x) (c_become (by omega) hC hV.1 hV.2.1 v x ) (fun J hJ => (m_become (by omega) hV.1 v x))
theorem k_as (h : RV r) (v : Int32) (x : Int32) : RV (s_as r v x).2.1 := by
  unfold s_as
  repeat' split
  all_goals exact h
theorem a_as (hI : INV n I) (v : Int32) (x : Int32) : Act E n I mX8_as mX9_as [.int v, .int x] := by
  obtain ⟨⟨c, t, hC⟩, hV, hE, hS, hS2, hVO, hM⟩ := id hI
  exact Act_rowT hI (u := s_as (I 82) v x) (k_as hV v x) (c_as (by omega) hC hV.1 hV.2.1 v x ) (fun J hJ => (m_as (by omega) hV.1 v x))
theorem a_go (hI : INV n I) (v : Int32) : Act E n I mX8_go mX9_go [.int v] := by
  obtain ⟨⟨c, t, hC⟩, hV, hE, hS, hS2, hVO, hM⟩ := id hI
  exact Act_rowT hI (u := s_go (I 82) v) (v_go hV v) (c_go (by omega) hC hV.1 hV.2.1 v ) (fun J hJ => (m_go (by omega)  v))
theorem a_splice (hI : INV n I) (v : Int32) (x : Int32) : Act E n I mX8_splice mX9_splice [.int v, .int x] := by
  obtain ⟨⟨c, t, hC⟩, hV, hE, hS, hS2, hVO, hM⟩ := id hI
  exact Act_rowT hI (u := s_splice (I 82) v x) (v_splice hV v x) (c_splice (by omega) hC hV.1 hV.2.1 v x ) (fun J hJ => (m_splice (by omega) hV.1 v x))
theorem a_feed (hI : INV n I) (x : Int64) (v : Int32) : Act E n I mX8_feed mX9_feed [.long x, .int v] := by
  obtain ⟨⟨c, t, hC⟩, hV, hE, hS, hS2, hVO, hM⟩ := id hI
  exact Act_rowT hI (u := s_feed (I 82) x v) (v_feed hV x v) (c_feed (by omega) hC hV.1 hV.2.1 x v ) (fun J hJ => (m_feed (by omega) hV.1 x v))
theorem a_text (hI : INV n I) (v : Int32) : Act E n I mX8_text mX9_text [.int v] := by
  obtain ⟨⟨c, t, hC⟩, hV, hE, hS, hS2, hVO, hM⟩ := id hI
  exact Act_row hI (u := s_text (I 82) v) (v_text hV v) (c_text (by omega) hC hV.1 hV.2.1 v hV.2.2) (fun J hJ => (m_text (by omega) hV.1 v))
theorem k_law (h : RV r) (v : Int32) (x : Int32) (y : Int32) (z : Int32) : RV (s_law r v x y z).2.1 := by
  unfold s_law
  repeat' split
  all_goals exact h
theorem a_law (hI : INV n I) (v : Int32) (x : Int32) (y : Int32) (z : Int32) : Act E n I mX8_law mX9_law [.int v, .int x, .int y, .int z] := by
  obtain ⟨⟨c, t, hC⟩, hV, hE, hS, hS2, hVO, hM⟩ := id hI
  exact Act_row hI (u := s_law (I 82) v x y z) (k_law hV v x y z) (c_law (by omega) hC hV.1 hV.2.1 v x y z ) (fun J hJ => (m_law (by omega) hV.1 v x y z))
theorem a_beats (hI : INV n I) (v : Int32) : Act E n I mX8_beats mX9_beats [.int v] := by
  obtain ⟨⟨c, t, hC⟩, hV, hE, hS, hS2, hVO, hM⟩ := id hI
  exact Act_row hI (u := s_beats (I 82) v) (v_beats hV v) (c_beats (by omega) hC hV.1 hV.2.1 v ) (fun J hJ => (m_beats (by omega) hV.1 v))
theorem a_loose (hI : INV n I) (v : Int32) : Act E n I mX8_loose mX9_loose [.int v] := by
  obtain ⟨⟨c, t, hC⟩, hV, hE, hS, hS2, hVO, hM⟩ := id hI
  exact Act_row hI (u := s_loose (I 82) v) (v_loose hV v) (c_loose (by omega) hC hV.1 hV.2.1 v ) (fun J hJ => (m_loose (by omega) hV.1 v))
theorem k_wear (h : RV r) (v : Int32) : RV (s_wear r v).2.1 := by
  unfold s_wear
  repeat' split
  all_goals exact h
theorem a_wear (hI : INV n I) (v : Int32) : Act E n I mX8_wear mX9_wear [.int v] := by
  obtain ⟨⟨c, t, hC⟩, hV, hE, hS, hS2, hVO, hM⟩ := id hI
  exact Act_rowT hI (u := s_wear (I 82) v) (k_wear hV v) (c_wear (by omega) hC hV.1 hV.2.1 v ) (fun J hJ => (m_wear (by omega) hV.1 v))
theorem k_then (h : RV r) (m : Int32) (v : Int32) (x : Int32) : RV (s_then r m v x).2.1 := by
  unfold s_then
  repeat' split
  all_goals exact h
theorem a_then (hI : INV n I) (m : Int32) (v : Int32) (x : Int32) : Act E n I mX8_then mX9_then [.int m, .int v, .int x] := by
  obtain ⟨⟨c, t, hC⟩, hV, hE, hS, hS2, hVO, hM⟩ := id hI
  exact Act_row hI (u := s_then (I 82) m v x) (k_then hV m v x) (c_then (by omega) hC hV.1 hV.2.1 m v x ) (fun J hJ => (m_then (by omega) hV.1 m v x))
theorem k_over (h : RV r) (v : Int32) : RV (s_over r v).2.1 := by
  unfold s_over
  repeat' split
  all_goals exact h
theorem a_over (hI : INV n I) (v : Int32) : Act E n I mX8_over mX9_over [.int v] := by
  obtain ⟨⟨c, t, hC⟩, hV, hE, hS, hS2, hVO, hM⟩ := id hI
  exact Act_row hI (u := s_over (I 82) v) (k_over hV v) (c_over (by omega) hC hV.1 hV.2.1 v ) (fun J hJ => (m_over (by omega) hV.1 v))
theorem k_begin (h : RV r) (v : Int32) : RV (s_begin r v).2.1 := by
  unfold s_begin
  repeat' split
  all_goals exact h
theorem a_begin (hI : INV n I) (v : Int32) : Act E n I mX8_begin mX9_begin [.int v] := by
  obtain ⟨⟨c, t, hC⟩, hV, hE, hS, hS2, hVO, hM⟩ := id hI
  exact Act_row hI (u := s_begin (I 82) v) (k_begin hV v) (c_begin (by omega) hC hV.1 hV.2.1 v ) (fun J hJ => (m_begin (by omega) hV.1 v))
theorem k_rhymes (h : RV r) (m : Int32) (al : Int32) (no : Int32) (x : Int32) : RV (s_rhymes r m al no x).2.1 := by
  unfold s_rhymes
  repeat' split
  all_goals exact h
theorem a_rhymes (hI : INV n I) (m : Int32) (al : Int32) (no : Int32) (x : Int32) : Act E n I mX8_rhymes mX9_rhymes [.int m, .int al, .int no, .int x] := by
  obtain ⟨⟨c, t, hC⟩, hV, hE, hS, hS2, hVO, hM⟩ := id hI
  exact Act_row hI (u := s_rhymes (I 82) m al no x) (k_rhymes hV m al no x) (c_rhymes (by omega) hC hV.1 hV.2.1 m al no x ) (fun J hJ => (m_rhymes (by omega) hV.1 m al no x))
theorem k_most (h : RV r) (v : Int32) : RV (s_most r v).2.1 := by
  unfold s_most
  repeat' split
  all_goals exact h
theorem a_most (hI : INV n I) (v : Int32) : Act E n I mX8_most mX9_most [.int v] := by
  obtain ⟨⟨c, t, hC⟩, hV, hE, hS, hS2, hVO, hM⟩ := id hI
  exact Act_row hI (u := s_most (I 82) v) (k_most hV v) (c_most (by omega) hC hV.1 hV.2.1 v ) (fun J hJ => (m_most (by omega) hV.1 v))
theorem k_relief (h : RV r)  : RV (s_relief r).2.1 := by
  unfold s_relief
  repeat' split
  all_goals exact h
theorem a_relief (hI : INV n I)  : Act E n I mX8_relief mX9_relief [] := by
  obtain ⟨⟨c, t, hC⟩, hV, hE, hS, hS2, hVO, hM⟩ := id hI
  exact Act_rowT hI (u := s_relief (I 82)) (k_relief hV ) (c_relief (by omega) hC hV.1 hV.2.1  ) (fun J hJ => (m_relief (by omega) hV.1 ))
theorem k_stands (h : RV r)  : RV (s_stands r).2.1 := by
  unfold s_stands
  repeat' split
  all_goals exact h
theorem a_stands (hI : INV n I)  : Act E n I mX8_stands mX9_stands [] := by
  obtain ⟨⟨c, t, hC⟩, hV, hE, hS, hS2, hVO, hM⟩ := id hI
  exact Act_row hI (u := s_stands (I 82)) (k_stands hV ) (c_stands (by omega) hC hV.1 hV.2.1  ) (fun J hJ => (m_stands (by omega) hV.1 ))
theorem k_parts (h : RV r) (v : Int32) : RV (s_parts r v).2.1 := by
  unfold s_parts
  repeat' split
  all_goals exact h
theorem a_parts (hI : INV n I) (v : Int32) : Act E n I mX8_parts mX9_parts [.int v] := by
  obtain ⟨⟨c, t, hC⟩, hV, hE, hS, hS2, hVO, hM⟩ := id hI
  exact Act_row hI (u := s_parts (I 82) v) (k_parts hV v) (c_parts (by omega) hC hV.1 hV.2.1 v ) (fun J hJ => (m_parts (by omega) hV.1 v))
theorem FK.g (h : FK I J) {k : Nat} (hk : 69 ≤ k) (h2 : k ≠ 72) : J k = I k := h k (by omega) h2
theorem e_who (h : FK I J) (v x : Int32) : s_who I r v x = s_who J r v x := by unfold s_who; rw [h.g (k := 87) (by decide) (by decide), h.g (k := 88) (by decide) (by decide), h.g (k := 89) (by decide) (by decide)]
theorem e_told (h : FK I J) (v : Int32) : s_told I r v = s_told J r v := by unfold s_told; rw [h.g (k := 86) (by decide) (by decide)]
theorem e_trace (h : FK I J) (v : Int32) : s_trace I r v = s_trace J r v := by unfold s_trace; rw [h.g (k := 81) (by decide) (by decide), h.g (k := 91) (by decide) (by decide)]
theorem e_count (h : FK I J) (v : Int32) : s_count I r v = s_count J r v := by unfold s_count; rw [h.g (k := 81) (by decide) (by decide)]
theorem ld_cg {a : Nat} (h : J 89 = I 89) : ∀ m, ldR J r a m = ldR I r a m
  | 0 => rfl
  | m + 1 => by rw [ldR, ldR, ld_cg h m, h]
theorem e_loads (h : FK I J) (v : Int32) : s_loads I r v = s_loads J r v := by unfold s_loads ldN; simp only [ld_cg (h.g (k := 89) (by decide) (by decide)), h.g (k := 87) (by decide) (by decide), h.g (k := 88) (by decide) (by decide), h.g (k := 89) (by decide) (by decide)]
theorem e_judge (h : FK I J) (v : Int32) : s_judge I r v = s_judge J r v := by unfold s_judge; simp only [h.g (k := 87) (by decide) (by decide), h.g (k := 88) (by decide) (by decide), h.g (k := 89) (by decide) (by decide)]
theorem SI.fk (h : SI I) (hf : FK I J) : SI J := h.ag (hf.g (by decide) (by decide))
theorem k_who (h : RV r) (v : Int32) (x : Int32) : RV (s_who I r v x).2.1 := by
  unfold s_who
  repeat' split
  all_goals exact h
theorem a_who (hI : INV n I) (v : Int32) (x : Int32) : Act E n I mX8_who mX9_who [.int v, .int x] := by
  obtain ⟨⟨c, t, hC⟩, hV, hE, hS, hS2, hVO, hM⟩ := id hI
  exact Act_row hI (u := s_who I (I 82) v x) (k_who hV v x) (c_who (by omega) hC hV.1 hV.2.1 v x hS) (fun J hJ => (by rw [e_who hJ]; exact (m_who (by omega) hV.1 v x)))
theorem k_odds (h : RV r) (v : Int32) (m : Int32) (x : Int32) : RV (s_odds r v m x).2.1 := by
  unfold s_odds
  repeat' split
  all_goals exact h
theorem a_odds (hI : INV n I) (v : Int32) (m : Int32) (x : Int32) : Act E n I mX8_odds mX9_odds [.int v, .int m, .int x] := by
  obtain ⟨⟨c, t, hC⟩, hV, hE, hS, hS2, hVO, hM⟩ := id hI
  exact Act_row hI (u := s_odds (I 82) v m x) (k_odds hV v m x) (c_odds (by omega) hC hV.1 hV.2.1 v m x ) (fun J hJ => (m_odds (by omega) hV.1 v m x))
theorem a_seed (hI : INV n I) (v : Int32) : Act E n I mX8_seed mX9_seed [.int v] := by
  obtain ⟨⟨c, t, hC⟩, hV, hE, hS, hS2, hVO, hM⟩ := id hI
  exact Act_rowT hI (u := s_seed (I 82) v) (v_seed hV v) (c_seed (by omega) hC hV.1 hV.2.1 v ) (fun J hJ => (m_seed (by omega)  v))
theorem VO.fk (h : VO I) (hf : FK I J) : ∃ m, J 81 20 = nI m ∧ m ≤ 40 := by rw [hf.g (k := 81) (by decide) (by decide)]; exact h.1
theorem k_trace (h : RV r) (v : Int32) : RV (s_trace I r v).2.1 := by
  unfold s_trace
  repeat' split
  all_goals exact h
theorem a_trace (hI : INV n I) (v : Int32) : Act E n I mX8_trace mX9_trace [.int v] := by
  obtain ⟨⟨c, t, hC⟩, hV, hE, hS, hS2, hVO, hM⟩ := id hI
  exact Act_rowT hI (u := s_trace I (I 82) v) (k_trace hV v) (c_trace (by omega) hC hV.1 hV.2.1 v hVO.1 hVO.2.1 hVO.2.2) (fun J hJ => (by rw [e_trace hJ]; exact (m_trace (by omega) (hVO.fk hJ) v)))
theorem a_loads (hI : INV n I) (v : Int32) : Act E n I mX8_loads mX9_loads [.int v] := by
  obtain ⟨⟨c, t, hC⟩, hV, hE, hS, hS2, hVO, hM⟩ := id hI
  exact Act_rowT hI (u := s_loads I (I 82) v) (v_loads hV v) (c_loads (by omega) hC hV.1 hV.2.1 v hS hS2) (fun J hJ => (by rw [e_loads hJ]; exact (m_loads (by omega) hV.1 (hS2.fk hJ) v)))
theorem k_judge (h : RV r) (v : Int32) : RV (s_judge I r v).2.1 := by
  unfold s_judge
  split
  · split
    · exact h
    · dsimp only
      repeat' split
      all_goals exact h
  · exact h
theorem a_judge (hI : INV n I) (v : Int32) : Act E n I mX8_judge mX9_judge [.int v] := by
  obtain ⟨⟨c, t, hC⟩, hV, hE, hS, hS2, hVO, hM⟩ := id hI
  exact Act_rowT hI (u := s_judge I (I 82) v) (k_judge hV v) (c_judge (by omega) hC hV.1 hV.2.1 v hS hS2) (fun J hJ => (by rw [e_judge hJ]; exact (m_judge (by omega) hV.1 (hS2.fk hJ) v)))
theorem a_tell (hI : INV n I) (v : Int32) : Act E n I mX8_tell mX9_tell [.int v] := by
  obtain ⟨⟨c, t, hC⟩, hV, hE, hS, hS2, hVO, hM⟩ := id hI
  exact Act_rowT hI (u := s_tell (I 82) v) (v_tell hV v) (c_tell (by omega) hC hV.1 hV.2.1 v ) (fun J hJ => (m_tell (by omega) hV.1 v))
theorem a_check (hI : INV n I)  : Act E n I mX8_check mX9_check [] := by
  obtain ⟨⟨c, t, hC⟩, hV, hE, hS, hS2, hVO, hM⟩ := id hI
  exact Act_row hI (u := s_check (I 82)) (v_check hV) (c_check (by omega) hC hV.1 hV.2.1  ) (fun J hJ => (m_check (by omega) hV.1 ))
theorem k_count (h : RV r) (v : Int32) : RV (s_count I r v).2.1 := by
  unfold s_count
  by_cases h0 : v = 0
  · rw [if_pos h0]; exact h
  rw [if_neg h0]
  by_cases h1 : v = 1
  · rw [if_pos h1]; exact h
  rw [if_neg h1]
  by_cases h2 : v = 2
  · rw [if_pos h2]; exact h
  rw [if_neg h2]
  by_cases h3 : v = 3
  · rw [if_pos h3]; exact h
  rw [if_neg h3]
  by_cases h4 : v = 4
  · rw [if_pos h4]; exact h
  rw [if_neg h4]
  by_cases h5 : v = 5
  · rw [if_pos h5]; exact h
  rw [if_neg h5]
  by_cases h6 : v = 6
  · rw [if_pos h6]; exact h
  rw [if_neg h6]
  by_cases h7 : v = 7
  · rw [if_pos h7]; exact h
  rw [if_neg h7]
  by_cases h8 : v = 8
  · rw [if_pos h8]; exact h
  rw [if_neg h8]
  by_cases h9 : v = 9
  · rw [if_pos h9]; exact h
  rw [if_neg h9]
  by_cases h10 : v = 10
  · rw [if_pos h10]; exact h
  rw [if_neg h10]
  by_cases h11 : v = 11
  · rw [if_pos h11]; exact h
  rw [if_neg h11]
  by_cases h12 : v = 12
  · rw [if_pos h12]; exact h
  rw [if_neg h12]
  by_cases h13 : v = 13
  · rw [if_pos h13]; exact h
  rw [if_neg h13]
  exact h
theorem a_count (hI : INV n I) (v : Int32) : Act E n I mX8_count mX9_count [.int v] := by
  obtain ⟨⟨c, t, hC⟩, hV, hE, hS, hS2, hVO, hM⟩ := id hI
  exact Act_rowT hI (u := s_count I (I 82) v) (k_count hV v) (c_count (by omega) hC hV.1 hV.2.1 v hVO.2.1) (fun J hJ => (by rw [e_count hJ]; exact (m_count (by omega) hV.1 v)))
theorem k_told (h : RV r) (v : Int32) : RV (s_told I r v).2.1 := by
  unfold s_told
  repeat' split
  all_goals exact h
theorem a_told (hI : INV n I) (v : Int32) : Act E n I mX8_told mX9_told [.int v] := by
  obtain ⟨⟨c, t, hC⟩, hV, hE, hS, hS2, hVO, hM⟩ := id hI
  exact Act_rowT hI (u := s_told I (I 82) v) (k_told hV v) (c_told (by omega) hC hV.1 hV.2.1 v hE) (fun J hJ => (by rw [e_told hJ]; exact (m_told (by omega)  v)))
end C22

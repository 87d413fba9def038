section C23
variable {E : kE} {m c t : Nat} {I J : Nat → Nat → Int32} {r q : Nat → Int32}
theorem kc_ne {e k : Nat} (h : k ≠ 72) : kerC I e k = I k := kset_ne _ _ h
theorem Act_x {x y : kY} {as : List Value} {z s : Int32 × (Nat → Nat → Int32)} (hx : Ct E 99 x 0 0 (.ref 0 :: as) (kJ I) (kR z.1 z.2)) (hy : Ct E 99 y 0 0 (.ref 81 :: as) (kJ z.2) (kR s.1 s.2)) (h : s.1 = z.1 ∧ INV (m + 1) s.2) : Act E m I x y as := by
  refine ⟨_, hx, fun v M hv => ?_⟩
  obtain ⟨rfl, rfl⟩ := hv
  refine ⟨z.2, _, rfl, rfl, _, hy, fun v2 M2 h2 => ?_⟩
  obtain ⟨rfl, rfl⟩ := h2
  exact ⟨s.2, by rw [h.1], rfl, h.2⟩
theorem INV_sh {K : Nat → Nat → Int32} (hI : INV m I) (e : ∀ k, ¬ (73 ≤ k ∧ k < 81) → k ≠ 87 → k ≠ 88 → k ≠ 89 → k ≠ 90 → K k = I k) (hS : SH K) (hS2 : SI K) : INV (m + 1) K := by
  obtain ⟨⟨c, t, hC⟩, hV, hE, -, -, hVO, hM⟩ := hI
  refine ⟨⟨c, t, ?_⟩, ?_, fun k hk => ?_, hS, hS2, hVO.ag (by rw [e 81 (by omega) (by omega) (by omega) (by omega) (by omega)]) (e 69 (by omega) (by omega) (by omega) (by omega) (by omega)) (e 70 (by omega) (by omega) (by omega) (by omega) (by omega)) (e 91 (by omega) (by omega) (by omega) (by omega) (by omega)), hM.st (by rw [e 0 (by omega) (by omega) (by omega) (by omega) (by omega)]) (by rw [e 81 (by omega) (by omega) (by omega) (by omega) (by omega)]) (by rw [e 81 (by omega) (by omega) (by omega) (by omega) (by omega)]) (fun k a b => e k (by omega) (by omega) (by omega) (by omega) (by omega)) (e 83 (by omega) (by omega) (by omega) (by omega) (by omega))⟩
  · rw [e 82 (by omega) (by omega) (by omega) (by omega) (by omega)]
    exact KR.ag hC (fun k a b => e k (by omega) (by omega) (by omega) (by omega) (by omega))
  · rw [e 82 (by omega) (by omega) (by omega) (by omega) (by omega)]; exact hV
  · rw [e 72 (by omega) (by omega) (by omega) (by omega) (by omega), e 86 (by omega) (by omega) (by omega) (by omega) (by omega)]; exact hE k hk
theorem INV_sheet (hI : INV m I) {a : Nat} (ha : a < 4) (b : Int32) {n' : Int32} (hn : ∃ c, n' = nI c ∧ c ≤ 40) : INV (m + 1) (kset (kset (kset (zsh I a b n') 87 (upd (zsh I a b n' 87) a b)) 88 (upd (zsh I a b n' 88) a n')) 89 (clrS (zsh I a b n' 89) a 40)) := by
  obtain ⟨-, -, -, hS, hS2, -, -⟩ := id hI
  have z0 : ∀ k, k ≠ 73 + 2 * a → k ≠ 74 + 2 * a → zsh I a b n' k = I k := fun k h1 h2 => by unfold zsh; rw [kset_ne _ _ h2, kset_ne _ _ h1]
  have z87 := z0 87 (by omega) (by omega)
  have z88 := z0 88 (by omega) (by omega)
  have z89 := z0 89 (by omega) (by omega)
  rw [z87, z88, z89]
  refine INV_sh hI (fun k h1 h2 h3 h4 h5 => ?_) (fun a' ha' => ?_) (fun a' ha' => ?_)
  · rw [kset_ne _ _ h4, kset_ne _ _ h3, kset_ne _ _ h2, z0 k (by omega) (by omega)]
  · rw [kset_ne _ _ (show 73 + 2 * a' ≠ 89 by omega), kset_ne _ _ (show 73 + 2 * a' ≠ 88 by omega), kset_ne _ _ (show 73 + 2 * a' ≠ 87 by omega), kset_ne _ _ (show 74 + 2 * a' ≠ 89 by omega), kset_ne _ _ (show 74 + 2 * a' ≠ 88 by omega), kset_ne _ _ (show 74 + 2 * a' ≠ 87 by omega), kset_ne _ _ (show 87 ≠ 89 by decide), kset_ne _ _ (show 87 ≠ 88 by decide), kset_same, kset_ne _ _ (show 88 ≠ 89 by decide), kset_same, kset_same]
    by_cases e : a' = a
    · subst e
      have y1 : zsh I a' b n' (73 + 2 * a') = upd (upd (I (73 + 2 * a')) 1 b) 2 n' := by unfold zsh; rw [kset_ne _ _ (by omega), kset_same]
      have y2 : zsh I a' b n' (74 + 2 * a') = zc0 (I (74 + 2 * a')) 40 := by unfold zsh; rw [kset_same]
      rw [y1, y2]
      refine ⟨?_, ?_, fun z hz => ?_⟩
      · rw [pk_un (by decide), pk_us, pk_us]
      · rw [pk_us, pk_us]
      · exact (if_pos hz).trans (if_pos ⟨by omega, by omega⟩).symm
    · rw [z0 _ (by omega) (by omega), z0 _ (by omega) (by omega), pk_un e, pk_un e]
      obtain ⟨s1, s2, s3⟩ := hS a' ha'
      refine ⟨s1, s2, fun z hz => (s3 z hz).trans (if_neg (by omega)).symm⟩
  · rw [kset_ne _ _ (show 88 ≠ 89 by decide), kset_same]
    by_cases e : a' = a
    · rw [e, pk_us]; exact hn
    · rw [pk_un e]; exact hS2 a' ha'
theorem p_sheet (hI : INV m I) (v b n : Int32) : (s_sheet (z_sheet I v b n).2 v b n).1 = (z_sheet I v b n).1 ∧ INV (m + 1) (s_sheet (z_sheet I v b n).2 v b n).2 := by
  have bad : ∀ (e : Nat) (x : Int32), e ≠ 0 → z_sheet I v b n = (x, kerC I e) → (∀ J, s_sheet J v b n = (x, ker J e)) → (s_sheet (z_sheet I v b n).2 v b n).1 = (z_sheet I v b n).1 ∧ INV (m + 1) (s_sheet (z_sheet I v b n).2 v b n).2 := fun e x he hz hs => by
    rw [hz, hs]; exact ⟨rfl, INV_er hI he⟩
  by_cases h1 : 0 ≤ v ∧ v ≤ 3
  · by_cases h2 : b = 0 ∨ b = 8 ∨ b = 16 ∨ b = 32
    · by_cases h3 : ¬ b = 0 ∧ ¬ 0 ≤ n
      · exact bad 3 _ (by decide) (by unfold z_sheet; rw [if_pos h1, if_pos h2, if_pos h3]) (fun J => by unfold s_sheet; rw [if_pos h1, if_pos h2, if_pos h3])
      · by_cases h4 : ¬ b = 0 ∧ ¬ n ≤ 40
        · exact bad 1 _ (by decide) (by unfold z_sheet; rw [if_pos h1, if_pos h2, if_neg h3, if_pos h4]) (fun J => by unfold s_sheet; rw [if_pos h1, if_pos h2, if_neg h3, if_pos h4])
        · obtain ⟨a, -, ha, rfl⟩ := kbt (a := 0) (b := 3) h1 (by decide) (by decide)
          have hz : z_sheet I (nI a) b n = (1, zsh I a b (if b = 0 then 0 else n)) := by unfold z_sheet; rw [if_pos h1, if_pos h2, if_neg h3, if_neg h4, kcl (by omega)]
          have hs : ∀ J, s_sheet J (nI a) b n = (1, shM J a b n) := fun J => by unfold s_sheet; rw [if_pos h1, if_pos h2, if_neg h3, if_neg h4, kcl (by omega)]
          rw [hz, hs]
          refine ⟨rfl, INV_sheet hI (by omega) b ?_⟩
          by_cases hb : b = 0
          · rw [if_pos hb]; exact ⟨0, rfl, by decide⟩
          · rw [if_neg hb]
            have g1 : 0 ≤ n := Decidable.byContradiction fun z => h3 ⟨hb, z⟩
            have g2 : n ≤ 40 := Decidable.byContradiction fun z => h4 ⟨hb, z⟩
            obtain ⟨k, -, hk, rfl⟩ := kbt (a := 0) (b := 40) ⟨g1, g2⟩ (by decide) (by decide)
            exact ⟨k, rfl, hk⟩
    · exact bad 1 _ (by decide) (by unfold z_sheet; rw [if_pos h1, if_neg h2]) (fun J => by unfold s_sheet; rw [if_pos h1, if_neg h2])
  · exact bad 1 _ (by decide) (by unfold z_sheet; rw [if_neg h1]) (fun J => by unfold s_sheet; rw [if_neg h1])
theorem a_sheet (hI : INV m I) (v b n : Int32) : Act E m I mX8_sheet mX9_sheet [.int v, .int b, .int n] := Act_x (c_sheet (by omega) v b n) (m_sheet (by omega) v b n) (p_sheet hI v b n)
theorem INV_put (hI : INV m I) {a i : Nat} (ha : a < 4) (hi : i < 40) (x : Int32) : INV (m + 1) (kset (kset I (74 + 2 * a) (upd (I (74 + 2 * a)) i x)) 89 (upd (kset I (74 + 2 * a) (upd (I (74 + 2 * a)) i x) 89) (40 * a + i) x)) := by
  obtain ⟨-, -, -, hS, hS2, -, -⟩ := id hI
  rw [kset_ne _ _ (show 89 ≠ 74 + 2 * a by omega)]
  refine INV_sh hI (fun k h1 h2 h3 h4 h5 => ?_) (fun a' ha' => ?_) (fun a' ha' => ?_)
  · rw [kset_ne _ _ h4, kset_ne _ _ (by omega)]
  · obtain ⟨s1, s2, s3⟩ := hS a' ha'
    rw [kset_ne _ _ (show 73 + 2 * a' ≠ 89 by omega), kset_ne _ _ (show 73 + 2 * a' ≠ 74 + 2 * a by omega), kset_ne _ _ (show 87 ≠ 89 by decide), kset_ne _ _ (show 87 ≠ 74 + 2 * a by omega), kset_ne _ _ (show 88 ≠ 89 by decide), kset_ne _ _ (show 88 ≠ 74 + 2 * a by omega), kset_ne _ _ (show 74 + 2 * a' ≠ 89 by omega), kset_same]
    refine ⟨s1, s2, fun z hz => ?_⟩
    by_cases e : a' = a
    · subst e
      rw [kset_same]
      by_cases e2 : z = i
      · subst e2; rw [pk_us, pk_us]
      · rw [pk_un e2, pk_un (by omega)]; exact s3 z hz
    · rw [kset_ne _ _ (by omega), pk_un (by omega)]; exact s3 z hz
  · rw [kset_ne _ _ (show 88 ≠ 89 by decide), kset_ne _ _ (show 88 ≠ 74 + 2 * a by omega)]; exact hS2 a' ha'
theorem p_put (hI : INV m I) (v i x : Int32) : (s_put (z_put I v i x).2 v i x).1 = (z_put I v i x).1 ∧ INV (m + 1) (s_put (z_put I v i x).2 v i x).2 := by
  obtain ⟨-, -, -, hS, hS2, -, -⟩ := id hI
  by_cases h1 : 0 ≤ v ∧ v ≤ 3
  · obtain ⟨a, -, ha, rfl⟩ := kbt (a := 0) (b := 3) h1 (by decide) (by decide)
    have k87 : ∀ e, kerC I e 87 = I 87 := fun e => kset_ne _ _ (by decide)
    have k88 : ∀ e, kerC I e 88 = I 88 := fun e => kset_ne _ _ (by decide)
    by_cases h2 : I 87 a = 0
    · have hz : z_put I (nI a) i x = (-1000000002, kerC I 2) := by unfold z_put; rw [if_pos h1, kcl (by omega), if_pos h2]
      rw [hz]
      have hs : s_put (kerC I 2) (nI a) i x = (-1000000002, ker (kerC I 2) 2) := by unfold s_put; rw [if_pos h1, kcl (by omega), k87, if_pos h2]
      rw [hs]; exact ⟨rfl, INV_er hI (by decide)⟩
    · by_cases h3 : 0 ≤ i ∧ i ≤ I 88 a - 1
      · obtain ⟨s, hs, hs40⟩ := hS2 a (by omega)
        have h3' := h3
        rw [hs] at h3'
        obtain ⟨j, hj, rfl⟩ := kix h3' (by omega)
        have hz : z_put I (nI a) (nI j) x = (1, kset I (74 + 2 * a) (upd (I (74 + 2 * a)) j (nrwF (I 87 a) x))) := by unfold z_put; rw [if_pos h1, kcl (show a < 1000 by omega), if_neg h2, if_pos h3, kcl (show j < 1000 by omega)]
        rw [hz]
        have e87 : kset I (74 + 2 * a) (upd (I (74 + 2 * a)) j (nrwF (I 87 a) x)) 87 = I 87 := kset_ne _ _ (by omega)
        have e88 : kset I (74 + 2 * a) (upd (I (74 + 2 * a)) j (nrwF (I 87 a) x)) 88 = I 88 := kset_ne _ _ (by omega)
        have hq : s_put (kset I (74 + 2 * a) (upd (I (74 + 2 * a)) j (nrwF (I 87 a) x))) (nI a) (nI j) x = (1, kset (kset I (74 + 2 * a) (upd (I (74 + 2 * a)) j (nrwF (I 87 a) x))) 89 (upd (kset I (74 + 2 * a) (upd (I (74 + 2 * a)) j (nrwF (I 87 a) x)) 89) (40 * a + j) (nrwF (I 87 a) x))) := by
          unfold s_put
          rw [if_pos h1, kcl (show a < 1000 by omega), e87, if_neg h2, e88, if_pos h3, kcl (show j < 1000 by omega)]
        rw [hq]
        exact ⟨rfl, INV_put hI (by omega) (by omega) _⟩
      · have hz : z_put I (nI a) i x = (-1000000001, kerC I 1) := by unfold z_put; rw [if_pos h1, kcl (by omega), if_neg h2, if_neg h3]
        rw [hz]
        have hs : s_put (kerC I 1) (nI a) i x = (-1000000001, ker (kerC I 1) 1) := by unfold s_put; rw [if_pos h1, kcl (by omega), k87, if_neg h2, k88, if_neg h3]
        rw [hs]; exact ⟨rfl, INV_er hI (by decide)⟩
  · have hz : z_put I v i x = (-1000000001, kerC I 1) := by unfold z_put; rw [if_neg h1]
    have hs : ∀ J, s_put J v i x = (-1000000001, ker J 1) := fun J => by unfold s_put; rw [if_neg h1]
    rw [hz, hs]; exact ⟨rfl, INV_er hI (by decide)⟩
theorem SI_z {z : Nat → Nat → Int32} (h : SI I) (e : z 88 = I 88) : SI z := h.ag e
theorem a_put (hI : INV m I) (v i x : Int32) : Act E m I mX8_put mX9_put [.int v, .int i, .int x] := by
  obtain ⟨-, -, -, hS, hS2, -, -⟩ := id hI
  refine Act_x (c_put (by omega) hS hS2 v i x) (m_put (by omega) (hS2.ag ?_) v i x) (p_put hI v i x)
  unfold z_put
  by_cases h1 : 0 ≤ v ∧ v ≤ 3
  · rw [if_pos h1]
    obtain ⟨a, -, ha, rfl⟩ := kbt (a := 0) (b := 3) h1 (by decide) (by decide)
    rw [kcl (show a < 1000 by omega)]
    repeat' split
    all_goals first | (dsimp only; exact kc_ne (k := 88) (by decide)) | (dsimp only; exact kset_ne _ _ (by omega))
  · rw [if_neg h1]; (dsimp only; exact kc_ne (k := 88) (by decide))
theorem INV_move (hI : INV m I) {a b p p2 k : Nat} (ha : a < 4) (hb : b < 4) (hp : p + k ≤ 40) (hp2 : p2 + k ≤ 40) : INV (m + 1) (kset (kset (kset I (74 + 2 * b) (va_cpy (I (74 + 2 * a)) (I (74 + 2 * b)) p p2 k)) 90 (mv1 (kset I (74 + 2 * b) (va_cpy (I (74 + 2 * a)) (I (74 + 2 * b)) p p2 k)) (40 * a + p) k)) 89 (mv2 (kset I (74 + 2 * b) (va_cpy (I (74 + 2 * a)) (I (74 + 2 * b)) p p2 k)) (40 * a + p) (40 * b + p2) k)) := by
  obtain ⟨-, -, -, hS, hS2, -, -⟩ := id hI
  generalize hJ : kset I (74 + 2 * b) (va_cpy (I (74 + 2 * a)) (I (74 + 2 * b)) p p2 k) = J
  have f : ∀ j, j ≠ 74 + 2 * b → J j = I j := fun j h => by rw [← hJ, kset_ne _ _ h]
  have f89 := f 89 (by omega)
  refine INV_sh hI (fun j h1 h2 h3 h4 h5 => ?_) (fun a' ha' => ?_) (fun a' ha' => ?_)
  · rw [kset_ne _ _ h4, kset_ne _ _ h5, f j (by omega)]
  · obtain ⟨s1, s2, s3⟩ := hS a' ha'
    rw [kset_ne _ _ (show 73 + 2 * a' ≠ 89 by omega), kset_ne _ _ (show 73 + 2 * a' ≠ 90 by omega), f _ (show 73 + 2 * a' ≠ 74 + 2 * b by omega), kset_ne _ _ (show 87 ≠ 89 by decide), kset_ne _ _ (show 87 ≠ 90 by decide), f 87 (by omega), kset_ne _ _ (show 88 ≠ 89 by decide), kset_ne _ _ (show 88 ≠ 90 by decide), f 88 (by omega), kset_ne _ _ (show 74 + 2 * a' ≠ 89 by omega), kset_ne _ _ (show 74 + 2 * a' ≠ 90 by omega), kset_same]
    refine ⟨s1, s2, fun z hz => ?_⟩
    unfold mv2
    rw [f89]
    by_cases e : a' = b
    · subst e
      rw [← hJ, kset_same]
      unfold va_cpy
      by_cases e2 : p2 ≤ z ∧ z < p2 + k
      · rw [if_pos e2, if_pos (by omega), show 40 * a + p + (40 * a' + z - (40 * a' + p2)) = 40 * a + (p + (z - p2)) by omega]
        exact (hS a ha).2.2 _ (by omega)
      · rw [if_neg e2, if_neg (by omega)]; exact s3 z hz
    · rw [f _ (by omega), if_neg (by omega)]; exact s3 z hz
  · rw [kset_ne _ _ (show 88 ≠ 89 by decide), kset_ne _ _ (show 88 ≠ 90 by decide), f 88 (by omega)]; exact hS2 a' ha'
theorem p_move (hI : INV m I) (v i u j n : Int32) : (s_move (z_move I v i u j n).2 v i u j n).1 = (z_move I v i u j n).1 ∧ INV (m + 1) (s_move (z_move I v i u j n).2 v i u j n).2 := by
  obtain ⟨-, -, -, hS, hS2, -, -⟩ := id hI
  have k87 : ∀ e, kerC I e 87 = I 87 := fun e => kset_ne _ _ (by decide)
  have k88 : ∀ e, kerC I e 88 = I 88 := fun e => kset_ne _ _ (by decide)
  have bad : ∀ (e : Nat) (x : Int32), e ≠ 0 → z_move I v i u j n = (x, kerC I e) → s_move (kerC I e) v i u j n = (x, ker (kerC I e) e) → (s_move (z_move I v i u j n).2 v i u j n).1 = (z_move I v i u j n).1 ∧ INV (m + 1) (s_move (z_move I v i u j n).2 v i u j n).2 := fun e x he hz hs => by
    rw [hz]
    dsimp only
    rw [hs]; exact ⟨rfl, INV_er hI he⟩
  by_cases h1 : 0 ≤ v ∧ v ≤ 3
  · by_cases h2 : 0 ≤ u ∧ u ≤ 3
    · obtain ⟨a, -, ha, rfl⟩ := kbt (a := 0) (b := 3) h1 (by decide) (by decide)
      obtain ⟨b, -, hb, rfl⟩ := kbt (a := 0) (b := 3) h2 (by decide) (by decide)
      have ka := kcl (show a < 1000 by omega)
      have kb_ := kcl (show b < 1000 by omega)
      by_cases h3 : I 87 a = 0
      · exact bad 2 _ (by decide) (by unfold z_move; rw [if_pos h1, if_pos h2, ka, if_pos h3]) (by unfold s_move; rw [if_pos h1, if_pos h2, ka, k87, if_pos h3])
      · by_cases h4 : I 87 b = 0
        · exact bad 2 _ (by decide) (by unfold z_move; rw [if_pos h1, if_pos h2, ka, kb_, if_neg h3, if_pos h4]) (by unfold s_move; rw [if_pos h1, if_pos h2, ka, kb_, k87, if_neg h3, if_pos h4])
        · by_cases h5 : I 87 a = I 87 b
          · have hz0 : z_move I (nI a) i (nI b) j n = (if n < 0 then (-1000000001, kerC I 1) else if i < 0 then (-1000000001, kerC I 1) else if j < 0 then (-1000000001, kerC I 1) else if I 88 a - n < i then (-1000000001, kerC I 1) else if j ≤ I 88 b - n then (n, kset I (74 + 2 * b) (va_cpy (I (74 + 2 * a)) (I (74 + 2 * b)) i.toNatClampNeg j.toNatClampNeg n.toNatClampNeg)) else (-1000000001, kerC I 1)) := by unfold z_move; rw [if_pos h1, if_pos h2, ka, kb_, if_neg h3, if_neg h4, if_pos h5]
            have hs0 : ∀ J, J 87 = I 87 → J 88 = I 88 → s_move J (nI a) i (nI b) j n = (if n < 0 then (-1000000001, ker J 1) else if i < 0 then (-1000000001, ker J 1) else if j < 0 then (-1000000001, ker J 1) else if I 88 a - n < i then (-1000000001, ker J 1) else if j ≤ I 88 b - n then (n, kset (kset J 90 (mv1 J (40 * a + i.toNatClampNeg) n.toNatClampNeg)) 89 (mv2 J (40 * a + i.toNatClampNeg) (40 * b + j.toNatClampNeg) n.toNatClampNeg)) else (-1000000001, ker J 1)) := fun J e7 e8 => by unfold s_move; rw [if_pos h1, if_pos h2, ka, kb_, e7, e8, if_neg h3, if_neg h4, if_pos h5]
            by_cases g1 : n < 0
            · exact bad 1 _ (by decide) (by rw [hz0, if_pos g1]) (by rw [hs0 _ (k87 1) (k88 1), if_pos g1])
            · by_cases g2 : i < 0
              · exact bad 1 _ (by decide) (by rw [hz0, if_neg g1, if_pos g2]) (by rw [hs0 _ (k87 1) (k88 1), if_neg g1, if_pos g2])
              · by_cases g3 : j < 0
                · exact bad 1 _ (by decide) (by rw [hz0, if_neg g1, if_neg g2, if_pos g3]) (by rw [hs0 _ (k87 1) (k88 1), if_neg g1, if_neg g2, if_pos g3])
                · by_cases g4 : I 88 a - n < i
                  · exact bad 1 _ (by decide) (by rw [hz0, if_neg g1, if_neg g2, if_neg g3, if_pos g4]) (by rw [hs0 _ (k87 1) (k88 1), if_neg g1, if_neg g2, if_neg g3, if_pos g4])
                  · by_cases g5 : j ≤ I 88 b - n
                    · obtain ⟨s, hs, hs40⟩ := hS2 a (by omega)
                      obtain ⟨s2, hs2, hs240⟩ := hS2 b (by omega)
                      obtain ⟨p, k, ek, ep, hpk⟩ := kmv (z := 0) hs40 g1 g2 (by rw [← hs]; exact g4)
                      obtain ⟨p2, k2, ek2, ep2, hpk2⟩ := kmv (z := 0) hs240 g1 g3 (by rw [← hs2]; exact Int32.not_lt.mpr g5)
                      have ekk : k2 = k := by
                        have z := congrArg Int32.toNatClampNeg (ek2.symm.trans ek)
                        rwa [kcl (by omega), kcl (by omega)] at z
                      rw [ekk] at hpk2
                      have c1 : i.toNatClampNeg = p := by rw [ep]; exact kcl (by omega)
                      have c2 : j.toNatClampNeg = p2 := by rw [ep2]; exact kcl (by omega)
                      have c3 : n.toNatClampNeg = k := by rw [ek]; exact kcl (by omega)
                      rw [hz0, if_neg g1, if_neg g2, if_neg g3, if_neg g4, if_pos g5]
                      dsimp only
                      rw [hs0 _ (kset_ne _ _ (by omega)) (kset_ne _ _ (by omega)), if_neg g1, if_neg g2, if_neg g3, if_neg g4, if_pos g5, c1, c2, c3]
                      exact ⟨rfl, INV_move hI (by omega) (by omega) (by omega) (by omega)⟩
                    · exact bad 1 _ (by decide) (by rw [hz0, if_neg g1, if_neg g2, if_neg g3, if_neg g4, if_neg g5]) (by rw [hs0 _ (k87 1) (k88 1), if_neg g1, if_neg g2, if_neg g3, if_neg g4, if_neg g5])
          · exact bad 5 _ (by decide) (by unfold z_move; rw [if_pos h1, if_pos h2, ka, kb_, if_neg h3, if_neg h4, if_neg h5]) (by unfold s_move; rw [if_pos h1, if_pos h2, ka, kb_, k87, if_neg h3, if_neg h4, if_neg h5])
    · exact bad 1 _ (by decide) (by unfold z_move; rw [if_pos h1, if_neg h2]) (by unfold s_move; rw [if_pos h1, if_neg h2])
  · exact bad 1 _ (by decide) (by unfold z_move; rw [if_neg h1]) (by unfold s_move; rw [if_neg h1])
theorem a_move (hI : INV m I) (v i u j n : Int32) : Act E m I mX8_move mX9_move [.int v, .int i, .int u, .int j, .int n] := by
  obtain ⟨-, -, -, hS, hS2, -, -⟩ := id hI
  refine Act_x (c_move (by omega) hS hS2 v i u j n) (m_move (by omega) (hS2.ag ?_) v i u j n) (p_move hI v i u j n)
  unfold z_move
  by_cases h2 : 0 ≤ u ∧ u ≤ 3
  · obtain ⟨b, -, hb, rfl⟩ := kbt (a := 0) (b := 3) h2 (by decide) (by decide)
    rw [kcl (show b < 1000 by omega)]
    repeat' split
    all_goals first | (dsimp only; exact kc_ne (k := 88) (by decide)) | (dsimp only; exact kset_ne _ _ (by omega))
  · rw [if_neg h2]
    repeat' split
    all_goals (dsimp only; exact kc_ne (k := 88) (by decide))
/-- voices -/
theorem vRu_len (k c : Nat) (N M x : Int32) : (vRu k c N M x).2.length ≤ 21 := by
  have := vJ_len k k N M x; have := vR0_len k N M x; have := vC_len k N 2
  unfold vRu
  repeat' split
  all_goals (first | (simp only [List.length_cons, List.length_append]; omega) | omega)
theorem vAct_len (a k : Nat) (N M x : Int32) : (vAct a k N M x).2.length ≤ 21 := by
  have := vJ_len k k N M x; have := vC_len k N x; have := vT_len k N M x; have := vRu_len k k N M x
  unfold vAct
  repeat' split
  all_goals omega
theorem uv : ∀ (l : List Int32) (A B : Nat → Nat → Int32) (n : Nat), (∀ k, k < 40 → A 70 k = B 91 k) → ∀ k, k < 40 → uL A n l 70 k = vL B n l 91 k
  | [], A, B, n, h => h
  | b :: l, A, B, n, h => by
    refine uv l (uA A n b) (vA B n b) (n + 1) (fun k hk => ?_)
    unfold uA vA
    rw [kset_ne _ _ (show 70 ≠ 69 by decide), kset_same, kset_ne _ _ (show 91 ≠ 81 by decide), kset_same]
    by_cases e : k = n
    · subst e; rw [pk_us, pk_us]
    · rw [pk_un e, pk_un e]; exact h k hk
theorem INV_voice (hI : INV m I) (l : List Int32) (hl : l.length ≤ 40) (k N M : Int32) : INV (m + 1) (vL (kset (kset (uL (kset I 69 (uO I k N M)) 0 l) 81 (vO (uL (kset I 69 (uO I k N M)) 0 l) k N M)) 82 (I 82)) 0 l) := by
  obtain ⟨⟨c, t, hC⟩, hV, hE, hS, hS2, hVO, hM⟩ := id hI
  generalize hJ : uL (kset I 69 (uO I k N M)) 0 l = J
  have fJ : ∀ j, j ≠ 69 → j ≠ 70 → J j = I j := fun j h1 h2 => by rw [← hJ, uL_k h1 h2, kset_ne _ _ h1]
  have e81 : vO J k N M = vO I k N M := by unfold vO; rw [fJ 81 (by decide) (by decide)]
  rw [e81]
  generalize hK : vL (kset (kset J 81 (vO I k N M)) 82 (I 82)) 0 l = K
  have fK : ∀ j, j ≠ 81 → j ≠ 91 → j ≠ 82 → K j = J j := fun j h1 h2 h3 => by rw [← hK, vL_k h1 h2, kset_ne _ _ h3, kset_ne _ _ h1]
  have f : ∀ j, j ≠ 69 → j ≠ 70 → j ≠ 81 → j ≠ 91 → K j = I j := fun j h1 h2 h3 h4 => by
    by_cases e : j = 82
    · rw [e, ← hK, vL_k (by decide) (by decide), kset_same]
    · rw [fK j h3 h4 e, fJ j h1 h2]
  have k81 : ∀ j, j < 20 → K 81 j = I 81 j := fun j hj => by
    rw [← hK, vL_ne (by omega), kset_ne _ _ (by decide), kset_same]
    unfold vO
    rw [pk_un (by omega), pk_un (by omega), pk_un (by omega), pk_un (by omega)]
  have k20 : K 81 20 = nI (0 + l.length) := by
    rw [← hK]
    refine vL_20 l _ 0 ?_
    rw [kset_ne _ _ (by decide), kset_same]
    rfl
  have j1 : K 69 1 = nI (0 + l.length) := by
    rw [fK 69 (by decide) (by decide) (by decide), ← hJ]
    refine uL_1 l _ 0 ?_
    rw [kset_same]
    rfl
  refine ⟨⟨c, t, ?_⟩, by rw [f 82 (by decide) (by decide) (by decide) (by decide)]; exact hV, fun j hj => ?_, hS.ag (fun j hj => f j (by omega) (by omega) (by omega) (by omega)), hS2.ag (f 88 (by decide) (by decide) (by decide) (by decide)), ⟨⟨0 + l.length, k20, by omega⟩, j1.trans k20.symm, fun j hj => ?_⟩, hM.st (by rw [f 0 (by decide) (by decide) (by decide) (by decide)]) (k81 5 (by decide)) (k81 4 (by decide)) (fun j a b => f j (by omega) (by omega) (by omega) (by omega)) (f 83 (by decide) (by decide) (by decide) (by decide))⟩
  · rw [f 82 (by decide) (by decide) (by decide) (by decide)]
    exact KR.ag hC (fun j a b => f j (by omega) (by omega) (by omega) (by omega))
  · rw [f 72 (by decide) (by decide) (by decide) (by decide), f 86 (by decide) (by decide) (by decide) (by decide)]; exact hE j hj
  · rw [fK 70 (by decide) (by decide) (by decide), ← hJ, ← hK]
    refine uv l _ _ 0 (fun z hz => ?_) j hj
    rw [kset_ne _ _ (show 70 ≠ 69 by decide), kset_ne _ _ (show 91 ≠ 82 by decide), kset_ne _ _ (show 91 ≠ 81 by decide), fJ 91 (by decide) (by decide)]
    exact hVO.2.2 z hz
theorem a_voice (hI : INV m I) (v a x : Int32) : Act E m I mX8_voice mX9_voice [.int v, .int a, .int x] := by
  obtain ⟨⟨c, t, hC⟩, hV, -⟩ := id hI
  have h82 : (z_voice I (I 82) v a x).2 82 = I 82 := by
    unfold z_voice
    repeat' split
    all_goals first | (dsimp only; exact kc_ne (k := 82) (by decide)) | (dsimp only; rw [uL_k (by decide) (by decide), kset_ne _ _ (by decide)])
  have hy := m_voice (E := E) (d := 99) (I := (z_voice I (I 82) v a x).2) (by omega) hV.1 v a x
  rw [show kset (z_voice I (I 82) v a x).2 82 (I 82) = (z_voice I (I 82) v a x).2 from by
    have e := kset_self (z_voice I (I 82) v a x).2 82
    rw [h82] at e
    exact e] at hy
  refine Act_x (c_voice (by omega) hC hV.1 v a x) hy ?_
  have k82 : kset (kerC I 1) 82 (I 82) = kerC I 1 := by
    have e := kset_self (kerC I 1) 82
    rw [show kerC I 1 82 = I 82 from kset_ne _ _ (by decide)] at e
    exact e
  by_cases h1 : 0 ≤ v ∧ v ≤ I 82 9 - 1
  · by_cases h2 : 0 ≤ a ∧ a ≤ 3
    · have hz : z_voice I (I 82) v a x = ((vAct a.toNatClampNeg (I 82 (29 + 7 * v.toNatClampNeg)).toNatClampNeg v (I 82 (29 + 7 * v.toNatClampNeg + 1)) x).1, uL (kset I 69 (uO I (I 82 (29 + 7 * v.toNatClampNeg)) v (I 82 (29 + 7 * v.toNatClampNeg + 1)))) 0 (vAct a.toNatClampNeg (I 82 (29 + 7 * v.toNatClampNeg)).toNatClampNeg v (I 82 (29 + 7 * v.toNatClampNeg + 1)) x).2) := by unfold z_voice; rw [if_pos h1, if_pos h2]
      have hs : ∀ J, s_voice J (I 82) v a x = ((vAct a.toNatClampNeg (I 82 (29 + 7 * v.toNatClampNeg)).toNatClampNeg v (I 82 (29 + 7 * v.toNatClampNeg + 1)) x).1, vL (kset (kset J 81 (vO J (I 82 (29 + 7 * v.toNatClampNeg)) v (I 82 (29 + 7 * v.toNatClampNeg + 1)))) 82 (I 82)) 0 (vAct a.toNatClampNeg (I 82 (29 + 7 * v.toNatClampNeg)).toNatClampNeg v (I 82 (29 + 7 * v.toNatClampNeg + 1)) x).2) := fun J => by unfold s_voice; rw [if_pos h1, if_pos h2]
      rw [hz, hs]
      exact ⟨rfl, INV_voice hI _ (Nat.le_trans (vAct_len _ _ _ _ _) (by decide)) _ _ _⟩
    · have hz : z_voice I (I 82) v a x = (-1000000001, kerC I 1) := by unfold z_voice; rw [if_pos h1, if_neg h2]
      have hs : ∀ J, s_voice J (I 82) v a x = (-1000000001, ker (kset J 82 (I 82)) 1) := fun J => by unfold s_voice; rw [if_pos h1, if_neg h2]
      rw [hz, hs, k82]; exact ⟨rfl, INV_er hI (by decide)⟩
  · have hz : z_voice I (I 82) v a x = (-1000000001, kerC I 1) := by unfold z_voice; rw [if_neg h1]
    have hs : ∀ J, s_voice J (I 82) v a x = (-1000000001, ker (kset J 82 (I 82)) 1) := fun J => by unfold s_voice; rw [if_neg h1]
    rw [hz, hs, k82]; exact ⟨rfl, INV_er hI (by decide)⟩
/-- images: a row that is another's in its 255 places -/
theorem KR.rw_ {K : Nat} (h : KR K I r c t) (hT : TX r) (e : ∀ k, k < 255 → q k = r k) : KR K I q c t := by
  have h8 := h.1.1.1.2.1
  have h4 := h.1.1.1.2.2.2
  refine ⟨⟨⟨⟨(e 9 (by omega)).trans h.1.1.1.1, h8, (e 8 (by omega)).trans h.1.1.1.2.2.1, h4⟩, ?_, fun p hp => ?_, fun i hi => ?_, fun i hi j hj => ?_⟩, h.1.2.cg (fun k hk => e k (by omega)) hT⟩, ?_, fun k hk => ?_, fun k hk => ?_⟩
  · rw [e 3 (by omega), e 1 (by omega), e 10 (by omega), e 0 (by omega), e 8 (by omega), e 11 (by omega), e 9 (by omega), e 12 (by omega)]; exact h.1.1.2.1
  · rw [e _ (by omega)]; exact h.1.1.2.2.1 p hp
  · rw [e _ (by omega), e _ (by omega)]; exact h.1.1.2.2.2.1 i hi
  · rw [e _ (by omega)]; exact h.1.1.2.2.2.2 i hi j hj
  · rw [e 4 (by omega), e 5 (by omega), e 2 (by omega)]; exact h.2.1
  · rw [e _ (by omega)]; exact h.2.2.1 k hk
  · rw [e _ (by omega)]; exact h.2.2.2 k hk
theorem RV.rw_ (h : RV r) (e : ∀ k, k < 255 → q k = r k) : RV q := ⟨RI_ag h.1 (fun k a b d => e k (by omega)) (fun k hk => by rw [e _ (by omega)]; exact h.1.2.2.2.2.2.2.2.2 k hk), RX_ag h.2.1 (fun k hk => e k (by omega)), TB_ag h.2.2 (fun k a b => e k (by omega))⟩
theorem a_image (hm : m ≤ 600) (hI : INV m I) : Act E m I mX8_image mX9_image [] := by
  obtain ⟨⟨c, t, hC⟩, hV, hE, hS, hS2, hVO, ⟨⟨p, p1, p2, p3, p4⟩, hL, hK⟩⟩ := id hI
  refine ⟨_, c_image (by omega) hC hL, fun v M hv => ?_⟩
  obtain ⟨J, rfl, rfl, hCJ, hKJ, h0, hf⟩ := hv
  refine ⟨J, _, rfl, rfl, _, m_image (by omega), fun v2 M2 h2 => ?_⟩
  obtain ⟨rfl, rfl⟩ := h2
  refine ⟨_, by rw [hf 81 (by omega), p2, p3], rfl, ?_⟩
  have f81 := hf 81 (by omega)
  have f82 := hf 82 (by omega)
  have f83 := hf 83 (by omega)
  rw [f81, f82, f83]
  generalize hk : kset (kset J 83 (fun j => if j < 255 then I 82 j else I 83 j)) 81 (upd (upd (I 81) 4 1) 5 (I 81 5 + 1)) = K
  have f : ∀ j, j ≠ 81 → j ≠ 83 → K j = J j := fun j a b => by rw [← hk, kset_ne _ _ a, kset_ne _ _ b]
  have fI : ∀ j, j ≠ 81 → j ≠ 83 → (1 ≤ j ∧ j < 26) ∨ 51 ≤ j → K j = I j := fun j a b d => by rw [f j a b, hf j d]
  have k81 : K 81 = upd (upd (I 81) 4 1) 5 (I 81 5 + 1) := by rw [← hk, kset_same]
  have k83 : ∀ j, j < 255 → K 83 j = I 82 j := fun j hj => by rw [← hk, kset_ne _ _ (by decide), kset_same]; exact if_pos hj
  have hT := hV.1.TX
  refine ⟨⟨c, t, ?_⟩, by rw [fI 82 (by decide) (by decide) (by decide)]; exact hV, fun j hj => by rw [fI 72 (by decide) (by decide) (by decide), fI 86 (by decide) (by decide) (by decide)]; exact hE j hj, hS.ag (fun j hj => fI j (by omega) (by omega) (by omega)), hS2.ag (fI 88 (by decide) (by decide) (by decide)), hVO.ag (by rw [k81, pk_un (by decide), pk_un (by decide)]) (fI 69 (by decide) (by decide) (by decide)) (fI 70 (by decide) (by decide) (by decide)) (fI 91 (by decide) (by decide) (by decide)), ⟨p + 1, by omega, ?_, ?_, ?_⟩, fun u hu => ?_, fun _ => ⟨⟨c, t, ?_⟩, hV.rw_ k83⟩⟩
  · rw [fI 82 (by decide) (by decide) (by decide)]
    exact KR.ag hC (fun j a b => fI j (by omega) (by omega) (by omega))
  · rw [f 0 (by decide) (by decide), h0, pk_us, p2, nI_1]
  · rw [k81, pk_us, p3, nI_1]
  · rw [k81, pk_un (by decide), pk_us, if_neg (by omega)]
  · rw [f _ (by omega) (by omega)]; exact hKJ.1.2.lc u hu
  · exact (KR.ag hKJ (fun j a b => f j (by omega) (by omega))).rw_ hT k83
theorem a_restore (hm : m ≤ 600) (hI : INV m I) : Act E m I mX8_restore mX9_restore [] := by
  obtain ⟨⟨c, t, hC⟩, hV, hE, hS, hS2, hVO, ⟨⟨p, p1, p2, p3, p4⟩, hL, hK⟩⟩ := id hI
  have hp0 : I 0 7 = 0 ↔ I 81 4 = 0 := by
    rw [p2, p4]
    by_cases z : p = 0
    · rw [if_pos z, z]; exact ⟨fun _ => rfl, fun _ => rfl⟩
    · rw [if_neg z]; exact ⟨fun y => absurd ((nI_z (by omega)).mp y) z, fun y => absurd y (by decide)⟩
  by_cases h07 : I 0 7 = 0
  · refine ⟨_, c_restore (by omega) hC (q := I 82) (c2 := c) (t2 := t) (fun z => absurd h07 z), fun v M hv => ?_⟩
    obtain ⟨J, rfl, hv⟩ := hv
    rcases hv with ⟨-, rfl, rfl⟩ | ⟨z, -⟩
    · refine ⟨kerC I 2, _, rfl, rfl, _, m_restore (by omega), fun v2 M2 h2 => ?_⟩
      have z4 : kerC I 2 81 4 = 0 := by rw [show kerC I 2 81 = I 81 from kset_ne _ _ (by decide)]; exact hp0.mp h07
      rw [if_pos z4, if_pos z4] at h2
      obtain ⟨rfl, rfl⟩ := h2
      exact ⟨_, rfl, rfl, INV_er hI (by decide)⟩
    · exact absurd h07 z
  · obtain ⟨⟨c2, t2, hK2⟩, hV2⟩ := hK h07
    refine ⟨_, c_restore (by omega) hC (fun _ => hK2), fun v M hv => ?_⟩
    obtain ⟨J, rfl, hv⟩ := hv
    rcases hv with ⟨z, -⟩ | ⟨-, rfl, hCJ, hf⟩
    · exact absurd z h07
    · refine ⟨J, _, rfl, rfl, _, m_restore (by omega), fun v2 M2 h2 => ?_⟩
      have f81 := hf 81 (by omega)
      have f82 := hf 82 (by omega)
      have f83 := hf 83 (by omega)
      rw [f81, f82, f83, if_neg (fun z => h07 (hp0.mpr z)), if_neg (fun z => h07 (hp0.mpr z))] at h2
      obtain ⟨rfl, rfl⟩ := h2
      refine ⟨_, rfl, rfl, ?_⟩
      generalize hk : kset J 82 (fun j => if j < 255 then I 83 j else I 82 j) = K
      have f : ∀ j, j ≠ 82 → K j = J j := fun j a => by rw [← hk, kset_ne _ _ a]
      have fI : ∀ j, j ≠ 82 → (j = 0 ∨ 26 ≤ j) → K j = I j := fun j a d => by rw [f j a, hf j d]
      have k82 : ∀ j, j < 255 → K 82 j = I 83 j := fun j hj => by rw [← hk, kset_same]; exact if_pos hj
      refine ⟨⟨c2, t2, ?_⟩, hV2.rw_ k82, fun j hj => by rw [fI 72 (by decide) (by decide), fI 86 (by decide) (by decide)]; exact hE j hj, hS.ag (fun j hj => fI j (by omega) (by omega)), hS2.ag (fI 88 (by decide) (by decide)), hVO.ag (by rw [fI 81 (by decide) (by decide)]) (fI 69 (by decide) (by decide)) (fI 70 (by decide) (by decide)) (fI 91 (by decide) (by decide)), IM.st ⟨⟨p, p1, p2, p3, p4⟩, hL, hK⟩ (by rw [fI 0 (by decide) (by decide)]) (by rw [fI 81 (by decide) (by decide)]) (by rw [fI 81 (by decide) (by decide)]) (fun j a b => fI j (by omega) (by omega)) (fI 83 (by decide) (by decide))⟩
      exact KR.rw_ (KR.ag hCJ (fun j a b => f j (by omega))) hV2.1.TX k82
end C23

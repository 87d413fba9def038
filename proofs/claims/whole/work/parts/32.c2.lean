/-- bounds of the row's numbers -/
def bd (k : Nat) : Nat := if k < 13 then 0 else if k < 21 then 999 else if k < 29 then 99 else if k < 85 then (if (k - 29) % 7 = 1 then 9 else if (k - 29) % 7 = 3 ∨ (k - 29) % 7 = 6 then 99 else 0) else 0
def RX (r : Nat → Int32) : Prop := (∀ k, bd k ≠ 0 → ∃ n, r k = nI n ∧ n ≤ bd k) ∧ ∃ a t, r 11 = nI a ∧ r 8 = nI t ∧ t ≤ 4 ∧ (a < t ∨ a = 0)
theorem RX_upd {r : Nat → Int32} (h : RX r) {i : Nat} {v : Int32} (h1 : bd i = 0 ∨ ∃ n, v = nI n ∧ n ≤ bd i) (h8 : i ≠ 8) (h11 : i ≠ 11) : RX (upd r i v) := by
  refine ⟨fun k hk => ?_, ?_⟩
  · by_cases e : k = i
    · subst e
      rw [pk_us]
      rcases h1 with h1 | h1
      · exact absurd h1 hk
      · exact h1
    · rw [pk_un e]; exact h.1 k hk
  · rw [pk_un (Ne.symm h11), pk_un (Ne.symm h8)]; exact h.2
theorem bd_c : ∀ j, j < 8 → ∀ q, q < 7 → bd (29 + 7 * j + q) = if q = 1 then 9 else if q = 3 ∨ q = 6 then 99 else 0 := by decide +kernel
theorem bd_w : ∀ p, p < 8 → bd (13 + p) = 999 := by decide +kernel
theorem bd_t : ∀ i, i < 4 → bd (21 + 2 * i) = 99 ∧ bd (21 + 2 * i + 1) = 99 := by decide +kernel
theorem RX.w {r : Nat → Int32} (h : RX r) {p : Nat} (hp : p < 8) : ∃ n, r (13 + p) = nI n ∧ n ≤ 999 := by have := h.1 (13 + p) (by rw [bd_w p hp]; decide); rw [bd_w p hp] at this; exact this
theorem RX.s {r : Nat → Int32} (h : RX r) {p : Nat} (hp : p < 4) : ∃ n, r (21 + 2 * p) = nI n ∧ n ≤ 99 := by have := h.1 (21 + 2 * p) (by rw [(bd_t p hp).1]; decide); rw [(bd_t p hp).1] at this; exact this
theorem RX.t {r : Nat → Int32} (h : RX r) {p : Nat} (hp : p < 4) : ∃ n, r (21 + 2 * p + 1) = nI n ∧ n ≤ 99 := by have := h.1 (21 + 2 * p + 1) (by rw [(bd_t p hp).2]; decide); rw [(bd_t p hp).2] at this; exact this
theorem RX.m {r : Nat → Int32} (h : RX r) {j : Nat} (hj : j < 8) : ∃ n, r (29 + 7 * j + 1) = nI n ∧ n ≤ 9 := by have := h.1 (29 + 7 * j + 1) (by rw [bd_c j hj 1 (by decide)]; decide); rw [bd_c j hj 1 (by decide)] at this; exact this
theorem RX.l {r : Nat → Int32} (h : RX r) {j : Nat} (hj : j < 8) : ∃ n, r (29 + 7 * j + 3) = nI n ∧ n ≤ 99 := by have := h.1 (29 + 7 * j + 3) (by rw [bd_c j hj 3 (by decide)]; decide); rw [bd_c j hj 3 (by decide)] at this; exact this
theorem RX.j {r : Nat → Int32} (h : RX r) {j : Nat} (hj : j < 8) : ∃ n, r (29 + 7 * j + 6) = nI n ∧ n ≤ 99 := by have := h.1 (29 + 7 * j + 6) (by rw [bd_c j hj 6 (by decide)]; decide); rw [bd_c j hj 6 (by decide)] at this; exact this
theorem held_n (v : Int32) {a b : Nat} (hab : a ≤ b) (hb : b < 100000) : ∃ n, heldF v (nI a) (nI b) = nI n ∧ a ≤ n ∧ n ≤ b := by
  unfold heldF
  split
  · exact ⟨a, rfl, Nat.le_refl _, hab⟩
  · split
    · exact ⟨b, rfl, hab, Nat.le_refl _⟩
    · have h1 : nI a ≤ v := Int32.not_lt.mp (by assumption)
      have h2 : v ≤ nI b := Int32.not_lt.mp (by assumption)
      rw [Int32.le_iff_toInt_le, nI_toInt (by omega)] at h1
      rw [Int32.le_iff_toInt_le, nI_toInt (by omega)] at h2
      obtain ⟨j, hj, rfl⟩ := nI_of (x := v) (by rw [Int32.lt_iff_toInt_lt]; show ¬ _ < (0 : Int); omega)
      rw [nI_toInt hj] at h1 h2
      exact ⟨j, rfl, by omega, by omega⟩
theorem lawF_n (r : Nat → Int32) (a b c : Int32) : ∃ n, lawF r 0 a b c = nI n ∧ 1 ≤ n ∧ n ≤ 9 := by
  unfold lawF
  generalize walkF r 0 a b c = w
  simp only [reduceIte]
  split
  · exact held_n _ (a := 1) (b := 9) (by decide) (by decide)
  · exact held_n _ (a := 1) (b := 9) (by decide) (by decide)
theorem need_n {r : Nat → Int32} (hX : RX r) {j : Nat} (hj : j < 8) : ∃ n, needF r j = nI n ∧ n ≤ 99 := by
  obtain ⟨v, hv, h1, h9⟩ := lawF_n r (r (29 + 7 * j + 2)) (r (29 + 7 * j + 3)) (r 1)
  obtain ⟨m, hm, hm9⟩ := hX.m hj
  unfold needF
  rw [hv, hm]
  have : ∀ v, v < 10 → ∀ m, m < 10 → ((nI 0 ≤ (if nI v ≤ 1 then (1 : Int32) else nI v - 1) ∧ (if nI v ≤ 1 then (1 : Int32) else nI v - 1) ≤ nI 99) ∧ (nI 0 ≤ (if nI v ≤ 1 then (1 : Int32) else nI v - 1) + 2 ∧ (if nI v ≤ 1 then (1 : Int32) else nI v - 1) + 2 ≤ nI 99)) ∧ ((nI 0 ≤ nI v + (nI m - nI m / 3 * 3) ∧ nI v + (nI m - nI m / 3 * 3) ≤ nI 99) ∧ (nI 0 ≤ 2 * (nI v + (nI m - nI m / 3 * 3)) ∧ 2 * (nI v + (nI m - nI m / 3 * 3)) ≤ nI 99)) := by decide +kernel
  obtain ⟨⟨g1, g2⟩, ⟨g3, g4⟩⟩ := this v (by omega) m (by omega)
  obtain ⟨a, -, ha, ha2⟩ := kbt g1 (by decide) (by decide)
  obtain ⟨b, -, hb, hb2⟩ := kbt g2 (by decide) (by decide)
  obtain ⟨c, -, hc, hc2⟩ := kbt g3 (by decide) (by decide)
  obtain ⟨d, -, hd, hd2⟩ := kbt g4 (by decide) (by decide)
  dsimp only
  split
  · exact ⟨a, ha2, by omega⟩
  · split
    · exact ⟨b, hb2, by omega⟩
    · split
      · exact ⟨c, hc2, by omega⟩
      · split
        · exact ⟨d, hd2, by omega⟩
        · split
          · exact ⟨1, rfl, by decide⟩
          · split
            · exact ⟨3, rfl, by decide⟩
            · exact ⟨v, rfl, by omega⟩
theorem RX_c5 {r : Nat → Int32} (h : RX r) {j : Nat} (hj : j < 8) (v : Int32) : RX (upd r (29 + 7 * j + 5) v) := RX_upd h (Or.inl (by rw [bd_c j hj 5 (by decide)]; decide)) (by omega) (by omega)
theorem RX_c6 {r : Nat → Int32} (h : RX r) {j : Nat} (hj : j < 8) {v : Int32} (hv : ∃ n, v = nI n ∧ n ≤ 99) : RX (upd r (29 + 7 * j + 6) v) := RX_upd h (Or.inr (by rw [bd_c j hj 6 (by decide)]; exact hv)) (by omega) (by omega)
theorem RX_w {r : Nat → Int32} (h : RX r) {p : Nat} (hp : p < 8) {v : Int32} (hv : ∃ n, v = nI n ∧ n ≤ 999) : RX (upd r (13 + p) v) := RX_upd h (Or.inr (by rw [bd_w p hp]; exact hv)) (by omega) (by omega)
theorem bd_lo {i : Nat} (h : i < 13 ∨ 85 ≤ i) : bd i = 0 := by
  unfold bd
  rcases h with h | h
  · rw [if_pos h]
  · rw [if_neg (by omega), if_neg (by omega), if_neg (by omega), if_neg (by omega)]
theorem RX_lo {r : Nat → Int32} (h : RX r) {i : Nat} (hi : i < 13 ∨ 85 ≤ i) (v : Int32) (h8 : i ≠ 8) (h11 : i ≠ 11) : RX (upd r i v) := RX_upd h (Or.inl (bd_lo hi)) h8 h11
theorem RX_jmp {r : Nat → Int32} (hR : RI r) (hX : RX r) {j : Nat} (hj : j < 8) (a : Int32) : RX (jmpF r j a) := by
  obtain ⟨p, hp, h8⟩ := hR.place hj
  have e : (r (29 + 7 * j + 4)).toNatClampNeg = p := by rw [hp]; exact kcl (by omega)
  unfold jmpF
  simp only [e]
  split
  · refine RX_w (RX_c6 hX hj ?_) h8 ?_
    · obtain ⟨n, h1, -, h2⟩ := held_n (r (29 + 7 * j + 6) - 1) (a := 0) (b := 99) (by decide) (by decide)
      exact ⟨n, h1, h2⟩
    · obtain ⟨n, h1, -, h2⟩ := held_n (upd r (29 + 7 * j + 6) (heldF (r (29 + 7 * j + 6) - 1) 0 99) (13 + p) + wearF (upd r (29 + 7 * j + 6) (heldF (r (29 + 7 * j + 6) - 1) 0 99)) j) (a := 0) (b := 999) (by decide) (by decide)
      exact ⟨n, h1, h2⟩
  · exact RX_c5 hX hj _
theorem RX_mov {r : Nat → Int32} (hR : RI r) (hX : RX r) {j : Nat} (hj : j < 8) : RX (movF r j) := by
  unfold movF
  (try dsimp only)
  repeat' split
  all_goals first | exact hX | exact RX_jmp hR hX hj _ | exact RX_c5 hX hj _ | exact RX_c6 (RX_c5 hX hj _) hj (need_n (RX_c5 hX hj _) hj)
theorem RX_ovr {r : Nat → Int32} (hX : RX r) {j : Nat} (hj : j < 8) : RX (ovrF r j) := by
  unfold ovrF
  repeat' split
  all_goals first | exact hX | exact RX_c5 hX hj _
theorem RX_tir {r : Nat → Int32} (hX : RX r) : ∀ n, n ≤ 4 → RX (tirF r n)
  | 0, _ => hX
  | n + 1, h => by
    refine RX_upd (RX_tir hX n (by omega)) (Or.inr ?_) (by omega) (by omega)
    rw [(bd_t n (by omega)).2]
    obtain ⟨k, h1, -, h2⟩ := held_n (tirF r n (21 + 2 * n + 1) + (if nI n = tirF r n 11 then 1 else -1)) (a := 0) (b := 99) (by decide) (by decide)
    exact ⟨k, h1, h2⟩
theorem RX_crs {st : Prop} [Decidable st] {r : Nat → Int32} (hR : RI r) (hX : RX r) : ∀ n, n ≤ 8 → RX (crsF st r n)
  | 0, _ => hX
  | n + 1, h => by
    unfold crsF
    split
    · exact RX_ovr (RX_crs hR hX n (by omega)) (by omega)
    · exact RX_mov (RI_crs hR n (by omega)) (RX_crs hR hX n (by omega)) (by omega)
theorem RX_mid {r : Nat → Int32} (hR : RI r) (hX : RX r) : RX (mid1 r) := by
  unfold mid1
  split
  · exact hX
  · obtain ⟨-, ⟨c, hc, h4⟩, -⟩ := id hR
    exact RX_tir hX _ (by unfold sTurn; rw [hc, kcl (by omega)]; exact h4)
theorem RX_beat {r : Nat → Int32} (hR : RI r) (hX : RX r) : RX (beatF r) := RX_lo (RX_crs (RI_mid hR) (RX_mid hR hX) _ (sMany_le hR)) (by omega) _ (by omega) (by omega)
theorem RX_pass {r : Nat → Int32} (hR : RI r) (hX : RX r) : ∀ n, RX (passF n r)
  | 0 => hX
  | n + 1 => RX_beat (RI_pass hR n) (RX_pass hR hX n)
section C2
variable {E : kE} {d B c t : Nat} {I : Nat → Nat → Int32} {r : Nat → Int32}
set_option maxHeartbeats 2000000 in
set_option maxRecDepth 20000 in
theorem c_isGoing (hB : BB B) (hb : BL B I r c t) (v : Int32) : Ct E d mX0_isGoing 0 0 [.ref B, .int v] (kJ I) (kR (kb ((r 12 >>> (v &&& 31)) &&& 1 = 1)) I) := by
  refine Ct.of (L := [some (.ref B), some (.int v)]) rfl rfl (Nat.le_of_ble_eq_true rfl) ?_
  refine al0 (n := 1) dX0_isGoing_0 rfl ?_
  refine gX0_71 (n := 4) dX0_isGoing_1 rfl rfl (hS0 hB) ?_
  refine k_top (BL.f12 hb) ?_
  refine il1 (n := 5) dX0_isGoing_4 rfl ?_
  refine k_ishr (n := 6) dX0_isGoing_5 rfl ?_
  refine k_iconst (a := 1) (n := 7) dX0_isGoing_6 rfl rfl ?_
  refine k_iand (n := 8) dX0_isGoing_7 rfl ?_
  refine k_iconst (a := 1) (n := 9) dX0_isGoing_8 rfl rfl ?_
  refine k_icmp_ne (t := 16) (n := 12) dX0_isGoing_9 (by decide) rfl (fun h9 => ?_) (fun h9 => ?_)
  · refine k_iconst (a := 0) (n := 17) dX0_isGoing_16 rfl rfl ?_
    refine k_ireturn (ty := .boolean) dX0_isGoing_17 rfl (by first | rfl | exact knb _) (Nat.le_refl _) (Nat.le_refl _) ?_
    first | exact kRt h9 | exact kRf h9
  · refine k_iconst (a := 1) (n := 13) dX0_isGoing_12 rfl rfl ?_
    refine k_goto (n := 17) dX0_isGoing_13 (by decide) ?_
    refine k_ireturn (ty := .boolean) dX0_isGoing_17 rfl (by first | rfl | exact knb _) (Nat.le_refl _) (Nat.le_refl _) ?_
    first | exact kRt h9 | exact kRf h9
set_option maxHeartbeats 2000000 in
set_option maxRecDepth 20000 in
theorem c_placeIn (hB : BB B) (hb : BL B I r c t) (hR : RI r) : Ct E d mX0_placeInRhyme 0 0 [.ref B] (kJ I) (kR (r 0 - r 0 / r 1 * r 1) I) := by
  obtain ⟨-, -, -, -, -, -, ⟨p, hp, h1, h16⟩, -⟩ := id hR
  refine Ct.of (L := [some (.ref B)]) rfl rfl (Nat.le_of_ble_eq_true rfl) ?_
  refine al0 (n := 1) dX0_placeInRhyme_0 rfl ?_
  refine gX0_31 (n := 4) dX0_placeInRhyme_1 rfl rfl (hS0 hB) ?_
  refine k_top (BL.f6 hb) ?_
  refine k_if_le (t := 19) (n := 7) dX0_placeInRhyme_4 (by decide) rfl (fun h4 => ?_) (fun h4 => ?_)
  · exact absurd h4 (by rw [hp]; exact (show ¬ nI p ≤ nI 0 from nI_ge h1 (by omega)))
  · refine al0 (n := 8) dX0_placeInRhyme_7 rfl ?_
    refine gX0_65 (n := 11) dX0_placeInRhyme_8 rfl rfl (hS0 hB) ?_
    refine k_top (BL.f8 hb) ?_
    refine al0 (n := 12) dX0_placeInRhyme_11 rfl ?_
    refine gX0_31 (n := 15) dX0_placeInRhyme_12 rfl rfl (hS0 hB) ?_
    refine k_top (BL.f6 hb) ?_
    refine k_irem (n := 16) dX0_placeInRhyme_15 rfl (by rw [hp]; exact nI_ne0 (by omega) (by omega)) ?_
    refine k_goto (n := 20) dX0_placeInRhyme_16 (by decide) ?_
    refine k_ireturn (ty := .int) dX0_placeInRhyme_20 rfl rfl (Nat.le_refl _) (Nat.le_refl _) ?_
    exact ⟨rfl, rfl⟩
set_option maxHeartbeats 2000000 in
set_option maxRecDepth 20000 in
theorem c_left (hB : BB B) (hb : BL B I r c t) (i : Nat) (hi : i < t) : Ct E d mX6_strengthLeft 0 0 [.ref (B + 4 + i)] (kJ I) (kR (r (21 + 2 * i) - r (21 + 2 * i + 1)) I) := by
  have h4 := hb.t4
  refine Ct.of (L := [some (.ref (B + 4 + i))]) rfl rfl (Nat.le_of_ble_eq_true rfl) ?_
  refine al0 (n := 1) dX6_strengthLeft_0 rfl ?_
  refine gX6_7 (n := 4) dX6_strengthLeft_1 rfl rfl (hS4 hB (by omega)) ?_
  refine k_top (BL.tu0 hb hi) ?_
  refine al0 (n := 5) dX6_strengthLeft_4 rfl ?_
  refine gX6_13 (n := 8) dX6_strengthLeft_5 rfl rfl (hS4 hB (by omega)) ?_
  refine k_top (BL.tu1 hb hi) ?_
  refine k_isub (n := 9) dX6_strengthLeft_8 rfl ?_
  refine k_ireturn (ty := .int) dX6_strengthLeft_9 rfl rfl (Nat.le_refl _) (Nat.le_refl _) ?_
  exact ⟨rfl, rfl⟩
theorem left_le {a b : Nat} (ha : a ≤ 99) (hb : b ≤ 99) : (nI a - nI b ≤ 0 ↔ nI a ≤ nI b) := by
  have := (by decide +kernel : ∀ a, a < 100 → ∀ b, b < 100 → (nI a - nI b ≤ 0 ↔ nI a ≤ nI b))
  exact this a (by omega) b (by omega)
set_option maxHeartbeats 2000000 in
set_option maxRecDepth 20000 in
theorem c_standing (hd : 1 ≤ d) (hB : BB B) (hb : BL B I r c t) (hX : RX r) : Ct E d mX0_isStanding 0 0 [.ref B] (kJ I) (kR (kb (stF r)) I) := by
  have h4 := hb.t4
  obtain ⟨a, t', ha, ht', h4', hat⟩ := hX.2
  have et : t' = t := by
    have e := ht'.symm.trans hb.t8
    have := congrArg Int32.toNatClampNeg e
    rwa [kcl (by omega), kcl (by omega)] at this
  subst et
  have ecl : (r 11).toNatClampNeg = a := by rw [ha]; exact kcl (by omega)
  refine Ct.of (L := [some (.ref B)]) rfl rfl (Nat.le_of_ble_eq_true rfl) ?_
  refine al0 (n := 1) dX0_isStanding_0 rfl ?_
  refine gX0_52 (n := 4) dX0_isStanding_1 rfl rfl (hS0 hB) ?_
  refine k_top (BL.f9 hb) ?_
  refine k_if_eq (t := 22) (n := 7) dX0_isStanding_4 (by decide) rfl (fun h4_ => ?_) (fun h4_ => ?_)
  · refine k_iconst (a := 1) (n := 23) dX0_isStanding_22 rfl rfl ?_
    refine k_goto (n := 27) dX0_isStanding_23 (by decide) ?_
    refine k_ireturn (ty := .boolean) dX0_isStanding_27 rfl (by first | rfl | exact knb _) (Nat.le_refl _) (Nat.le_refl _) ?_
    first | exact kRt (Or.inl h4_) | exact kRt (Or.inr (by rw [ecl, hs1, ht1]; exact (left_le hs2 ht2).mp (Int32.not_lt.mp h19_))) | exact kRf (fun q => q.elim h4_ (fun q => by rw [ecl, hs1, ht1] at q; exact absurd ((left_le hs2 ht2).mpr q) (Int32.not_le.mpr h19_)))
  · have hat2 : a < t' := hat.elim id (fun q => by
      have : t' ≠ 0 := fun e => h4_ (by rw [hb.t8, e]; rfl)
      omega)
    obtain ⟨s1, hs1, hs2⟩ := hX.s (p := a) (by omega)
    obtain ⟨t1, ht1, ht2⟩ := hX.t (p := a) (by omega)
    refine al0 (n := 8) dX0_isStanding_7 rfl ?_
    refine gX0_17 (n := 11) dX0_isStanding_8 rfl rfl (hS0 hB) (hP3 hB) ?_
    refine al0 (n := 12) dX0_isStanding_11 rfl ?_
    refine gX0_68 (n := 15) dX0_isStanding_12 rfl rfl (hS0 hB) ?_
    refine k_top ((BL.f10 hb).trans ha) ?_
    refine j_aald (j := a) (n := 16) dX0_isStanding_15 rfl (hS2 hB) hOT rfl (by omega) (by decide) (hP5 hB (by omega)) ?_
    refine qiX0_99 (n := 19) dX0_isStanding_16 rfl rfl (Nat.le_of_ble_eq_true rfl) (by omega) (hS4 hB (by omega)) (c_left hB hb a hat2) (Nat.le_refl _) (Nat.le_refl _) ?_
    rw [hs1, ht1]
    refine k_if_gt (t := 26) (n := 22) dX0_isStanding_19 (by decide) rfl (fun h19_ => ?_) (fun h19_ => ?_)
    · refine k_iconst (a := 0) (n := 27) dX0_isStanding_26 rfl rfl ?_
      refine k_ireturn (ty := .boolean) dX0_isStanding_27 rfl (by first | rfl | exact knb _) (Nat.le_refl _) (Nat.le_refl _) ?_
      first | exact kRt (Or.inl h4_) | exact kRt (Or.inr (by rw [ecl, hs1, ht1]; exact (left_le hs2 ht2).mp (Int32.not_lt.mp h19_))) | exact kRf (fun q => q.elim h4_ (fun q => by rw [ecl, hs1, ht1] at q; exact absurd ((left_le hs2 ht2).mpr q) (Int32.not_le.mpr h19_)))
    · refine k_iconst (a := 1) (n := 23) dX0_isStanding_22 rfl rfl ?_
      refine k_goto (n := 27) dX0_isStanding_23 (by decide) ?_
      refine k_ireturn (ty := .boolean) dX0_isStanding_27 rfl (by first | rfl | exact knb _) (Nat.le_refl _) (Nat.le_refl _) ?_
      first | exact kRt (Or.inl h4_) | exact kRt (Or.inr (by rw [ecl, hs1, ht1]; exact (left_le hs2 ht2).mp (Int32.not_lt.mp h19_))) | exact kRf (fun q => q.elim h4_ (fun q => by rw [ecl, hs1, ht1] at q; exact absurd ((left_le hs2 ht2).mpr q) (Int32.not_le.mpr h19_)))
end C2

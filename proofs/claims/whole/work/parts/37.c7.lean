/-- all that an image keeps, at K, against the row -/
def KR (K : Nat) (I : Nat → Nat → Int32) (r : Nat → Int32) (c t : Nat) : Prop := (BR (K + 7) I r c t ∧ LK K I r) ∧ (I K 5 = r 4 ∧ I K 6 = r 5 ∧ I K 7 = r 2) ∧ (∀ k, k < 50 → I (K + 23) k = r (85 + k)) ∧ (∀ k, k < 20 → I (K + 24) k = r (135 + k))
def CR (I : Nat → Nat → Int32) (r : Nat → Int32) (c t : Nat) : Prop := KR 1 I r c t
/-- what no act on the border, the tape, the numbers that wait or the thought border touches -/
def FX (I J : Nat → Nat → Int32) : Prop := ∀ k, (k = 0 ∨ (26 ≤ k ∧ k < 51) ∨ 69 ≤ k) → J k = I k
def erF (f : Nat → Int32) (q : Nat) : Nat → Int32 := if q = 0 then f else upd f q (f q + 1)
def kerC (I : Nat → Nat → Int32) (q : Nat) : Nat → Nat → Int32 := kset I 72 (upd (I 72) q (I 72 q + 1))
/-- an act's answer: the number, the row that the cells hold then, the error that was told -/
def kZ (I : Nat → Nat → Int32) (u : sT) : Option Value → kM → Prop := fun v M => ∃ J c t, v = some (.int u.1) ∧ M = kJ J ∧ CR J u.2.1 c t ∧ (∀ k, (k = 0 ∨ (26 ≤ k ∧ k < 51) ∨ 69 ≤ k) → k ≠ 72 → J k = I k) ∧ J 72 = erF (I 72) u.2.2
def RO (q r : Nat → Int32) : Prop := ∀ k, (k = 2 ∨ k = 4 ∨ k = 5 ∨ (85 ≤ k ∧ k < 155)) → q k = r k
section C7a
variable {I J K : Nat → Nat → Int32} {r q : Nat → Int32} {c t : Nat} {a : Int32} {v : Option Value} {M : kM}
theorem CR.bl (h : CR I r c t) : BL 8 I r c t := h.1
theorem CR.g5 (h : CR I r c t) : I 1 5 = r 4 := h.2.1.1
theorem CR.g6 (h : CR I r c t) : I 1 6 = r 5 := h.2.1.2.1
theorem CR.g7 (h : CR I r c t) : I 1 7 = r 2 := h.2.1.2.2
theorem CR.ta (h : CR I r c t) {k : Nat} (hk : k < 50) : I 24 k = r (85 + k) := h.2.2.1 k hk
theorem CR.wa (h : CR I r c t) {k : Nat} (hk : k < 20) : I 25 k = r (135 + k) := h.2.2.2 k hk
theorem FX.rf (I : Nat → Nat → Int32) : FX I I := fun _ _ => rfl
theorem FX.tr (h : FX I J) (g : FX J K) : FX I K := fun k hk => (g k hk).trans (h k hk)
theorem FX.th (h : FB 51 I J) : FX I J := fun k hk => h k (by omega) (by omega) (by omega) (by omega) (by omega)
theorem FX.bd (h : FB 8 I J) : FX I J := fun k hk => h k (by omega) (by omega) (by omega) (by omega) (by omega)
theorem FX.k1 {k : Nat} {f : Nat → Int32} (e : kset I k f = J) (hk : 1 ≤ k ∧ k < 26) : FX I J := fun m hm => by rw [← e, kset_ne _ _ (by omega)]
theorem RO.rf (r : Nat → Int32) : RO r r := fun _ _ => rfl
theorem RO.u {i : Nat} {x : Int32} (h : RO q r) (hi : i ≠ 2 ∧ i ≠ 4 ∧ i ≠ 5 ∧ ¬ (85 ≤ i ∧ i < 155)) : RO (upd q i x) r := fun k hk => (pk_un (by omega)).trans (h k hk)
theorem RO.tr {p : Nat → Int32} (h : RO p q) (g : RO q r) : RO p r := fun k hk => (h k hk).trans (g k hk)
theorem CR.of {c' t' : Nat} (h : CR I r c t) (hb : BL 8 J q c' t') (hJ : ∀ k, (k = 1 ∨ k = 24 ∨ k = 25) → J k = I k) (ho : RO q r) : CR J q c' t' := by
  refine ⟨hb, ?_, fun k hk => ?_, fun k hk => ?_⟩
  · rw [hJ 1 (by omega), ho 4 (by omega), ho 5 (by omega), ho 2 (by omega)]; exact h.2.1
  · show J 24 k = _
    rw [hJ 24 (by omega), ho _ (by omega)]; exact h.ta hk
  · show J 25 k = _
    rw [hJ 25 (by omega), ho _ (by omega)]; exact h.wa hk
theorem CR.bd {c' t' : Nat} (h : CR I r c t) (hb : BL 8 J q c' t') (hf : FB 8 I J) (ho : RO q r) : CR J q c' t' := h.of hb (fun k hk => hf k (by omega) (by omega) (by omega) (by omega) (by omega)) ho
theorem BL.ro (h : BL 8 I r c t) (hT : TX r) (hJ : ∀ k, (k = 2 ∨ k = 3 ∨ k = 5 ∨ k = 6 ∨ (8 ≤ k ∧ k < 24)) → J k = I k) (hq : ∀ k, ¬ (k = 2 ∨ k = 4 ∨ k = 5 ∨ (85 ≤ k ∧ k < 155)) → q k = r k) : BL 8 J q c t := by
  have h8 := h.c8
  have h4 := h.t4
  refine ⟨⟨⟨(hq 9 (by omega)).trans h.c9, h8, (hq 8 (by omega)).trans h.t8, h4⟩, ?_, fun p hp => ?_, fun k hk => ?_, fun k hk l hl => ?_⟩, (h.2.fr (hJ _ (by omega)) (hJ _ (by omega)) (hJ _ (by omega)) (hJ _ (by omega))).cg (fun k hk => hq k (by omega)) hT⟩
  · rw [hJ 8 (by omega), hq 3 (by omega), hq 1 (by omega), hq 10 (by omega), hq 0 (by omega), hq 8 (by omega), hq 11 (by omega), hq 9 (by omega), hq 12 (by omega)]
    exact h.1.2.1
  · rw [hJ _ (by omega), hq _ (by omega)]; exact h.we hp
  · rw [hJ _ (by omega), hq _ (by omega), hq _ (by omega)]; exact h.1.2.2.2.1 k hk
  · rw [hJ _ (by omega), hq _ (by omega)]; exact h.cr hk hl
theorem CR.th (h : CR I r c t) (hf : FB 51 I J) : CR J r c t := by
  have hj : ∀ k, k < 4 ∨ k = 5 ∨ k = 6 ∨ (8 ≤ k ∧ k < 51) → J k = I k := fun k hk => hf k (by omega) (by omega) (by omega) (by omega) (by omega)
  refine h.of ?_ (fun k hk => hj k (by omega)) (RO.rf _)
  have h8 := h.bl.c8
  have h4 := h.bl.t4
  refine ⟨⟨h.bl.1.1, ?_, fun p hp => ?_, fun k hk => ?_, fun k hk l hl => ?_⟩, h.bl.2.fr (hj _ (by omega)) (hj _ (by omega)) (hj _ (by omega)) (hj _ (by omega))⟩
  · rw [hj 8 (by omega)]; exact h.bl.1.2.1
  · rw [hj _ (by omega)]; exact h.bl.we hp
  · rw [hj _ (by omega)]; exact h.bl.1.2.2.2.1 k hk
  · rw [hj _ (by omega)]; exact h.bl.cr hk hl
/-- a put into the kept numbers themselves -/
theorem CR.p5 {x : Int32} (h : CR I r c t) (hT : TX r) (e : kset I 1 (upd (I 1) 5 x) = J) : CR J (upd r 4 x) c t := by
  have hj : ∀ k, k ≠ 1 → J k = I k := fun k hk => by rw [← e, kset_ne _ _ hk]
  refine ⟨h.bl.ro hT (fun k hk => hj k (by omega)) (fun k hk => pk_un (by omega)), ?_, fun k hk => ?_, fun k hk => ?_⟩
  · rw [← e, kset_same]; exact ⟨pk_us.trans pk_us.symm, (pk_un (by decide)).trans (h.g6.trans (pk_un (by decide)).symm), (pk_un (by decide)).trans (h.g7.trans (pk_un (by decide)).symm)⟩
  · rw [hj _ (by omega), pk_un (by omega)]; exact h.ta hk
  · rw [hj _ (by omega), pk_un (by omega)]; exact h.wa hk
theorem CR.p6 {x : Int32} (h : CR I r c t) (hT : TX r) (e : kset I 1 (upd (I 1) 6 x) = J) : CR J (upd r 5 x) c t := by
  have hj : ∀ k, k ≠ 1 → J k = I k := fun k hk => by rw [← e, kset_ne _ _ hk]
  refine ⟨h.bl.ro hT (fun k hk => hj k (by omega)) (fun k hk => pk_un (by omega)), ?_, fun k hk => ?_, fun k hk => ?_⟩
  · rw [← e, kset_same]; exact ⟨(pk_un (by decide)).trans (h.g5.trans (pk_un (by decide)).symm), pk_us.trans pk_us.symm, (pk_un (by decide)).trans (h.g7.trans (pk_un (by decide)).symm)⟩
  · rw [hj _ (by omega), pk_un (by omega)]; exact h.ta hk
  · rw [hj _ (by omega), pk_un (by omega)]; exact h.wa hk
theorem CR.p7 {x : Int32} (h : CR I r c t) (hT : TX r) (e : kset I 1 (upd (I 1) 7 x) = J) : CR J (upd r 2 x) c t := by
  have hj : ∀ k, k ≠ 1 → J k = I k := fun k hk => by rw [← e, kset_ne _ _ hk]
  refine ⟨h.bl.ro hT (fun k hk => hj k (by omega)) (fun k hk => pk_un (by omega)), ?_, fun k hk => ?_, fun k hk => ?_⟩
  · rw [← e, kset_same]; exact ⟨(pk_un (by decide)).trans (h.g5.trans (pk_un (by decide)).symm), (pk_un (by decide)).trans (h.g6.trans (pk_un (by decide)).symm), pk_us.trans pk_us.symm⟩
  · rw [hj _ (by omega), pk_un (by omega)]; exact h.ta hk
  · rw [hj _ (by omega), pk_un (by omega)]; exact h.wa hk
theorem CR.pt {x : Int32} {i : Nat} (h : CR I r c t) (hT : TX r) (hi : i < 50) (e : kset I 24 (upd (I 24) i x) = J) : CR J (upd r (85 + i) x) c t := by
  have hj : ∀ k, k ≠ 24 → J k = I k := fun k hk => by rw [← e, kset_ne _ _ hk]
  refine ⟨h.bl.ro hT (fun k hk => hj k (by omega)) (fun k hk => pk_un (by omega)), ?_, fun k hk => ?_, fun k hk => ?_⟩
  · rw [hj _ (by omega), pk_un (by omega), pk_un (by omega), pk_un (by omega)]; exact h.2.1
  · rw [← e, show (1 : Nat) + 23 = 24 from rfl, kset_same]
    by_cases q : k = i
    · subst q; rw [pk_us, pk_us]
    · rw [pk_un q, pk_un (by omega)]; exact h.ta hk
  · rw [hj _ (by omega), pk_un (by omega)]; exact h.wa hk
theorem CR.pw {x : Int32} {i : Nat} (h : CR I r c t) (hT : TX r) (hi : i < 20) (e : kset I 25 (upd (I 25) i x) = J) : CR J (upd r (135 + i) x) c t := by
  have hj : ∀ k, k ≠ 25 → J k = I k := fun k hk => by rw [← e, kset_ne _ _ hk]
  refine ⟨h.bl.ro hT (fun k hk => hj k (by omega)) (fun k hk => pk_un (by omega)), ?_, fun k hk => ?_, fun k hk => ?_⟩
  · rw [hj _ (by omega), pk_un (by omega), pk_un (by omega), pk_un (by omega)]; exact h.2.1
  · rw [hj _ (by omega), pk_un (by omega)]; exact h.ta hk
  · rw [← e, show (1 : Nat) + 24 = 25 from rfl, kset_same]
    by_cases q : k = i
    · subst q; rw [pk_us, pk_us]
    · rw [pk_un q, pk_un (by omega)]; exact h.wa hk
theorem kZ.to {u x : sT} (h : u = x) (k : kZ I x v M) : kZ I u v M := h ▸ k
theorem kZ_x (h : CR J q c t) (hf : FX I J) : kZ I (a, q, 0) (some (.int a)) (kJ J) := ⟨J, c, t, rfl, rfl, h, fun k hk _ => hf k hk, hf 72 (by omega)⟩
theorem kZ_xe {e : Nat} (h : CR J q c t) (hf : FX I J) (he : e ≠ 0) : kZ I (a, q, e) (some (.int a)) (kJ (kerC J e)) := by
  have hj : ∀ k, k ≠ 72 → kerC J e k = J k := fun k hk => kset_ne _ _ hk
  refine ⟨kerC J e, c, t, rfl, rfl, ?_, fun k hk h2 => (hj k h2).trans (hf k hk), ?_⟩
  · refine h.of ?_ (fun k hk => hj k (by omega)) (RO.rf _)
    have h8 := h.bl.c8
    have h4 := h.bl.t4
    refine ⟨⟨h.bl.1.1, ?_, fun p hp => ?_, fun k hk => ?_, fun k hk l hl => ?_⟩, h.bl.2.fr (hj _ (by omega)) (hj _ (by omega)) (hj _ (by omega)) (hj _ (by omega))⟩
    · rw [hj 8 (by omega)]; exact h.bl.1.2.1
    · rw [hj _ (by omega)]; exact h.bl.we hp
    · rw [hj _ (by omega)]; exact h.bl.1.2.2.2.1 k hk
    · rw [hj _ (by omega)]; exact h.bl.cr hk hl
  · show kset J 72 _ 72 = _
    rw [kset_same, hf 72 (by omega)]
    exact (if_neg he).symm
theorem kZ_e1 (h : CR J q c t) (hf : FX I J) : kZ I (sB q) (some (.int (-1000000001))) (kJ (kerC J 1)) := kZ_xe h hf (by decide)
theorem kZ_e2 (h : CR J q c t) (hf : FX I J) : kZ I (sN q) (some (.int (-1000000002))) (kJ (kerC J 2)) := kZ_xe h hf (by decide)
theorem kZ_e3 (h : CR J q c t) (hf : FX I J) : kZ I (sS q) (some (.int (-1000000003))) (kJ (kerC J 3)) := kZ_xe h hf (by decide)
theorem kZ_e4 (h : CR J q c t) (hf : FX I J) : kZ I (sF q) (some (.int (-1000000004))) (kJ (kerC J 4)) := kZ_xe h hf (by decide)
theorem kZ_e5 (h : CR J q c t) (hf : FX I J) : kZ I (sK q) (some (.int (-1000000005))) (kJ (kerC J 5)) := kZ_xe h hf (by decide)
theorem kixc (h : BL 8 I r c t) {x : Int32} (g : 0 ≤ x ∧ x ≤ r 9 - 1) : ∃ j, j < c ∧ x = nI j := by
  have := h.c8
  rw [h.c9] at g
  exact kix g (by omega)
theorem kixt (h : BL 8 I r c t) {x : Int32} (g : 0 ≤ x ∧ x ≤ r 8 - 1) : ∃ j, j < t ∧ x = nI j := by
  have := h.t4
  rw [h.t8] at g
  exact kix g (by omega)
theorem upd_cm {f : Nat → Int32} {i j : Nat} {x y : Int32} (h : i ≠ j) : upd (upd f i x) j y = upd (upd f j y) i x := by
  funext k
  by_cases h1 : k = j
  · subst h1; rw [pk_us, pk_un (Ne.symm h), pk_us]
  · rw [pk_un h1]
    by_cases h2 : k = i
    · subst h2; rw [pk_us, pk_us]
    · rw [pk_un h2, pk_un h2, pk_un h1]
theorem sh_le : ∀ n, n ≤ 16 → ∀ v : Int32, (v < (1 : Int32) <<< (nI n &&& 31) ↔ v ≤ ((1 : Int32) <<< (nI n &&& 31)) - 1) := by
  intro n hn v
  have e : ∀ n, n ≤ 16 → (1 : Int32) <<< (nI n &&& 31) = nI (2 ^ n) ∧ ((1 : Int32) <<< (nI n &&& 31)) - 1 = nI (2 ^ n - 1) ∧ 1 ≤ 2 ^ n ∧ 2 ^ n ≤ 65536 := by decide +kernel
  obtain ⟨e1, e2, e3, e4⟩ := e n hn
  rw [e2, e1, Int32.lt_iff_toInt_lt, Int32.le_iff_toInt_le, nI_toInt (by omega), nI_toInt (by omega)]
  omega
/-- beats leave what isn't the border's -/
theorem jmp_out {r : Nat → Int32} (hR : RI r) {j : Nat} (hj : j < 8) (a : Int32) {i : Nat} (hi : ¬ (13 ≤ i ∧ i < 85)) : jmpF r j a i = r i := by
  obtain ⟨p, hp, h8⟩ := hR.place hj
  have e : (r (29 + 7 * j + 4)).toNatClampNeg = p := by rw [hp]; exact kcl (by omega)
  unfold jmpF
  simp only [e]
  split
  · rw [pk_un (by omega), pk_un (by omega)]
  · rw [pk_un (by omega)]
theorem mov_out {r : Nat → Int32} (hR : RI r) {j : Nat} (hj : j < 8) {i : Nat} (hi : ¬ (13 ≤ i ∧ i < 85)) : movF r j i = r i := by
  unfold movF
  (try dsimp only)
  repeat' split
  all_goals first | rfl | exact jmp_out hR hj _ hi | exact pk_un (by omega) | exact (pk_un (by omega)).trans (pk_un (by omega))
theorem ovr_out {r : Nat → Int32} {j : Nat} (hj : j < 8) {i : Nat} (hi : ¬ (13 ≤ i ∧ i < 85)) : ovrF r j i = r i := by
  unfold ovrF
  repeat' split
  all_goals first | rfl | exact pk_un (by omega)
theorem crs_out {st : Prop} [Decidable st] {r : Nat → Int32} (hR : RI r) {i : Nat} (hi : ¬ (13 ≤ i ∧ i < 85)) : ∀ n, n ≤ 8 → crsF st r n i = r i
  | 0, _ => rfl
  | n + 1, h => by
    unfold crsF
    split
    · rw [ovr_out (by omega) hi]; exact crs_out hR hi n (by omega)
    · rw [mov_out (RI_crs hR n (by omega)) (by omega) hi]; exact crs_out hR hi n (by omega)
theorem beat_out {r : Nat → Int32} (hR : RI r) {i : Nat} (h0 : i ≠ 0) (hi : ¬ (13 ≤ i ∧ i < 85)) : beatF r i = r i := by
  unfold beatF
  rw [pk_un h0, crs_out (RI_mid hR) hi _ (sMany_le hR)]
  exact mid_out hR (by omega)
theorem pass_out {r : Nat → Int32} (hR : RI r) {i : Nat} (h0 : i ≠ 0) (hi : ¬ (13 ≤ i ∧ i < 85)) : ∀ n, passF n r i = r i
  | 0 => rfl
  | n + 1 => (beat_out (RI_pass hR n) h0 hi).trans (pass_out hR h0 hi n)
theorem RO.beat (hR : RI r) : RO (beatF r) r := fun k hk => beat_out hR (by omega) (by omega)
theorem RO.pass (hR : RI r) (n : Nat) : RO (passF n r) r := fun k hk => pass_out hR (by omega) (by omega) n
end C7a
section C7
variable {E : kE} {d c t : Nat} {I : Nat → Nat → Int32} {r : Nat → Int32}
set_option maxHeartbeats 2000000 in
set_option maxRecDepth 20000 in
theorem c_within (v a b : Int32) : Ct E d mX8_isWithin 0 0 [.int v, .int a, .int b] (kJ I) (kR (kb (a ≤ v ∧ v ≤ b)) I) := by
  refine Ct.of (L := [some (.int v), some (.int a), some (.int b)]) rfl rfl (Nat.le_of_ble_eq_true rfl) ?_
  refine il0 (n := 1) dX8_isWithin_0 rfl ?_
  refine il1 (n := 2) dX8_isWithin_1 rfl ?_
  refine k_icmp_lt (t := 14) (n := 5) dX8_isWithin_2 (by decide) rfl (fun h2 => ?_) (fun h2 => ?_)
  · refine k_iconst (a := 0) (n := 15) dX8_isWithin_14 rfl rfl ?_
    refine k_ireturn (ty := .boolean) dX8_isWithin_15 rfl (by first | rfl | exact knb _) (Nat.le_refl _) (Nat.le_refl _) ?_
    first | exact kRt ⟨Int32.not_lt.mp (by assumption), Int32.not_lt.mp (by assumption)⟩ | exact kRf (fun h => absurd h.1 (Int32.not_le.mpr (by assumption))) | exact kRf (fun h => absurd h.2 (Int32.not_le.mpr (by assumption)))
  · refine il0 (n := 6) dX8_isWithin_5 rfl ?_
    refine il2 (n := 7) dX8_isWithin_6 rfl ?_
    refine k_icmp_gt (t := 14) (n := 10) dX8_isWithin_7 (by decide) rfl (fun h7 => ?_) (fun h7 => ?_)
    · refine k_iconst (a := 0) (n := 15) dX8_isWithin_14 rfl rfl ?_
      refine k_ireturn (ty := .boolean) dX8_isWithin_15 rfl (by first | rfl | exact knb _) (Nat.le_refl _) (Nat.le_refl _) ?_
      first | exact kRt ⟨Int32.not_lt.mp (by assumption), Int32.not_lt.mp (by assumption)⟩ | exact kRf (fun h => absurd h.1 (Int32.not_le.mpr (by assumption))) | exact kRf (fun h => absurd h.2 (Int32.not_le.mpr (by assumption)))
    · refine k_iconst (a := 1) (n := 11) dX8_isWithin_10 rfl rfl ?_
      refine k_goto (n := 15) dX8_isWithin_11 (by decide) ?_
      refine k_ireturn (ty := .boolean) dX8_isWithin_15 rfl (by first | rfl | exact knb _) (Nat.le_refl _) (Nat.le_refl _) ?_
      first | exact kRt ⟨Int32.not_lt.mp (by assumption), Int32.not_lt.mp (by assumption)⟩ | exact kRf (fun h => absurd h.1 (Int32.not_le.mpr (by assumption))) | exact kRf (fun h => absurd h.2 (Int32.not_le.mpr (by assumption)))
set_option maxHeartbeats 2000000 in
set_option maxRecDepth 20000 in
theorem c_refuse (hd : 1 ≤ d) (q : Nat) (e : Int32) (h1 : 1 ≤ q) (h5 : q ≤ 5) (he : -1000000000 - nI q = e) : Ct E d mX8_refuse 0 0 [.ref 0, .int (nI q)] (kJ I) (kR e (kerC I q)) := by
  refine Ct.of (L := [some (.ref 0), some (.int (nI q))]) rfl rfl (Nat.le_of_ble_eq_true rfl) ?_
  refine il1 (n := 1) dX8_refuse_0 rfl ?_
  refine k_iconst (a := 1) (n := 2) dX8_refuse_1 rfl rfl ?_
  refine k_iconst (a := 5) (n := 3) dX8_refuse_2 rfl rfl ?_
  refine qiX8_65 (n := 6) dX8_refuse_3 rfl rfl (Nat.le_of_ble_eq_true rfl) (by omega) (c_within _ _ _) (Nat.le_refl _) (Nat.le_refl _) ?_
  refine k_ifb_eq (t := 19) (n := 9) dX8_refuse_6 (by decide) rfl (fun h6 => ?_) (fun h6 => ?_)
  · exact absurd ⟨show nI 1 ≤ nI q from Int32.not_lt.mp (nI_nlt h1 (by omega)), show nI q ≤ nI 5 from Int32.not_lt.mp (nI_nlt h5 (by decide))⟩ h6
  · refine al0 (n := 10) dX8_refuse_9 rfl ?_
    refine gX8_61 (n := 13) dX8_refuse_10 rfl rfl rfl rfl ?_
    refine il1 (n := 14) dX8_refuse_13 rfl ?_
    refine k_dup2 (n := 15) dX8_refuse_14 rfl rfl rfl ?_
    refine j_iald (j := q) (n := 16) dX8_refuse_15 rfl rfl rfl (by omega) (by decide) ?_
    refine k_iconst (a := 1) (n := 17) dX8_refuse_16 rfl rfl ?_
    refine k_iadd (n := 18) dX8_refuse_17 rfl ?_
    refine j_iast (j := q) (n := 19) dX8_refuse_18 rfl rfl rfl (by omega) (by decide) ?_
    refine k_gen (fun I1 e1 => ?_)
    refine cwX8_347 (n := 22) dX8_refuse_19 rfl rfl ?_
    refine il1 (n := 23) dX8_refuse_22 rfl ?_
    refine k_isub (n := 24) dX8_refuse_23 rfl ?_
    refine k_ireturn (ty := .int) dX8_refuse_24 rfl rfl (Nat.le_refl _) (Nat.le_refl _) ?_
    subst e1
    exact ⟨by rw [he], rfl⟩
theorem c_refuse1 (hd : 1 ≤ d) : Ct E d mX8_refuse 0 0 [.ref 0, .int 1] (kJ I) (kR (-1000000001) (kerC I 1)) := c_refuse hd 1 _ (by decide) (by decide) (by decide)
theorem c_refuse2 (hd : 1 ≤ d) : Ct E d mX8_refuse 0 0 [.ref 0, .int 2] (kJ I) (kR (-1000000002) (kerC I 2)) := c_refuse hd 2 _ (by decide) (by decide) (by decide)
theorem c_refuse3 (hd : 1 ≤ d) : Ct E d mX8_refuse 0 0 [.ref 0, .int 3] (kJ I) (kR (-1000000003) (kerC I 3)) := c_refuse hd 3 _ (by decide) (by decide) (by decide)
theorem c_refuse4 (hd : 1 ≤ d) : Ct E d mX8_refuse 0 0 [.ref 0, .int 4] (kJ I) (kR (-1000000004) (kerC I 4)) := c_refuse hd 4 _ (by decide) (by decide) (by decide)
theorem c_refuse5 (hd : 1 ≤ d) : Ct E d mX8_refuse 0 0 [.ref 0, .int 5] (kJ I) (kR (-1000000005) (kerC I 5)) := c_refuse hd 5 _ (by decide) (by decide) (by decide)
set_option maxHeartbeats 2000000 in
set_option maxRecDepth 20000 in
theorem c_isSetOf (v : Int32) (n : Nat) (hn : n ≤ 16) : Ct E d mX8_isSetOf 0 0 [.int v, .int (nI n)] (kJ I) (kR (kb (0 ≤ v ∧ v ≤ ((1 : Int32) <<< (nI n &&& 31)) - 1)) I) := by
  refine Ct.of (L := [some (.int v), some (.int (nI n))]) rfl rfl (Nat.le_of_ble_eq_true rfl) ?_
  refine il0 (n := 1) dX8_isSetOf_0 rfl ?_
  refine k_if_lt (t := 15) (n := 4) dX8_isSetOf_1 (by decide) rfl (fun h1 => ?_) (fun h1 => ?_)
  · refine k_iconst (a := 0) (n := 16) dX8_isSetOf_15 rfl rfl ?_
    refine k_ireturn (ty := .boolean) dX8_isSetOf_16 rfl (by first | rfl | exact knb _) (Nat.le_refl _) (Nat.le_refl _) ?_
    first | exact kRf (fun h => absurd h.1 (Int32.not_le.mpr h1)) | exact kRf (fun h => absurd ((sh_le n hn v).mpr h.2) (Int32.not_lt.mpr h8)) | exact kRt ⟨Int32.not_lt.mp h1, (sh_le n hn v).mp (Int32.not_le.mp h8)⟩
  · refine il0 (n := 5) dX8_isSetOf_4 rfl ?_
    refine k_iconst (a := 1) (n := 6) dX8_isSetOf_5 rfl rfl ?_
    refine il1 (n := 7) dX8_isSetOf_6 rfl ?_
    refine k_ishl (n := 8) dX8_isSetOf_7 rfl ?_
    refine k_icmp_ge (t := 15) (n := 11) dX8_isSetOf_8 (by decide) rfl (fun h8 => ?_) (fun h8 => ?_)
    · refine k_iconst (a := 0) (n := 16) dX8_isSetOf_15 rfl rfl ?_
      refine k_ireturn (ty := .boolean) dX8_isSetOf_16 rfl (by first | rfl | exact knb _) (Nat.le_refl _) (Nat.le_refl _) ?_
      first | exact kRf (fun h => absurd h.1 (Int32.not_le.mpr h1)) | exact kRf (fun h => absurd ((sh_le n hn v).mpr h.2) (Int32.not_lt.mpr h8)) | exact kRt ⟨Int32.not_lt.mp h1, (sh_le n hn v).mp (Int32.not_le.mp h8)⟩
    · refine k_iconst (a := 1) (n := 12) dX8_isSetOf_11 rfl rfl ?_
      refine k_goto (n := 16) dX8_isSetOf_12 (by decide) ?_
      refine k_ireturn (ty := .boolean) dX8_isSetOf_16 rfl (by first | rfl | exact knb _) (Nat.le_refl _) (Nat.le_refl _) ?_
      first | exact kRf (fun h => absurd h.1 (Int32.not_le.mpr h1)) | exact kRf (fun h => absurd ((sh_le n hn v).mpr h.2) (Int32.not_lt.mpr h8)) | exact kRt ⟨Int32.not_lt.mp h1, (sh_le n hn v).mp (Int32.not_le.mp h8)⟩
theorem kb_01 (p : Prop) [Decidable p] : kb p = 0 ∨ kb p = 1 := by unfold kb; split <;> simp
set_option maxHeartbeats 2000000 in
set_option maxRecDepth 20000 in
theorem c_asN (v : Int32) (hv : v = 0 ∨ v = 1) : Ct E d mX8_asNumber 0 0 [.int v] (kJ I) (kR v I) := by
  refine Ct.of (L := [some (.int v)]) rfl rfl (Nat.le_of_ble_eq_true rfl) ?_
  refine il0 (n := 1) dX8_asNumber_0 rfl ?_
  refine k_if_eq (t := 8) (n := 4) dX8_asNumber_1 (by decide) rfl (fun h1 => ?_) (fun h1 => ?_)
  · refine k_iconst (a := 0) (n := 9) dX8_asNumber_8 rfl rfl ?_
    refine k_ireturn (ty := .int) dX8_asNumber_9 rfl rfl (Nat.le_refl _) (Nat.le_refl _) ?_
    first | exact ⟨by rw [h1], rfl⟩ | exact ⟨by rw [hv.resolve_left h1], rfl⟩
  · refine k_iconst (a := 1) (n := 5) dX8_asNumber_4 rfl rfl ?_
    refine k_goto (n := 9) dX8_asNumber_5 (by decide) ?_
    refine k_ireturn (ty := .int) dX8_asNumber_9 rfl rfl (Nat.le_refl _) (Nat.le_refl _) ?_
    first | exact ⟨by rw [h1], rfl⟩ | exact ⟨by rw [hv.resolve_left h1], rfl⟩
set_option maxHeartbeats 2000000 in
set_option maxRecDepth 20000 in
theorem c_isUse (v : Int32) : Ct E d mX8_isUse 0 0 [.int v] (kJ I) (kR (kb (0 ≤ v ∧ v ≤ 1)) I) := by
  refine Ct.of (L := [some (.int v)]) rfl rfl (Nat.le_of_ble_eq_true rfl) ?_
  refine il0 (n := 1) dX8_isUse_0 rfl ?_
  refine k_if_eq (t := 9) (n := 4) dX8_isUse_1 (by decide) rfl (fun h1 => ?_) (fun h1 => ?_)
  · refine k_iconst (a := 1) (n := 10) dX8_isUse_9 rfl rfl ?_
    refine k_goto (n := 14) dX8_isUse_10 (by decide) ?_
    refine k_ireturn (ty := .boolean) dX8_isUse_14 rfl (by first | rfl | exact knb _) (Nat.le_refl _) (Nat.le_refl _) ?_
    first
      | exact kRt (by rw [h1]; decide)
      | exact kRt (by rw [h6]; decide)
      | exact kRf (fun h => by
          obtain ⟨j, -, h2, rfl⟩ := kbt (a := 0) (b := 1) h (by decide) (by decide)
          rcases (show j = 0 ∨ j = 1 by omega) with rfl | rfl
          · exact h1 rfl
          · exact h6 rfl)
  · refine il0 (n := 5) dX8_isUse_4 rfl ?_
    refine k_iconst (a := 1) (n := 6) dX8_isUse_5 rfl rfl ?_
    refine k_icmp_ne (t := 13) (n := 9) dX8_isUse_6 (by decide) rfl (fun h6 => ?_) (fun h6 => ?_)
    · refine k_iconst (a := 0) (n := 14) dX8_isUse_13 rfl rfl ?_
      refine k_ireturn (ty := .boolean) dX8_isUse_14 rfl (by first | rfl | exact knb _) (Nat.le_refl _) (Nat.le_refl _) ?_
      first
        | exact kRt (by rw [h1]; decide)
        | exact kRt (by rw [h6]; decide)
        | exact kRf (fun h => by
            obtain ⟨j, -, h2, rfl⟩ := kbt (a := 0) (b := 1) h (by decide) (by decide)
            rcases (show j = 0 ∨ j = 1 by omega) with rfl | rfl
            · exact h1 rfl
            · exact h6 rfl)
    · refine k_iconst (a := 1) (n := 10) dX8_isUse_9 rfl rfl ?_
      refine k_goto (n := 14) dX8_isUse_10 (by decide) ?_
      refine k_ireturn (ty := .boolean) dX8_isUse_14 rfl (by first | rfl | exact knb _) (Nat.le_refl _) (Nat.le_refl _) ?_
      first
        | exact kRt (by rw [h1]; decide)
        | exact kRt (by rw [h6]; decide)
        | exact kRf (fun h => by
            obtain ⟨j, -, h2, rfl⟩ := kbt (a := 0) (b := 1) h (by decide) (by decide)
            rcases (show j = 0 ∨ j = 1 by omega) with rfl | rfl
            · exact h1 rfl
            · exact h6 rfl)
set_option maxHeartbeats 2000000 in
set_option maxRecDepth 20000 in
theorem c_isSheet (hd : 1 ≤ d) (v : Int32) : Ct E d mX8_isSheet 0 0 [.int v] (kJ I) (kR (kb (0 ≤ v ∧ v ≤ 3)) I) := by
  refine Ct.of (L := [some (.int v)]) rfl rfl (Nat.le_of_ble_eq_true rfl) ?_
  refine il0 (n := 1) dX8_isSheet_0 rfl ?_
  refine k_iconst (a := 0) (n := 2) dX8_isSheet_1 rfl rfl ?_
  refine k_iconst (a := 3) (n := 3) dX8_isSheet_2 rfl rfl ?_
  refine qiX8_65 (n := 6) dX8_isSheet_3 rfl rfl (Nat.le_of_ble_eq_true rfl) (by omega) (c_within _ _ _) (Nat.le_refl _) (Nat.le_refl _) ?_
  refine k_ireturn (ty := .boolean) dX8_isSheet_6 rfl (by first | rfl | exact knb _) (Nat.le_refl _) (Nat.le_refl _) ?_
  exact ⟨rfl, rfl⟩
set_option maxHeartbeats 2000000 in
set_option maxRecDepth 20000 in
theorem c_isKind (hd : 1 ≤ d) (v : Int32) : Ct E d mX8_isKindAndNumber 0 0 [.int v] (kJ I) (kR (kb (0 ≤ v ∧ v ≤ 69)) I) := by
  refine Ct.of (L := [some (.int v)]) rfl rfl (Nat.le_of_ble_eq_true rfl) ?_
  refine il0 (n := 1) dX8_isKindAndNumber_0 rfl ?_
  refine k_iconst (a := 0) (n := 2) dX8_isKindAndNumber_1 rfl rfl ?_
  refine k_bipush (a := 69) (n := 4) dX8_isKindAndNumber_2 rfl rfl ?_
  refine qiX8_65 (n := 7) dX8_isKindAndNumber_4 rfl rfl (Nat.le_of_ble_eq_true rfl) (by omega) (c_within _ _ _) (Nat.le_refl _) (Nat.le_refl _) ?_
  refine k_ireturn (ty := .boolean) dX8_isKindAndNumber_7 rfl (by first | rfl | exact knb _) (Nat.le_refl _) (Nat.le_refl _) ?_
  exact ⟨rfl, rfl⟩
set_option maxHeartbeats 2000000 in
set_option maxRecDepth 20000 in
theorem c_isPlace (hd : 1 ≤ d) (hb : BL 8 I r c t) (v : Int32) : Ct E d mX8_isPlace 0 0 [.ref 0, .int v] (kJ I) (kR (kb (0 ≤ v ∧ v ≤ r 3 - 1)) I) := by
  refine Ct.of (L := [some (.ref 0), some (.int v)]) rfl rfl (Nat.le_of_ble_eq_true rfl) ?_
  refine il1 (n := 1) dX8_isPlace_0 rfl ?_
  refine k_iconst (a := 0) (n := 2) dX8_isPlace_1 rfl rfl ?_
  refine al0 (n := 3) dX8_isPlace_2 rfl ?_
  refine gX8_10 (n := 6) dX8_isPlace_3 rfl rfl rfl rfl ?_
  refine gX8_73 (n := 9) dX8_isPlace_6 rfl rfl rfl rfl ?_
  refine gX8_80 (n := 12) dX8_isPlace_9 rfl rfl (hS0 (Or.inl rfl)) ?_
  refine k_top (BL.f5 hb) ?_
  refine k_iconst (a := 1) (n := 13) dX8_isPlace_12 rfl rfl ?_
  refine k_isub (n := 14) dX8_isPlace_13 rfl ?_
  refine qiX8_65 (n := 17) dX8_isPlace_14 rfl rfl (Nat.le_of_ble_eq_true rfl) (by omega) (c_within _ _ _) (Nat.le_refl _) (Nat.le_refl _) ?_
  refine k_ireturn (ty := .boolean) dX8_isPlace_17 rfl (by first | rfl | exact knb _) (Nat.le_refl _) (Nat.le_refl _) ?_
  exact ⟨rfl, rfl⟩
set_option maxHeartbeats 2000000 in
set_option maxRecDepth 20000 in
theorem c_isTurner (hd : 1 ≤ d) (hb : BL 8 I r c t) (v : Int32) : Ct E d mX8_isTurner 0 0 [.ref 0, .int v] (kJ I) (kR (kb (0 ≤ v ∧ v ≤ r 8 - 1)) I) := by
  refine Ct.of (L := [some (.ref 0), some (.int v)]) rfl rfl (Nat.le_of_ble_eq_true rfl) ?_
  refine il1 (n := 1) dX8_isTurner_0 rfl ?_
  refine k_iconst (a := 0) (n := 2) dX8_isTurner_1 rfl rfl ?_
  refine al0 (n := 3) dX8_isTurner_2 rfl ?_
  refine gX8_10 (n := 6) dX8_isTurner_3 rfl rfl rfl rfl ?_
  refine gX8_73 (n := 9) dX8_isTurner_6 rfl rfl rfl rfl ?_
  refine gX8_97 (n := 12) dX8_isTurner_9 rfl rfl (hS0 (Or.inl rfl)) ?_
  refine k_top (BL.f9 hb) ?_
  refine k_iconst (a := 1) (n := 13) dX8_isTurner_12 rfl rfl ?_
  refine k_isub (n := 14) dX8_isTurner_13 rfl ?_
  refine qiX8_65 (n := 17) dX8_isTurner_14 rfl rfl (Nat.le_of_ble_eq_true rfl) (by omega) (c_within _ _ _) (Nat.le_refl _) (Nat.le_refl _) ?_
  refine k_ireturn (ty := .boolean) dX8_isTurner_17 rfl (by first | rfl | exact knb _) (Nat.le_refl _) (Nat.le_refl _) ?_
  exact ⟨rfl, rfl⟩
set_option maxHeartbeats 2000000 in
set_option maxRecDepth 20000 in
theorem c_isCrosser (hd : 1 ≤ d) (hb : BL 8 I r c t) (v : Int32) : Ct E d mX8_isCrosser 0 0 [.ref 0, .int v] (kJ I) (kR (kb (0 ≤ v ∧ v ≤ r 9 - 1)) I) := by
  refine Ct.of (L := [some (.ref 0), some (.int v)]) rfl rfl (Nat.le_of_ble_eq_true rfl) ?_
  refine il1 (n := 1) dX8_isCrosser_0 rfl ?_
  refine k_iconst (a := 0) (n := 2) dX8_isCrosser_1 rfl rfl ?_
  refine al0 (n := 3) dX8_isCrosser_2 rfl ?_
  refine gX8_10 (n := 6) dX8_isCrosser_3 rfl rfl rfl rfl ?_
  refine gX8_73 (n := 9) dX8_isCrosser_6 rfl rfl rfl rfl ?_
  refine gX8_76 (n := 12) dX8_isCrosser_9 rfl rfl (hS0 (Or.inl rfl)) ?_
  refine k_top (BL.f11 hb) ?_
  refine k_iconst (a := 1) (n := 13) dX8_isCrosser_12 rfl rfl ?_
  refine k_isub (n := 14) dX8_isCrosser_13 rfl ?_
  refine qiX8_65 (n := 17) dX8_isCrosser_14 rfl rfl (Nat.le_of_ble_eq_true rfl) (by omega) (c_within _ _ _) (Nat.le_refl _) (Nat.le_refl _) ?_
  refine k_ireturn (ty := .boolean) dX8_isCrosser_17 rfl (by first | rfl | exact knb _) (Nat.le_refl _) (Nat.le_refl _) ?_
  exact ⟨rfl, rfl⟩
set_option maxHeartbeats 2000000 in
set_option maxRecDepth 20000 in
theorem c_think (hd : 2 ≤ d) (hC : CR I r c t) : Ct E d mX8_thinkOfNow 0 0 [.ref 0] (kJ I) (kBv 51 I r c t) := by
  refine Ct.of (L := [some (.ref 0)]) rfl rfl (Nat.le_of_ble_eq_true rfl) ?_
  refine al0 (n := 1) dX8_thinkOfNow_0 rfl ?_
  refine gX8_31 (n := 4) dX8_thinkOfNow_1 rfl rfl rfl rfl ?_
  refine al0 (n := 5) dX8_thinkOfNow_4 rfl ?_
  refine gX8_10 (n := 8) dX8_thinkOfNow_5 rfl rfl rfl rfl ?_
  refine gX8_73 (n := 11) dX8_thinkOfNow_8 rfl rfl rfl rfl ?_
  refine qX8_348 (n := 14) dX8_thinkOfNow_11 rfl rfl (Nat.le_of_ble_eq_true rfl) (by omega) (Nat.le_refl _) (Nat.le_refl _) (hS0 (Or.inr rfl)) (c_cpB (by omega) (P := 51) (O := 8) (Or.inr (Or.inr rfl)) (Or.inl rfl) (Or.inr (by decide)) hC.bl.1) ?_
  rintro _ _ ⟨K, rfl, rfl, hk1, hk2⟩
  dsimp only [Option.toList, List.nil_append, Nat.add_zero]
  refine k_return dX8_thinkOfNow_14 rfl (Nat.le_refl _) (Nat.le_refl _) ?_
  exact ⟨K, rfl, rfl, ⟨hk1, BL.fr hC.bl.2 (Or.inr rfl) hk2.fb⟩, hk2.fb⟩
end C7

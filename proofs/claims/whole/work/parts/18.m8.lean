def passF : Nat → (Nat → Int32) → (Nat → Int32)
  | 0, r => r
  | n + 1, r => beatF (passF n r)
theorem RI_pass {r : Nat → Int32} (hR : RI r) : ∀ n, RI (passF n r)
  | 0 => hR
  | n + 1 => RI_beat (RI_pass hR n)
/-- the row has 255 places: what would lie behind them stays -/
theorem hi_jmp {r : Nat → Int32} (hR : RI r) {j : Nat} (hj : j < 8) (a : Int32) {i : Nat} (hi : 255 ≤ i) : jmpF r j a i = r i := by
  obtain ⟨p, hp, h8⟩ := hR.place hj
  have e : (r (29 + 7 * j + 4)).toNatClampNeg = p := by rw [hp]; exact kcl (by omega)
  unfold jmpF
  simp only [e]
  split
  · exact (pk_un (by omega)).trans (pk_un (by omega))
  · exact pk_un (by omega)
theorem hi_mov {r : Nat → Int32} (hR : RI r) {j : Nat} (hj : j < 8) {i : Nat} (hi : 255 ≤ i) : movF r j i = r i := by
  unfold movF
  (try dsimp only)
  repeat' split
  all_goals first | rfl | exact hi_jmp hR hj _ hi | exact pk_un (by omega) | exact (pk_un (by omega)).trans (pk_un (by omega))
theorem hi_ovr {r : Nat → Int32} {j : Nat} (hj : j < 8) {i : Nat} (hi : 255 ≤ i) : ovrF r j i = r i := by
  unfold ovrF
  repeat' split
  all_goals first | rfl | exact pk_un (by omega)
theorem hi_crs {st : Prop} [Decidable st] {r : Nat → Int32} (hR : RI r) {i : Nat} (hi : 255 ≤ i) : ∀ n, n ≤ 8 → crsF st r n i = r i
  | 0, _ => rfl
  | n + 1, h => by
    unfold crsF
    split
    · rw [hi_ovr (by omega) hi]; exact hi_crs hR hi n (by omega)
    · rw [hi_mov (RI_crs hR n (by omega)) (by omega) hi]; exact hi_crs hR hi n (by omega)
theorem hi_tir {r : Nat → Int32} {i : Nat} (hi : 255 ≤ i) : ∀ n, n ≤ 4 → tirF r n i = r i
  | 0, _ => rfl
  | n + 1, h => by rw [tirF, pk_un (by omega)]; exact hi_tir hi n (by omega)
theorem sMany_le {r : Nat → Int32} (hR : RI r) : sMany r ≤ 8 := by
  obtain ⟨⟨c, hc, h8⟩, -⟩ := hR
  unfold sMany; rw [hc, kcl (by omega)]; exact h8
theorem sTurn_le {r : Nat → Int32} (hR : RI r) : sTurn r ≤ 4 := by
  obtain ⟨-, ⟨c, hc, h8⟩, -⟩ := hR
  unfold sTurn; rw [hc, kcl (by omega)]; exact h8
theorem hi_beat {r : Nat → Int32} (hR : RI r) {i : Nat} (hi : 255 ≤ i) : beatF r i = r i := by
  unfold beatF
  rw [pk_un (by omega), hi_crs (RI_mid hR) hi _ (sMany_le hR)]
  unfold mid1
  split
  · rfl
  · exact hi_tir hi _ (sTurn_le hR)
theorem hi_pass {r : Nat → Int32} (hR : RI r) {i : Nat} (hi : 255 ≤ i) : ∀ n, passF n r i = r i
  | 0 => rfl
  | n + 1 => by rw [passF, hi_beat (RI_pass hR n) hi]; exact hi_pass hR hi n
theorem beat_fix {r : Nat → Int32} {i : Nat} (h : i = 9 ∨ i = 8 ∨ i = 1 ∨ i = 10 ∨ i = 11 ∨ i = 12) : beatF r i = r i := by
  unfold beatF
  rw [pk_un (by omega), crs_fix (by omega), mid_fix (by omega)]
theorem pass_fix {r : Nat → Int32} {i : Nat} (h : i = 9 ∨ i = 8 ∨ i = 1 ∨ i = 10 ∨ i = 11 ∨ i = 12) : ∀ n, passF n r i = r i
  | 0 => rfl
  | n + 1 => by rw [passF, beat_fix h]; exact pass_fix h n
/-- who are so, as a number -/
def setN (r : Nat → Int32) (h : Int32) : Nat → Nat
  | 0 => 0
  | n + 1 => setN r h n + (if r (29 + 7 * n + 5) = h then 2 ^ n else 0)
theorem setN_lt (r : Nat → Int32) (h : Int32) : ∀ n, setN r h n < 2 ^ n
  | 0 => by show 0 < 1; decide
  | n + 1 => by
    have := setN_lt r h n
    rw [setN, Nat.pow_succ]
    split <;> omega
theorem sh1 : ∀ n, n < 16 → (1 : Int32) <<< (nI n &&& 31) = nI (2 ^ n) := by decide +kernel
theorem setF_N (r : Nat → Int32) (h : Int32) : ∀ n, n ≤ 8 → setF r h n = nI (setN r h n)
  | 0, _ => rfl
  | n + 1, hn => by
    have hl := setN_lt r h n
    rw [setF, setN, setF_N r h n (by omega)]
    split
    · rw [sh1 n (by omega), fa_or, Nat.or_comm]
      congr 1
      have := Nat.two_pow_add_eq_or_of_lt hl 1
      rw [Nat.mul_one] at this
      omega
    · rw [show (0 : Int32) = nI 0 from rfl, fa_or, Nat.or_zero, Nat.add_zero]
theorem setN_256 {r : Nat → Int32} (hR : RI r) (h : Int32) : setN r h (sMany r) < 256 := Nat.lt_of_lt_of_le (setN_lt r h _) (Nat.pow_le_pow_right (by decide) (sMany_le hR))
/-- how many are so -/
def cntF (r : Nat → Int32) (h : Int32) : Int32 := nI (pcN (setN r h (sMany r)))
section M8
variable {E : kE} {d : Nat} {I : Nat → Nat → Int32} {r : Nat → Int32}
theorem m_cnt1 (hd : 1 ≤ d) (hR : RI r) (h : Int32) : Ct E d mX9_setOf 0 0 [.ref 81, .int h] (kJ (kset I 82 r)) (kR (nI (setN r h (sMany r))) (kset I 82 r)) := by
  have := m_setOf (E := E) (I := I) hd hR h
  rw [setF_N r h _ (sMany_le hR)] at this
  exact this
set_option maxHeartbeats 2000000 in
set_option maxRecDepth 20000 in
theorem m_passes_l (hd : 65 ≤ d) (hR : RI r) (k : Nat) (hk : k ≤ 1000) (Q : Option Value → kM → Prop) (hQ : ∀ K, kJunk I K → Q none (kJ (kset K 82 (passF k r)))) (m : Nat) : ∀ (i : Nat) (J : Nat → Nat → Int32), kJunk I J → i + m = k → Wd E d mX9_passes 0 0 0 0 2 [some (.ref 81), some (.int (nI k)), some (.int (nI i))] [] (kJ (kset J 82 (passF i r))) Q := by
  induction m with
  | zero =>
    intro i J hJ hi
    have e : i = k := by omega
    subst e
    refine il2 (n := 3) dX9_passes_2 rfl ?_
    refine il1 (n := 4) dX9_passes_3 rfl ?_
    refine k_icmp_ge (t := 17) (n := 7) dX9_passes_4 (by decide) rfl (fun h4 => ?_) (fun h4 => ?_)
    · refine k_return dX9_passes_17 rfl (Nat.le_refl _) (Nat.le_refl _) ?_
      exact hQ J hJ
    · exact absurd (Int32.le_refl _) h4
  | succ m ih =>
    intro i J hJ hi
    refine il2 (n := 3) dX9_passes_2 rfl ?_
    refine il1 (n := 4) dX9_passes_3 rfl ?_
    refine k_icmp_ge (t := 17) (n := 7) dX9_passes_4 (by decide) rfl (fun h4 => ?_) (fun h4 => ?_)
    · exact absurd h4 (nI_ge (by omega) (by omega))
    · refine al0 (n := 8) dX9_passes_7 rfl ?_
      refine qX9_182 (n := 11) dX9_passes_8 rfl rfl (Nat.le_of_ble_eq_true rfl) (by omega) (Nat.le_refl _) (Nat.le_refl _) rfl (m_oneBeat (by omega) (RI_pass hR i)) ?_
      rintro _ _ ⟨J1, rfl, rfl, hJ1⟩
      dsimp only [Option.toList, List.nil_append, Nat.add_zero]
      refine ii2 (n := 14) dX9_passes_11 rfl (ki1 _) trivial ?_
      rw [nI_1]
      refine k_goto (n := 2) dX9_passes_14 (by decide) ?_
      exact ih (i + 1) J1 (hJ.tr hJ1) (by omega)
set_option maxHeartbeats 2000000 in
set_option maxRecDepth 20000 in
theorem m_passes (hd : 65 ≤ d) (hR : RI r) (k : Nat) (hk : k ≤ 1000) : Ct E d mX9_passes 0 0 [.ref 81, .int (nI k)] (kJ (kset I 82 r)) (kSv I (passF k r)) := by
  refine Ct.of (L := [some (.ref 81), some (.int (nI k)), none]) rfl rfl (Nat.le_of_ble_eq_true rfl) ?_
  refine k_iconst (a := 0) (n := 1) dX9_passes_0 rfl rfl ?_
  refine is2 (n := 2) dX9_passes_1 rfl trivial ?_
  exact m_passes_l hd hR k hk _ (fun K hK => ⟨K, rfl, rfl, hK⟩) k 0 I (kJunk.rf I) (by omega)
def s_beats (r : Nat → Int32) (v : Int32) : sT := if 1 ≤ v ∧ v ≤ 200 then if r 0 + v ≤ 99999 then (cntF (passF v.toNatClampNeg r) 2, passF v.toNatClampNeg r, 0) else sS r else sB r
set_option maxHeartbeats 2000000 in
set_option maxRecDepth 20000 in
theorem m_beats (hd : 66 ≤ d) (hR : RI r) (v : Int32) : Ct E d mX9_beats 0 0 [.ref 81, .int v] (kJ (kset I 82 r)) (kU I (s_beats r v)) := by
  refine Ct.of (L := [some (.ref 81), some (.int v)]) rfl rfl (Nat.le_of_ble_eq_true rfl) ?_
  refine il1 (n := 1) dX9_beats_0 rfl ?_
  refine k_iconst (a := 1) (n := 2) dX9_beats_1 rfl rfl ?_
  refine k_sipush (a := 200) (n := 5) dX9_beats_2 rfl rfl ?_
  refine qiX9_41 (n := 8) dX9_beats_5 rfl rfl (Nat.le_of_ble_eq_true rfl) (by omega) (m_in _ _ _) (Nat.le_refl _) (Nat.le_refl _) ?_
  refine k_ifb_ne (t := 18) (n := 11) dX9_beats_8 (by decide) rfl (fun h8 => ?_) (fun h8 => ?_)
  · obtain ⟨j, hj0, hj, rfl⟩ := kbt (a := 1) (b := 200) h8 (by decide) (by decide)
    refine al0 (n := 19) dX9_beats_18 rfl ?_
    refine gX9_7 (n := 22) dX9_beats_19 rfl rfl rfl rfl ?_
    refine k_iconst (a := 0) (n := 23) dX9_beats_22 rfl rfl ?_
    refine js_iald (j := 0) (n := 24) dX9_beats_23 rfl rfl rfl (by decide) (by decide) ?_
    refine il1 (n := 25) dX9_beats_24 rfl ?_
    refine k_iadd (n := 26) dX9_beats_25 rfl ?_
    refine cX9_185 (n := 28) dX9_beats_26 rfl rfl ?_
    refine k_icmp_le (t := 38) (n := 31) dX9_beats_28 (by decide) rfl (fun h28 => ?_) (fun h28 => ?_)
    · refine al0 (n := 39) dX9_beats_38 rfl ?_
      refine il1 (n := 40) dX9_beats_39 rfl ?_
      refine qX9_186 (n := 43) dX9_beats_40 rfl rfl (Nat.le_of_ble_eq_true rfl) (by omega) (Nat.le_refl _) (Nat.le_refl _) rfl (m_passes (by omega) hR j (by omega)) ?_
      rintro _ _ ⟨J1, rfl, rfl, hJ1⟩
      dsimp only [Option.toList, List.nil_append, Nat.add_zero]
      refine al0 (n := 44) dX9_beats_43 rfl ?_
      refine k_iconst (a := 2) (n := 45) dX9_beats_44 rfl rfl ?_
      refine qiX9_189 (n := 48) dX9_beats_45 rfl rfl (Nat.le_of_ble_eq_true rfl) (by omega) rfl (m_cnt1 (by omega) (RI_pass hR j) 2) (Nat.le_refl _) (Nat.le_refl _) ?_
      refine qiX9_192 (n := 51) dX9_beats_48 rfl rfl (Nat.le_of_ble_eq_true rfl) (by omega) (m_bits _ (setN_256 (RI_pass hR j) 2)) (Nat.le_refl _) (Nat.le_refl _) ?_
      refine k_ireturn (ty := .int) dX9_beats_51 rfl rfl (Nat.le_refl _) (Nat.le_refl _) ?_
      first | exact ⟨J1, by simp only [s_beats, sB, sN, sS, sF, if_pos h8, if_pos h28, cntF, kcl (show j < 1000 by omega)], by simp only [s_beats, sB, sN, sS, sF, ke0, ke1, ke2, ke3, ke4, if_pos h8, if_pos h28, cntF, kcl (show j < 1000 by omega)], hJ1.up⟩ | exact ⟨I, by simp only [s_beats, sB, sN, sS, sF, if_pos h8, if_pos h28], by simp only [s_beats, sB, sN, sS, sF, ke0, ke1, ke2, ke3, ke4, if_pos h8, if_pos h28], kJnk.rf I⟩ | exact ⟨I, by simp only [s_beats, sB, sN, sS, sF, if_pos h8, if_pos h28], by simp only [s_beats, sB, sN, sS, sF, ke0, ke1, ke2, ke3, ke4, if_pos h8, if_pos h28], kJnk.rf I⟩
    · refine al0 (n := 32) dX9_beats_31 rfl ?_
      refine cX9_50 (n := 34) dX9_beats_32 rfl rfl ?_
      refine qiX9_46 (n := 37) dX9_beats_34 rfl rfl (Nat.le_of_ble_eq_true rfl) (by omega) rfl (m_errs 3 _ (by decide) rfl) (Nat.le_refl _) (Nat.le_refl _) ?_
      refine k_ireturn (ty := .int) dX9_beats_37 rfl rfl (Nat.le_refl _) (Nat.le_refl _) ?_
      first | exact ⟨J1, by simp only [s_beats, sB, sN, sS, sF, if_pos h8, if_neg h28, cntF, kcl (show j < 1000 by omega)], by simp only [s_beats, sB, sN, sS, sF, ke0, ke1, ke2, ke3, ke4, if_pos h8, if_neg h28, cntF, kcl (show j < 1000 by omega)], hJ1.up⟩ | exact ⟨I, by simp only [s_beats, sB, sN, sS, sF, if_pos h8, if_neg h28], by simp only [s_beats, sB, sN, sS, sF, ke0, ke1, ke2, ke3, ke4, if_pos h8, if_neg h28], kJnk.rf I⟩ | exact ⟨I, by simp only [s_beats, sB, sN, sS, sF, if_pos h8, if_neg h28], by simp only [s_beats, sB, sN, sS, sF, ke0, ke1, ke2, ke3, ke4, if_pos h8, if_neg h28], kJnk.rf I⟩
  · refine al0 (n := 12) dX9_beats_11 rfl ?_
    refine cX9_45 (n := 14) dX9_beats_12 rfl rfl ?_
    refine qiX9_46 (n := 17) dX9_beats_14 rfl rfl (Nat.le_of_ble_eq_true rfl) (by omega) rfl (m_errs 1 _ (by decide) rfl) (Nat.le_refl _) (Nat.le_refl _) ?_
    refine k_ireturn (ty := .int) dX9_beats_17 rfl rfl (Nat.le_refl _) (Nat.le_refl _) ?_
    first | exact ⟨J1, by simp only [s_beats, sB, sN, sS, sF, if_neg h8, cntF, kcl (show j < 1000 by omega)], by simp only [s_beats, sB, sN, sS, sF, ke0, ke1, ke2, ke3, ke4, if_neg h8, cntF, kcl (show j < 1000 by omega)], hJ1.up⟩ | exact ⟨I, by simp only [s_beats, sB, sN, sS, sF, if_neg h8], by simp only [s_beats, sB, sN, sS, sF, ke0, ke1, ke2, ke3, ke4, if_neg h8], kJnk.rf I⟩ | exact ⟨I, by simp only [s_beats, sB, sN, sS, sF, if_neg h8], by simp only [s_beats, sB, sN, sS, sF, ke0, ke1, ke2, ke3, ke4, if_neg h8], kJnk.rf I⟩
def drwF (r : Nat → Int32) : Nat → Int32 := upd r 2 (r 2 * 1103515245 + 12345)
def drwN (r : Nat → Int32) : Int32 := ((drwF r 2).toUInt32 >>> ((8 : Int32).toUInt32 &&& Int32.toUInt32 31)).toInt32
def gosF (r : Nat → Int32) : Nat → Int32 := if r 9 ≤ 0 then r else upd (drwF r) 12 (r 12 ^^^ ((1 : Int32) <<< ((drwN r - drwN r / r 9 * r 9) &&& 31)))
def looF : Nat → (Nat → Int32) → (Nat → Int32)
  | 0, r => r
  | n + 1, r => beatF (gosF (looF n r))
theorem RI_gos {r : Nat → Int32} (hR : RI r) : RI (gosF r) := by
  unfold gosF
  split
  · exact hR
  · exact RI_c (RI_c hR (by omega) _) (by omega) _
theorem RI_loo {r : Nat → Int32} (hR : RI r) : ∀ n, RI (looF n r)
  | 0 => hR
  | n + 1 => RI_beat (RI_gos (RI_loo hR n))
set_option maxHeartbeats 2000000 in
set_option maxRecDepth 20000 in
theorem m_drawn  : Ct E d mX9_drawn 0 0 [.ref 81] (kJ (kset I 82 r)) (kR (drwN r) (kset I 82 (drwF r))) := by
  refine Ct.of (L := [some (.ref 81)]) rfl rfl (Nat.le_of_ble_eq_true rfl) ?_
  refine al0 (n := 1) dX9_drawn_0 rfl ?_
  refine gX9_7 (n := 4) dX9_drawn_1 rfl rfl rfl rfl ?_
  refine k_iconst (a := 2) (n := 5) dX9_drawn_4 rfl rfl ?_
  refine al0 (n := 6) dX9_drawn_5 rfl ?_
  refine gX9_7 (n := 9) dX9_drawn_6 rfl rfl rfl rfl ?_
  refine k_iconst (a := 2) (n := 10) dX9_drawn_9 rfl rfl ?_
  refine js_iald (j := 2) (n := 11) dX9_drawn_10 rfl rfl rfl (by decide) (by decide) ?_
  refine cX9_195 (n := 13) dX9_drawn_11 rfl rfl ?_
  refine k_imul (n := 14) dX9_drawn_13 rfl ?_
  refine k_sipush (a := 12345) (n := 17) dX9_drawn_14 rfl rfl ?_
  refine k_iadd (n := 18) dX9_drawn_17 rfl ?_
  refine js_iast (j := 2) (n := 19) dX9_drawn_18 rfl rfl rfl (by decide) (by decide) ?_
  refine al0 (n := 20) dX9_drawn_19 rfl ?_
  refine gX9_7 (n := 23) dX9_drawn_20 rfl rfl rfl rfl ?_
  refine k_iconst (a := 2) (n := 24) dX9_drawn_23 rfl rfl ?_
  refine js_iald (j := 2) (n := 25) dX9_drawn_24 rfl rfl rfl (by decide) (by decide) ?_
  refine k_bipush (a := 8) (n := 27) dX9_drawn_25 rfl rfl ?_
  refine k_iushr (n := 28) dX9_drawn_27 rfl ?_
  refine k_ireturn (ty := .int) dX9_drawn_28 rfl rfl (Nat.le_refl _) (Nat.le_refl _) ?_
  exact ⟨rfl, rfl⟩
set_option maxHeartbeats 2000000 in
set_option maxRecDepth 20000 in
theorem m_loose_l (hd : 65 ≤ d) (hR : RI r) (k : Nat) (hk : k ≤ 1000) (Q : Option Value → kM → Prop) (hQ : ∀ K, kJunk I K → Wd E d mX9_loose 0 0 0 0 88 [some (.ref 81), some (.int (nI k)), some (.int (nI k))] [] (kJ (kset K 82 (looF k r))) Q) (m : Nat) : ∀ (i : Nat) (J : Nat → Nat → Int32), kJunk I J → i + m = k → Wd E d mX9_loose 0 0 0 0 39 [some (.ref 81), some (.int (nI k)), some (.int (nI i))] [] (kJ (kset J 82 (looF i r))) Q := by
  induction m with
  | zero =>
    intro i J hJ hi
    have e : i = k := by omega
    subst e
    refine il2 (n := 40) dX9_loose_39 rfl ?_
    refine il1 (n := 41) dX9_loose_40 rfl ?_
    refine k_icmp_ge (t := 88) (n := 44) dX9_loose_41 (by decide) rfl (fun h41 => ?_) (fun h41 => ?_)
    · exact hQ J hJ
    · exact absurd (Int32.le_refl _) h41
  | succ m ih =>
    intro i J hJ hi
    have hRi := RI_loo hR i
    refine il2 (n := 40) dX9_loose_39 rfl ?_
    refine il1 (n := 41) dX9_loose_40 rfl ?_
    refine k_icmp_ge (t := 88) (n := 44) dX9_loose_41 (by decide) rfl (fun h41 => ?_) (fun h41 => ?_)
    · exact absurd h41 (nI_ge (by omega) (by omega))
    · refine al0 (n := 45) dX9_loose_44 rfl ?_
      refine gX9_7 (n := 48) dX9_loose_45 rfl rfl rfl rfl ?_
      refine k_bipush (a := 9) (n := 50) dX9_loose_48 rfl rfl ?_
      refine js_iald (j := 9) (n := 51) dX9_loose_50 rfl rfl rfl (by decide) (by decide) ?_
      refine k_if_le (t := 78) (n := 54) dX9_loose_51 (by decide) rfl (fun h51 => ?_) (fun h51 => ?_)
      · refine al0 (n := 79) dX9_loose_78 rfl ?_
        refine qX9_182 (n := 82) dX9_loose_79 rfl rfl (Nat.le_of_ble_eq_true rfl) (by omega) (Nat.le_refl _) (Nat.le_refl _) rfl (m_oneBeat (by omega) (by first | exact hRi | exact RI_c (RI_c hRi (by omega) _) (by omega) _)) ?_
        rintro _ _ ⟨J1, rfl, rfl, hJ1⟩
        dsimp only [Option.toList, List.nil_append, Nat.add_zero]
        refine ii2 (n := 85) dX9_loose_82 rfl (ki1 _) trivial ?_
        rw [nI_1]
        refine k_goto (n := 39) dX9_loose_85 (by decide) ?_
        have h := ih (i + 1) J1 (hJ.tr hJ1) (by omega)
        simp only [looF, gosF, if_neg h41, if_pos h51] at h
        exact h
      · refine al0 (n := 55) dX9_loose_54 rfl ?_
        refine gX9_7 (n := 58) dX9_loose_55 rfl rfl rfl rfl ?_
        refine k_bipush (a := 12) (n := 60) dX9_loose_58 rfl rfl ?_
        refine k_dup2 (n := 61) dX9_loose_60 rfl rfl rfl ?_
        refine js_iald (j := 12) (n := 62) dX9_loose_61 rfl rfl rfl (by decide) (by decide) ?_
        refine k_iconst (a := 1) (n := 63) dX9_loose_62 rfl rfl ?_
        refine al0 (n := 64) dX9_loose_63 rfl ?_
        refine qiX9_196 (n := 67) dX9_loose_64 rfl rfl (Nat.le_of_ble_eq_true rfl) (by omega) rfl m_drawn (Nat.le_refl _) (Nat.le_refl _) ?_
        refine al0 (n := 68) dX9_loose_67 rfl ?_
        refine gX9_7 (n := 71) dX9_loose_68 rfl rfl rfl rfl ?_
        refine k_bipush (a := 9) (n := 73) dX9_loose_71 rfl rfl ?_
        refine js_iald (j := 9) (n := 74) dX9_loose_73 rfl rfl rfl (by decide) (by decide) ?_
        refine k_irem (n := 75) dX9_loose_74 rfl (fun h => h51 (by rw [show drwF (looF i r) 9 = looF i r 9 from pk_un (by decide)] at h; rw [h]; exact Int32.le_refl _)) ?_
        refine k_ishl (n := 76) dX9_loose_75 rfl ?_
        refine k_ixor (n := 77) dX9_loose_76 rfl ?_
        refine js_iast (j := 12) (n := 78) dX9_loose_77 rfl rfl rfl (by decide) (by decide) ?_
        refine al0 (n := 79) dX9_loose_78 rfl ?_
        refine qX9_182 (n := 82) dX9_loose_79 rfl rfl (Nat.le_of_ble_eq_true rfl) (by omega) (Nat.le_refl _) (Nat.le_refl _) rfl (m_oneBeat (by omega) (by first | exact hRi | exact RI_c (RI_c hRi (by omega) _) (by omega) _)) ?_
        rintro _ _ ⟨J1, rfl, rfl, hJ1⟩
        dsimp only [Option.toList, List.nil_append, Nat.add_zero]
        refine ii2 (n := 85) dX9_loose_82 rfl (ki1 _) trivial ?_
        rw [nI_1]
        refine k_goto (n := 39) dX9_loose_85 (by decide) ?_
        have h := ih (i + 1) J1 (hJ.tr hJ1) (by omega)
        simp only [looF, gosF, if_neg h41, if_neg h51] at h
        exact h
def s_loose (r : Nat → Int32) (v : Int32) : sT := if 1 ≤ v ∧ v ≤ 40 then if r 0 + v ≤ 99999 then (cntF (looF v.toNatClampNeg r) 2, looF v.toNatClampNeg r, 0) else sS r else sB r
set_option maxHeartbeats 2000000 in
set_option maxRecDepth 20000 in
theorem m_loose (hd : 66 ≤ d) (hR : RI r) (v : Int32) : Ct E d mX9_loose 0 0 [.ref 81, .int v] (kJ (kset I 82 r)) (kU I (s_loose r v)) := by
  refine Ct.of (L := [some (.ref 81), some (.int v), none]) rfl rfl (Nat.le_of_ble_eq_true rfl) ?_
  refine il1 (n := 1) dX9_loose_0 rfl ?_
  refine k_iconst (a := 1) (n := 2) dX9_loose_1 rfl rfl ?_
  refine k_bipush (a := 40) (n := 4) dX9_loose_2 rfl rfl ?_
  refine qiX9_41 (n := 7) dX9_loose_4 rfl rfl (Nat.le_of_ble_eq_true rfl) (by omega) (m_in _ _ _) (Nat.le_refl _) (Nat.le_refl _) ?_
  refine k_ifb_ne (t := 17) (n := 10) dX9_loose_7 (by decide) rfl (fun h7 => ?_) (fun h7 => ?_)
  · obtain ⟨j, hj0, hj, rfl⟩ := kbt (a := 1) (b := 40) h7 (by decide) (by decide)
    refine al0 (n := 18) dX9_loose_17 rfl ?_
    refine gX9_7 (n := 21) dX9_loose_18 rfl rfl rfl rfl ?_
    refine k_iconst (a := 0) (n := 22) dX9_loose_21 rfl rfl ?_
    refine js_iald (j := 0) (n := 23) dX9_loose_22 rfl rfl rfl (by decide) (by decide) ?_
    refine il1 (n := 24) dX9_loose_23 rfl ?_
    refine k_iadd (n := 25) dX9_loose_24 rfl ?_
    refine cX9_185 (n := 27) dX9_loose_25 rfl rfl ?_
    refine k_icmp_le (t := 37) (n := 30) dX9_loose_27 (by decide) rfl (fun h27 => ?_) (fun h27 => ?_)
    · refine k_iconst (a := 0) (n := 38) dX9_loose_37 rfl rfl ?_
      refine is2 (n := 39) dX9_loose_38 rfl trivial ?_
      refine m_loose_l (by omega) hR j (by omega) _ (fun K hK => ?_) j 0 I (kJunk.rf I) (by omega)
      refine al0 (n := 89) dX9_loose_88 rfl ?_
      refine k_iconst (a := 2) (n := 90) dX9_loose_89 rfl rfl ?_
      refine qiX9_189 (n := 93) dX9_loose_90 rfl rfl (Nat.le_of_ble_eq_true rfl) (by omega) rfl (m_cnt1 (by omega) (RI_loo hR j) 2) (Nat.le_refl _) (Nat.le_refl _) ?_
      refine qiX9_192 (n := 96) dX9_loose_93 rfl rfl (Nat.le_of_ble_eq_true rfl) (by omega) (m_bits _ (setN_256 (RI_loo hR j) 2)) (Nat.le_refl _) (Nat.le_refl _) ?_
      refine k_ireturn (ty := .int) dX9_loose_96 rfl rfl (Nat.le_refl _) (Nat.le_refl _) ?_
      exact ⟨K, by simp only [s_loose, if_pos h7, if_pos h27, cntF, kcl (show j < 1000 by omega)], by simp only [s_loose, if_pos h7, if_pos h27, ke0, kcl (show j < 1000 by omega)], hK.up⟩
    · refine al0 (n := 31) dX9_loose_30 rfl ?_
      refine cX9_50 (n := 33) dX9_loose_31 rfl rfl ?_
      refine qiX9_46 (n := 36) dX9_loose_33 rfl rfl (Nat.le_of_ble_eq_true rfl) (by omega) rfl (m_errs 3 _ (by decide) rfl) (Nat.le_refl _) (Nat.le_refl _) ?_
      refine k_ireturn (ty := .int) dX9_loose_36 rfl rfl (Nat.le_refl _) (Nat.le_refl _) ?_
      first | exact ⟨J1, by simp only [s_loose, sB, sN, sS, sF, if_pos h7, if_neg h27], by simp only [s_loose, sB, sN, sS, sF, ke0, ke1, ke2, ke3, ke4, if_pos h7, if_neg h27], hJ1.up⟩ | exact ⟨I, by simp only [s_loose, sB, sN, sS, sF, if_pos h7, if_neg h27], by simp only [s_loose, sB, sN, sS, sF, ke0, ke1, ke2, ke3, ke4, if_pos h7, if_neg h27], kJnk.rf I⟩
  · refine al0 (n := 11) dX9_loose_10 rfl ?_
    refine cX9_45 (n := 13) dX9_loose_11 rfl rfl ?_
    refine qiX9_46 (n := 16) dX9_loose_13 rfl rfl (Nat.le_of_ble_eq_true rfl) (by omega) rfl (m_errs 1 _ (by decide) rfl) (Nat.le_refl _) (Nat.le_refl _) ?_
    refine k_ireturn (ty := .int) dX9_loose_16 rfl rfl (Nat.le_refl _) (Nat.le_refl _) ?_
    first | exact ⟨J1, by simp only [s_loose, sB, sN, sS, sF, if_neg h7], by simp only [s_loose, sB, sN, sS, sF, ke0, ke1, ke2, ke3, ke4, if_neg h7], hJ1.up⟩ | exact ⟨I, by simp only [s_loose, sB, sN, sS, sF, if_neg h7], by simp only [s_loose, sB, sN, sS, sF, ke0, ke1, ke2, ke3, ke4, if_neg h7], kJnk.rf I⟩
def svF (r t : Nat → Int32) : Nat → Int32 := fun j => if j < 255 then r j else t j
theorem m_save {b : Nat} (hb : SS[b]? = some (100, 255)) (h82 : 82 ≠ b) : Ct E d mX9_moveAll 0 0 [.ref 81, .ref 82, .ref b] (kJ (kset I 82 r)) (kRv (kset (kset I b (svF r (I b))) 82 r)) := by
  have h := m_moveAll (E := E) (d := d) (I := kset I 82 r) (a := 82) (b := b) rfl hb h82
  rw [kset_same, kset_ne _ _ (Ne.symm h82), kset_comm _ _ _ h82] at h
  exact h
theorem m_back {b : Nat} (hb : SS[b]? = some (100, 255)) (h82 : 82 ≠ b) {p : Nat → Int32} (h1 : ∀ j, j < 255 → I b j = r j) (h2 : ∀ j, 255 ≤ j → p j = r j) : Ct E d mX9_moveAll 0 0 [.ref 81, .ref b, .ref 82] (kJ (kset I 82 p)) (kRv (kset I 82 r)) := by
  have h := m_moveAll (E := E) (d := d) (I := kset I 82 p) (a := b) (b := 82) hb rfl (Ne.symm h82)
  rw [kset_same, kset_ne _ _ (Ne.symm h82), kset_kset, show (fun j => if j < 255 then I b j else p j) = r from funext fun j => by
    split
    · exact h1 j (by assumption)
    · exact h2 j (by omega)] at h
  exact h
def kS2 (a : Int32) (I : Nat → Nat → Int32) (r : Nat → Int32) : Option Value → kM → Prop := fun v M => ∃ J, v = some (.int a) ∧ M = kJ (kset J 82 r) ∧ kJnk I J
theorem sv_at {I J : Nat → Nat → Int32} {r : Nat → Int32} {b : Nat} (hb : b = 84 ∨ b = 85) (hJ : kJunk (kset I b (svF r (I b))) J) : ∀ j, j < 255 → J b j = r j := fun j hj => by rw [hJ.1 b (by omega) (by omega), kset_same]; exact if_pos hj
theorem sv_jk {I J : Nat → Nat → Int32} {b : Nat} {f : Nat → Int32} (hb : b = 84 ∨ b = 85) (hJ : kJunk (kset I b f) J) : kJnk I J := (kJnk.set (k := b) f (by omega)).tr hJ.up
def norF (r : Nat → Int32) (s : Int32) (k : Nat) : Nat := setN (passF k (upd r 12 s)) 2 (sMany (passF k (upd r 12 s)))
set_option maxHeartbeats 2000000 in
set_option maxRecDepth 20000 in
theorem m_northOf (hd : 66 ≤ d) (hR : RI r) (s : Int32) (k : Nat) (hk : k ≤ 1000) : Ct E d mX9_northOf 0 0 [.ref 81, .int s, .int (nI k)] (kJ (kset I 82 r)) (kS2 (nI (norF r s k)) I r) := by
  have hRg : RI (upd r 12 s) := RI_c hR (by omega) _
  refine Ct.of (L := [some (.ref 81), some (.int s), some (.int (nI k)), none]) rfl rfl (Nat.le_of_ble_eq_true rfl) ?_
  refine al0 (n := 1) dX9_northOf_0 rfl ?_
  refine al0 (n := 2) dX9_northOf_1 rfl ?_
  refine gX9_7 (n := 5) dX9_northOf_2 rfl rfl rfl rfl ?_
  refine al0 (n := 6) dX9_northOf_5 rfl ?_
  refine gX9_16 (n := 9) dX9_northOf_6 rfl rfl rfl rfl ?_
  refine qiX9_163 (n := 12) dX9_northOf_9 rfl rfl (Nat.le_of_ble_eq_true rfl) (by omega) rfl (m_save (b := 84) rfl (by decide)) (Nat.le_refl _) (Nat.le_refl _) ?_
  refine al0 (n := 13) dX9_northOf_12 rfl ?_
  refine gX9_7 (n := 16) dX9_northOf_13 rfl rfl rfl rfl ?_
  refine k_bipush (a := 12) (n := 18) dX9_northOf_16 rfl rfl ?_
  refine il1 (n := 19) dX9_northOf_18 rfl ?_
  refine js_iast (j := 12) (n := 20) dX9_northOf_19 rfl rfl rfl (by decide) (by decide) ?_
  refine al0 (n := 21) dX9_northOf_20 rfl ?_
  refine il2 (n := 22) dX9_northOf_21 rfl ?_
  refine qX9_186 (n := 25) dX9_northOf_22 rfl rfl (Nat.le_of_ble_eq_true rfl) (by omega) (Nat.le_refl _) (Nat.le_refl _) rfl (m_passes (by omega) hRg k hk) ?_
  rintro _ _ ⟨J1, rfl, rfl, hJ1⟩
  dsimp only [Option.toList, List.nil_append, Nat.add_zero]
  refine al0 (n := 26) dX9_northOf_25 rfl ?_
  refine k_iconst (a := 2) (n := 27) dX9_northOf_26 rfl rfl ?_
  refine qiX9_189 (n := 30) dX9_northOf_27 rfl rfl (Nat.le_of_ble_eq_true rfl) (by omega) rfl (m_cnt1 (by omega) (RI_pass hRg k) 2) (Nat.le_refl _) (Nat.le_refl _) ?_
  refine is3 (n := 31) dX9_northOf_30 rfl trivial ?_
  refine al0 (n := 32) dX9_northOf_31 rfl ?_
  refine al0 (n := 33) dX9_northOf_32 rfl ?_
  refine gX9_16 (n := 36) dX9_northOf_33 rfl rfl rfl rfl ?_
  refine al0 (n := 37) dX9_northOf_36 rfl ?_
  refine gX9_7 (n := 40) dX9_northOf_37 rfl rfl rfl rfl ?_
  refine qiX9_163 (n := 43) dX9_northOf_40 rfl rfl (Nat.le_of_ble_eq_true rfl) (by omega) rfl (m_back (b := 84) (r := r) rfl (by decide) (sv_at (Or.inl rfl) hJ1) (fun j hj => (hi_pass hRg hj k).trans (pk_un (by omega)))) (Nat.le_refl _) (Nat.le_refl _) ?_
  refine il3 (n := 44) dX9_northOf_43 rfl ?_
  refine k_ireturn (ty := .int) dX9_northOf_44 rfl rfl (Nat.le_refl _) (Nat.le_refl _) ?_
  exact ⟨J1, rfl, rfl, sv_jk (Or.inl rfl) hJ1⟩
def s_then (r : Nat → Int32) (n v q : Int32) : sT := if 0 ≤ n ∧ n ≤ 200 then if 0 ≤ v ∧ v ≤ r 9 - 1 then if 0 ≤ q ∧ q ≤ 1 then (passF n.toNatClampNeg r (29 + 7 * v.toNatClampNeg + (5 + q.toNatClampNeg)), r, 0) else sB r else sB r else sB r
set_option maxHeartbeats 2000000 in
set_option maxRecDepth 20000 in
theorem m_then (hd : 66 ≤ d) (hR : RI r) (n v q : Int32) : Ct E d mX9_then 0 0 [.ref 81, .int n, .int v, .int q] (kJ (kset I 82 r)) (kU I (s_then r n v q)) := by
  refine Ct.of (L := [some (.ref 81), some (.int n), some (.int v), some (.int q), none]) rfl rfl (Nat.le_of_ble_eq_true rfl) ?_
  refine il1 (n := 1) dX9_then_0 rfl ?_
  refine k_iconst (a := 0) (n := 2) dX9_then_1 rfl rfl ?_
  refine k_sipush (a := 200) (n := 5) dX9_then_2 rfl rfl ?_
  refine qiX9_41 (n := 8) dX9_then_5 rfl rfl (Nat.le_of_ble_eq_true rfl) (by omega) (m_in _ _ _) (Nat.le_refl _) (Nat.le_refl _) ?_
  refine k_ifb_eq (t := 28) (n := 11) dX9_then_8 (by decide) rfl (fun h8 => ?_) (fun h8 => ?_)
  · refine al0 (n := 29) dX9_then_28 rfl ?_
    refine cX9_45 (n := 31) dX9_then_29 rfl rfl ?_
    refine qiX9_46 (n := 34) dX9_then_31 rfl rfl (Nat.le_of_ble_eq_true rfl) (by omega) rfl (m_errs 1 _ (by decide) rfl) (Nat.le_refl _) (Nat.le_refl _) ?_
    refine k_ireturn (ty := .int) dX9_then_34 rfl rfl (Nat.le_refl _) (Nat.le_refl _) ?_
    first | exact ⟨J1, by simp only [s_then, sB, sN, sS, sF, if_neg h8], by simp only [s_then, sB, sN, sS, sF, ke0, ke1, ke2, ke3, ke4, if_neg h8], sv_jk (Or.inl rfl) hJ1⟩ | exact ⟨I, by simp only [s_then, sB, sN, sS, sF, if_neg h8], by simp only [s_then, sB, sN, sS, sF, ke0, ke1, ke2, ke3, ke4, if_neg h8], kJnk.rf I⟩
  · obtain ⟨k, -, hk, rfl⟩ := kbt (a := 0) (b := 200) h8 (by decide) (by decide)
    refine al0 (n := 12) dX9_then_11 rfl ?_
    refine il2 (n := 13) dX9_then_12 rfl ?_
    refine qiX9_67 (n := 16) dX9_then_13 rfl rfl (Nat.le_of_ble_eq_true rfl) (by omega) rfl (m_isCrosser (by omega) _) (Nat.le_refl _) (Nat.le_refl _) ?_
    refine k_ifb_eq (t := 28) (n := 19) dX9_then_16 (by decide) rfl (fun h16 => ?_) (fun h16 => ?_)
    · refine al0 (n := 29) dX9_then_28 rfl ?_
      refine cX9_45 (n := 31) dX9_then_29 rfl rfl ?_
      refine qiX9_46 (n := 34) dX9_then_31 rfl rfl (Nat.le_of_ble_eq_true rfl) (by omega) rfl (m_errs 1 _ (by decide) rfl) (Nat.le_refl _) (Nat.le_refl _) ?_
      refine k_ireturn (ty := .int) dX9_then_34 rfl rfl (Nat.le_refl _) (Nat.le_refl _) ?_
      first | exact ⟨J1, by simp only [s_then, sB, sN, sS, sF, if_pos h8, kcl (show k < 1000 by omega), if_neg h16], by simp only [s_then, sB, sN, sS, sF, ke0, ke1, ke2, ke3, ke4, if_pos h8, kcl (show k < 1000 by omega), if_neg h16], sv_jk (Or.inl rfl) hJ1⟩ | exact ⟨I, by simp only [s_then, sB, sN, sS, sF, if_pos h8, kcl (show k < 1000 by omega), if_neg h16], by simp only [s_then, sB, sN, sS, sF, ke0, ke1, ke2, ke3, ke4, if_pos h8, kcl (show k < 1000 by omega), if_neg h16], kJnk.rf I⟩
    · obtain ⟨j, hj, rfl⟩ := kixC hR h16
      refine il3 (n := 20) dX9_then_19 rfl ?_
      refine k_iconst (a := 0) (n := 21) dX9_then_20 rfl rfl ?_
      refine k_iconst (a := 1) (n := 22) dX9_then_21 rfl rfl ?_
      refine qiX9_41 (n := 25) dX9_then_22 rfl rfl (Nat.le_of_ble_eq_true rfl) (by omega) (m_in _ _ _) (Nat.le_refl _) (Nat.le_refl _) ?_
      refine k_ifb_ne (t := 35) (n := 28) dX9_then_25 (by decide) rfl (fun h25 => ?_) (fun h25 => ?_)
      · obtain ⟨i, -, hi, rfl⟩ := kbt (a := 0) (b := 1) h25 (by decide) (by decide)
        refine al0 (n := 36) dX9_then_35 rfl ?_
        refine al0 (n := 37) dX9_then_36 rfl ?_
        refine gX9_7 (n := 40) dX9_then_37 rfl rfl rfl rfl ?_
        refine al0 (n := 41) dX9_then_40 rfl ?_
        refine gX9_16 (n := 44) dX9_then_41 rfl rfl rfl rfl ?_
        refine qiX9_163 (n := 47) dX9_then_44 rfl rfl (Nat.le_of_ble_eq_true rfl) (by omega) rfl (m_save (b := 84) rfl (by decide)) (Nat.le_refl _) (Nat.le_refl _) ?_
        refine al0 (n := 48) dX9_then_47 rfl ?_
        refine il1 (n := 49) dX9_then_48 rfl ?_
        refine qX9_186 (n := 52) dX9_then_49 rfl rfl (Nat.le_of_ble_eq_true rfl) (by omega) (Nat.le_refl _) (Nat.le_refl _) rfl (m_passes (by omega) hR k (by omega)) ?_
        rintro _ _ ⟨J1, rfl, rfl, hJ1⟩
        dsimp only [Option.toList, List.nil_append, Nat.add_zero]
        refine al0 (n := 53) dX9_then_52 rfl ?_
        refine il2 (n := 54) dX9_then_53 rfl ?_
        refine k_iconst (a := 5) (n := 55) dX9_then_54 rfl rfl ?_
        refine il3 (n := 56) dX9_then_55 rfl ?_
        refine k_iadd (n := 57) dX9_then_56 rfl ?_
        rw [show (5 : Int32) + nI i = nI (5 + i) from nI_add 5 i]
        refine qiX9_80 (n := 60) dX9_then_57 rfl rfl (Nat.le_of_ble_eq_true rfl) (by omega) rfl (m_its j (5 + i) hj (by omega)) (Nat.le_refl _) (Nat.le_refl _) ?_
        refine is4 (n := 62) dX9_then_60 rfl trivial ?_
        refine al0 (n := 63) dX9_then_62 rfl ?_
        refine al0 (n := 64) dX9_then_63 rfl ?_
        refine gX9_16 (n := 67) dX9_then_64 rfl rfl rfl rfl ?_
        refine al0 (n := 68) dX9_then_67 rfl ?_
        refine gX9_7 (n := 71) dX9_then_68 rfl rfl rfl rfl ?_
        refine qiX9_163 (n := 74) dX9_then_71 rfl rfl (Nat.le_of_ble_eq_true rfl) (by omega) rfl (m_back (b := 84) (r := r) rfl (by decide) (sv_at (Or.inl rfl) hJ1) (fun j hj => hi_pass hR hj k)) (Nat.le_refl _) (Nat.le_refl _) ?_
        refine il4 (n := 76) dX9_then_74 rfl ?_
        refine k_ireturn (ty := .int) dX9_then_76 rfl rfl (Nat.le_refl _) (Nat.le_refl _) ?_
        first | exact ⟨J1, by simp only [s_then, sB, sN, sS, sF, if_pos h8, kcl (show k < 1000 by omega), if_pos h16, kcl (show j < 1000 by omega), if_pos h25, kcl (show i < 1000 by omega)], by simp only [s_then, sB, sN, sS, sF, ke0, ke1, ke2, ke3, ke4, if_pos h8, kcl (show k < 1000 by omega), if_pos h16, kcl (show j < 1000 by omega), if_pos h25, kcl (show i < 1000 by omega)], sv_jk (Or.inl rfl) hJ1⟩ | exact ⟨I, by simp only [s_then, sB, sN, sS, sF, if_pos h8, kcl (show k < 1000 by omega), if_pos h16, kcl (show j < 1000 by omega), if_pos h25, kcl (show i < 1000 by omega)], by simp only [s_then, sB, sN, sS, sF, ke0, ke1, ke2, ke3, ke4, if_pos h8, kcl (show k < 1000 by omega), if_pos h16, kcl (show j < 1000 by omega), if_pos h25, kcl (show i < 1000 by omega)], kJnk.rf I⟩
      · refine al0 (n := 29) dX9_then_28 rfl ?_
        refine cX9_45 (n := 31) dX9_then_29 rfl rfl ?_
        refine qiX9_46 (n := 34) dX9_then_31 rfl rfl (Nat.le_of_ble_eq_true rfl) (by omega) rfl (m_errs 1 _ (by decide) rfl) (Nat.le_refl _) (Nat.le_refl _) ?_
        refine k_ireturn (ty := .int) dX9_then_34 rfl rfl (Nat.le_refl _) (Nat.le_refl _) ?_
        first | exact ⟨J1, by simp only [s_then, sB, sN, sS, sF, if_pos h8, kcl (show k < 1000 by omega), if_pos h16, kcl (show j < 1000 by omega), if_neg h25], by simp only [s_then, sB, sN, sS, sF, ke0, ke1, ke2, ke3, ke4, if_pos h8, kcl (show k < 1000 by omega), if_pos h16, kcl (show j < 1000 by omega), if_neg h25], sv_jk (Or.inl rfl) hJ1⟩ | exact ⟨I, by simp only [s_then, sB, sN, sS, sF, if_pos h8, kcl (show k < 1000 by omega), if_pos h16, kcl (show j < 1000 by omega), if_neg h25], by simp only [s_then, sB, sN, sS, sF, ke0, ke1, ke2, ke3, ke4, if_pos h8, kcl (show k < 1000 by omega), if_pos h16, kcl (show j < 1000 by omega), if_neg h25], kJnk.rf I⟩
/-- the first from i on at which it holds, of m that are asked -/
def srF (P : Nat → Prop) [DecidablePred P] : Nat → Nat → Nat
  | 0, i => i
  | m + 1, i => if P i then i else srF P m (i + 1)
set_option maxHeartbeats 2000000 in
set_option maxRecDepth 20000 in
theorem m_over_l (hd : 65 ≤ d) (hR : RI r) (j : Nat) (hj : j < 8) (Q : Option Value → kM → Prop) (hQ : ∀ K, kJunk I K → ∀ i, i = srF (fun i => passF i r (29 + 7 * j + 5) = 2) 201 0 → Wd E d mX9_over 0 0 0 0 56 [some (.ref 81), some (.int (nI j)), some (.int (nI i))] [] (kJ (kset K 82 (passF i r))) Q) (m : Nat) : ∀ (i : Nat) (J : Nat → Nat → Int32), kJunk I J → i + m = 201 → srF (fun i => passF i r (29 + 7 * j + 5) = 2) m i = srF (fun i => passF i r (29 + 7 * j + 5) = 2) 201 0 → Wd E d mX9_over 0 0 0 0 29 [some (.ref 81), some (.int (nI j)), some (.int (nI i))] [] (kJ (kset J 82 (passF i r))) Q := by
  induction m with
  | zero =>
    intro i J hJ hi hs
    have e : i = 201 := by omega
    subst e
    refine il2 (n := 30) dX9_over_29 rfl ?_
    refine k_sipush (a := 200) (n := 33) dX9_over_30 rfl rfl ?_
    refine k_icmp_gt (t := 56) (n := 36) dX9_over_33 (by decide) rfl (fun h33 => ?_) (fun h33 => ?_)
    · exact hQ J hJ _ hs
    · exact absurd (by decide) h33
  | succ m ih =>
    intro i J hJ hi hs
    refine il2 (n := 30) dX9_over_29 rfl ?_
    refine k_sipush (a := 200) (n := 33) dX9_over_30 rfl rfl ?_
    refine k_icmp_gt (t := 56) (n := 36) dX9_over_33 (by decide) rfl (fun h33 => ?_) (fun h33 => ?_)
    · exact absurd h33 (nI_nlt (show i ≤ 200 by omega) (by decide))
    · refine al0 (n := 37) dX9_over_36 rfl ?_
      refine il1 (n := 38) dX9_over_37 rfl ?_
      refine k_iconst (a := 5) (n := 39) dX9_over_38 rfl rfl ?_
      refine qiX9_80 (n := 42) dX9_over_39 rfl rfl (Nat.le_of_ble_eq_true rfl) (by omega) rfl (m_its j 5 hj (by decide)) (Nat.le_refl _) (Nat.le_refl _) ?_
      refine k_iconst (a := 2) (n := 43) dX9_over_42 rfl rfl ?_
      refine k_icmp_eq (t := 56) (n := 46) dX9_over_43 (by decide) rfl (fun h43 => ?_) (fun h43 => ?_)
      · exact hQ J hJ i (by rw [← hs, srF, if_pos h43])
      · refine al0 (n := 47) dX9_over_46 rfl ?_
        refine qX9_182 (n := 50) dX9_over_47 rfl rfl (Nat.le_of_ble_eq_true rfl) (by omega) (Nat.le_refl _) (Nat.le_refl _) rfl (m_oneBeat (by omega) (RI_pass hR i)) ?_
        rintro _ _ ⟨J1, rfl, rfl, hJ1⟩
        dsimp only [Option.toList, List.nil_append, Nat.add_zero]
        refine ii2 (n := 53) dX9_over_50 rfl (ki1 _) trivial ?_
        rw [nI_1]
        refine k_goto (n := 29) dX9_over_53 (by decide) ?_
        exact ih (i + 1) J1 (hJ.tr hJ1) (by omega) (by rw [← hs, srF, if_neg h43])
def s_over (r : Nat → Int32) (v : Int32) : sT := if 0 ≤ v ∧ v ≤ r 9 - 1 then if nI (srF (fun i => passF i r (29 + 7 * v.toNatClampNeg + 5) = 2) 201 0) ≤ 200 then (nI (srF (fun i => passF i r (29 + 7 * v.toNatClampNeg + 5) = 2) 201 0), r, 0) else sN r else sB r
set_option maxHeartbeats 2000000 in
set_option maxRecDepth 20000 in
theorem m_over (hd : 66 ≤ d) (hR : RI r) (v : Int32) : Ct E d mX9_over 0 0 [.ref 81, .int v] (kJ (kset I 82 r)) (kU I (s_over r v)) := by
  refine Ct.of (L := [some (.ref 81), some (.int v), none]) rfl rfl (Nat.le_of_ble_eq_true rfl) ?_
  refine al0 (n := 1) dX9_over_0 rfl ?_
  refine il1 (n := 2) dX9_over_1 rfl ?_
  refine qiX9_67 (n := 5) dX9_over_2 rfl rfl (Nat.le_of_ble_eq_true rfl) (by omega) rfl (m_isCrosser (by omega) _) (Nat.le_refl _) (Nat.le_refl _) ?_
  refine k_ifb_ne (t := 15) (n := 8) dX9_over_5 (by decide) rfl (fun h5 => ?_) (fun h5 => ?_)
  · obtain ⟨j, hj, rfl⟩ := kixC hR h5
    refine al0 (n := 16) dX9_over_15 rfl ?_
    refine al0 (n := 17) dX9_over_16 rfl ?_
    refine gX9_7 (n := 20) dX9_over_17 rfl rfl rfl rfl ?_
    refine al0 (n := 21) dX9_over_20 rfl ?_
    refine gX9_16 (n := 24) dX9_over_21 rfl rfl rfl rfl ?_
    refine qiX9_163 (n := 27) dX9_over_24 rfl rfl (Nat.le_of_ble_eq_true rfl) (by omega) rfl (m_save (b := 84) rfl (by decide)) (Nat.le_refl _) (Nat.le_refl _) ?_
    refine k_iconst (a := 0) (n := 28) dX9_over_27 rfl rfl ?_
    refine is2 (n := 29) dX9_over_28 rfl trivial ?_
    refine m_over_l (by omega) hR j hj _ (fun K hK i hi => ?_) 201 0 (kset I 84 (svF r (I 84))) (kJunk.rf _) (by omega) rfl
    refine al0 (n := 57) dX9_over_56 rfl ?_
    refine al0 (n := 58) dX9_over_57 rfl ?_
    refine gX9_16 (n := 61) dX9_over_58 rfl rfl rfl rfl ?_
    refine al0 (n := 62) dX9_over_61 rfl ?_
    refine gX9_7 (n := 65) dX9_over_62 rfl rfl rfl rfl ?_
    refine qiX9_163 (n := 68) dX9_over_65 rfl rfl (Nat.le_of_ble_eq_true rfl) (by omega) rfl (m_back (b := 84) (r := r) rfl (by decide) (sv_at (Or.inl rfl) hK) (fun j hj => hi_pass hR hj i)) (Nat.le_refl _) (Nat.le_refl _) ?_
    refine il2 (n := 69) dX9_over_68 rfl ?_
    refine k_sipush (a := 200) (n := 72) dX9_over_69 rfl rfl ?_
    rw [hi]
    refine k_icmp_le (t := 84) (n := 75) dX9_over_72 (by decide) rfl (fun h72 => ?_) (fun h72 => ?_)
    · refine il2 (n := 85) dX9_over_84 rfl ?_
      refine k_ireturn (ty := .int) dX9_over_85 rfl rfl (Nat.le_refl _) (Nat.le_refl _) ?_
      exact ⟨K, by simp only [s_over, sB, sN, if_pos h5, kcl (show j < 1000 by omega), if_pos h72], by simp only [s_over, sB, sN, ke0, ke2, if_pos h5, kcl (show j < 1000 by omega), if_pos h72], sv_jk (Or.inl rfl) hK⟩
    · refine al0 (n := 76) dX9_over_75 rfl ?_
      refine cX9_199 (n := 78) dX9_over_76 rfl rfl ?_
      refine qiX9_46 (n := 81) dX9_over_78 rfl rfl (Nat.le_of_ble_eq_true rfl) (by omega) rfl (m_errs 2 _ (by decide) rfl) (Nat.le_refl _) (Nat.le_refl _) ?_
      refine k_goto (n := 85) dX9_over_81 (by decide) ?_
      refine k_ireturn (ty := .int) dX9_over_85 rfl rfl (Nat.le_refl _) (Nat.le_refl _) ?_
      exact ⟨K, by simp only [s_over, sB, sN, if_pos h5, kcl (show j < 1000 by omega), if_neg h72], by simp only [s_over, sB, sN, ke0, ke2, if_pos h5, kcl (show j < 1000 by omega), if_neg h72], sv_jk (Or.inl rfl) hK⟩
  · refine al0 (n := 9) dX9_over_8 rfl ?_
    refine cX9_45 (n := 11) dX9_over_9 rfl rfl ?_
    refine qiX9_46 (n := 14) dX9_over_11 rfl rfl (Nat.le_of_ble_eq_true rfl) (by omega) rfl (m_errs 1 _ (by decide) rfl) (Nat.le_refl _) (Nat.le_refl _) ?_
    refine k_ireturn (ty := .int) dX9_over_14 rfl rfl (Nat.le_refl _) (Nat.le_refl _) ?_
    first | exact ⟨J1, by simp only [s_over, sB, sN, sS, sF, if_neg h5], by simp only [s_over, sB, sN, sS, sF, ke0, ke1, ke2, ke3, ke4, if_neg h5], hJ1.up⟩ | exact ⟨I, by simp only [s_over, sB, sN, sS, sF, if_neg h5], by simp only [s_over, sB, sN, sS, sF, ke0, ke1, ke2, ke3, ke4, if_neg h5], kJnk.rf I⟩
end M8

section C15
variable {E : kE} {d : Nat} {y z : kY} {np cl sl mc ms pc n : Nat} {L : List (Option Value)} {st : List Value} {M : kM} {Q Qc : Option Value → kM → Prop} {I J : Nat → Nat → Int32}
theorem k_invVS {i si mc' ms' : Nat} {As : List Value} (hd : decode y.2.1 pc = .ok (.invokevirtual i, 3)) (hn : pc + 3 = n) (hz : kMw z np) (hg : Cond.methodLink y.1.cls i z.1 ∈ kG) (hg2 : Cond.instanceMethod z.1 ∈ kG) (hg3 : Cond.selects "java/lang/String" z.1 z.1 ∈ kG) (hsi : si < 2) (hnp : As.length = np) (hst : (st.map fun v => v.category).sum ≤ 8) (h1 : 1 ≤ d) (hr1 : cl + mc' ≤ mc) (hr2 : sl + ms' ≤ ms)
    (hM : Ct E (d - 1) z mc' ms' (.ref (1005 + si) :: As) M Qc) (kk : ∀ (v : Option Value) (M' : kM), Qc v M' → Wd E d y (cl + mc') (sl + ms') mc ms n L (v.toList ++ st) M' Q) : Wd E d y cl sl mc ms pc L (As.reverse ++ .ref (1005 + si) :: st) M Q := by
  intro p l e R s m args below meth c H locs ls Z hC hx hH hS hl
  subst hn
  have hR := kroom hC
  have hf := k_frm (z := z) (mc' := mc') (ms' := ms') hR h1 hz.2.2.2
  have hts := hC.2.2.2.2.2.2.2.1
  have hrv : ∃ cell : Cell, H[kad E (1005 + si)]? = some cell ∧ cell.vm.isStatics = false ∧ s.vm.findClass "java/lang/String" = some cell.cls := vk_recv (adK := fun i => kad E (1005 + i)) (i := si) (kamb hC).2.2.2.2.2.2.2.1 hsi hS
  refine k_run (st0 := []) (va_runV (As := As.map (kcv E)) (rest := st.map (kcv E)) (b := kad E (1005 + si)) (C := "java/lang/String") (g := F0 m pc ls ((As.reverse ++ .ref (1005 + si) :: st).map (kcv E))) ⟨hC.1, hC.2.1, hC.2.2.1, kown hC, hts⟩ (hM l)
    ⟨callB_of np hts (kG_good (fun w h => h) hz.1) rfl rfl rfl (kgood hC hz.2.1) (kgood hC hg) hz.2.2.1 hf, kgood hC hg2, kgood hC hg3⟩
    ⟨kPc.blind E _ M, hrv, kPc.at (as := .ref (1005 + si) :: As) (kamb hC) hC.2.2.2.2.2.2.2.2.2.2 hH hS⟩ rfl (by rw [List.length_map]; exact hnp) hl.1 (by simp [kcv]) (lv_room (by rw [kcv_sum]; exact hst)) hd ⟨by omega, by omega⟩) hC hx hS hl kk
theorem k_getfV {i si : Nat} (hd : decode y.2.1 pc = .ok (.getfield i, 3)) (hn : pc + 3 = n) (hg : Cond.fieldLink y.1.cls i "java/lang/String" "value" "[B" ∈ kG) (hsi : si < 2) (kk : Wd E d y cl sl mc ms n L (.ref (1007 + si) :: st) M Q) : Wd E d y cl sl mc ms pc L (.ref (1005 + si) :: st) M Q := by
  intro p l e R s m args below meth c H locs ls Z hC hx hH hS hl
  subst hn
  exact vk_getf hC.1 hC.2.1 ((kamb hC).2.2.2.2.2.2.2.1.1 si hsi).2.2.1 hS (kown hC) (kgood hC hg) (fun x h => h) hd (kk p l e R s m args below meth c H locs ls Z hC hx hH hS hl)
theorem k_getfC {i si : Nat} (hd : decode y.2.1 pc = .ok (.getfield i, 3)) (hn : pc + 3 = n) (hg : Cond.fieldLink y.1.cls i "java/lang/String" "coder" "B" ∈ kG) (hsi : si < 2) (kk : Wd E d y cl sl mc ms n L (.int 0 :: st) M Q) : Wd E d y cl sl mc ms pc L (.ref (1005 + si) :: st) M Q := by
  intro p l e R s m args below meth c H locs ls Z hC hx hH hS hl
  subst hn
  exact vk_getf hC.1 hC.2.1 ((kamb hC).2.2.2.2.2.2.2.1.1 si hsi).2.1 hS (kown hC) (kgood hC hg) (fun x h => h) hd (kk p l e R s m args below meth c H locs ls Z hC hx hH hS hl)
theorem k_getsC {i : Nat} (hd : decode y.2.1 pc = .ok (.getstatic i, 3)) (hn : pc + 3 = n) (hg : Cond.fieldLink y.1.cls i "java/lang/String" "COMPACT_STRINGS" "Z" ∈ kG) (kk : Wd E d y cl sl mc ms n L (.int 1 :: st) M Q) : Wd E d y cl sl mc ms pc L st M Q := by
  intro p l e R s m args below meth c H locs ls Z hC hx hH hS hl
  subst hn
  exact va_gets hC.1 hC.2.1 (kamb hC).2.2.2.2.2.2.2.2.2.2 hS (kown hC) (kgood hC hg) (fun x h => h) hd (kk p l e R s m args below meth c H locs ls Z hC hx hH hS hl)
def nmB (si j : Nat) : Int32 := (([[107, 108, 112], [107, 119, 98]] : List (List Int32)).getD si []).getD j 0
theorem nmL : ∀ si, si < 2 → ([3, 3] : List Nat).getD si 0 = 3 := by decide
theorem k_bald {si j : Nat} {i : Int32} (hd : decode y.2.1 pc = .ok (.baload, 1)) (hn : pc + 1 = n) (hsi : si < 2) (hi : i = nI j) (hj : j < 3) (kk : Wd E d y cl sl mc ms n L (.int (nmB si j) :: st) M Q) : Wd E d y cl sl mc ms pc L (.int i :: .ref (1007 + si) :: st) M Q := by
  intro p l e R s m args below meth c H locs ls Z hC hx hH hS hl
  subst hn
  refine va_tb (v := .int (nmB si j)) hC.1 hC.2.1 ((kamb hC).2.2.2.2.2.2.2.1.1 si hsi).2.2.2 hS (i := i) ?_ (by rw [hi, nI_clamp (by omega)]; rfl) hd (kk p l e R s m args below meth c H locs ls Z hC hx hH hS hl)
  rw [hi, nmL si hsi]
  rintro (h | h)
  · exact nI_pos (by omega) h
  · rw [nI_clamp (by omega)] at h; omega
theorem k_blen {si : Nat} (hd : decode y.2.1 pc = .ok (.arraylength, 1)) (hn : pc + 1 = n) (hsi : si < 2) (kk : Wd E d y cl sl mc ms n L (.int (nI 3) :: st) M Q) : Wd E d y cl sl mc ms pc L (.ref (1007 + si) :: st) M Q := by
  intro p l e R s m args below meth c H locs ls Z hC hx hH hS hl
  subst hn
  exact va_tlen hC.1 hC.2.1 ((kamb hC).2.2.2.2.2.2.2.1.1 si hsi).2.2.2 hS (v := nI 3) (by rw [nmL si hsi]; rfl) hd (kk p l e R s m args below meth c H locs ls Z hC hx hH hS hl)
/-- which of a use's names a byte is; -1: none -/
def ixF (si : Nat) (x : Nat) : Int32 := if nI x = nmB si 0 then 0 else if nI x = nmB si 1 then 1 else if nI x = nmB si 2 then 2 else -1
theorem i2b_eq : ∀ x, x < 256 → ∀ si, si < 2 → ∀ j, j < 3 → (nmB si j = (nI x).toInt8.toInt32 ↔ nI x = nmB si j) := by decide +kernel
theorem i2c_eq : ∀ x, x < 256 → ((nI x).toUInt32 % 65536).toInt32 = nI x := by decide +kernel
end C15
section C15b
variable {E : kE} {d : Nat} {I J : Nat → Nat → Int32} {r : Nat → Int32}
set_option maxHeartbeats 2000000 in
set_option maxRecDepth 20000 in
theorem j_latin {si : Nat} (hsi : si < 2) : Ct E d mJ0_isLatin1_aae02 0 0 [.ref (1005 + si)] (kJ I) (kR 1 I) := by
  refine Ct.of (L := [some (.ref (1005 + si))]) rfl rfl (Nat.le_of_ble_eq_true rfl) ?_
  refine k_getsC (n := 3) dJ0_isLatin1_aae02_0 rfl (gwi 513 (by decide +kernel) rfl) ?_
  refine k_if_eq (t := 17) (n := 6) dJ0_isLatin1_aae02_3 (by decide) rfl (fun h3 => ?_) (fun h3 => ?_)
  · exact absurd h3 (by decide)
  · refine al0 (n := 7) dJ0_isLatin1_aae02_6 rfl ?_
    refine k_getfC (n := 10) dJ0_isLatin1_aae02_7 rfl (gwi 1306 (by decide +kernel) rfl) hsi ?_
    refine k_if_ne (t := 17) (n := 13) dJ0_isLatin1_aae02_10 (by decide) rfl (fun h10 => ?_) (fun h10 => ?_)
    · exact absurd rfl h10
    · refine k_iconst (a := 1) (n := 14) dJ0_isLatin1_aae02_13 rfl rfl ?_
      refine k_goto (n := 18) dJ0_isLatin1_aae02_14 (by decide) ?_
      refine k_ireturn (ty := .boolean) dJ0_isLatin1_aae02_18 rfl (by first | rfl | exact knb _) (Nat.le_refl _) (Nat.le_refl _) ?_
      exact ⟨rfl, rfl⟩
set_option maxHeartbeats 2000000 in
set_option maxRecDepth 20000 in
theorem j_coder {si : Nat} (hsi : si < 2) : Ct E d mJ0_coder_7d493 0 0 [.ref (1005 + si)] (kJ I) (kR 0 I) := by
  refine Ct.of (L := [some (.ref (1005 + si))]) rfl rfl (Nat.le_of_ble_eq_true rfl) ?_
  refine k_getsC (n := 3) dJ0_coder_7d493_0 rfl (gwi 513 (by decide +kernel) rfl) ?_
  refine k_if_eq (t := 13) (n := 6) dJ0_coder_7d493_3 (by decide) rfl (fun h3 => ?_) (fun h3 => ?_)
  · exact absurd h3 (by decide)
  · refine al0 (n := 7) dJ0_coder_7d493_6 rfl ?_
    refine k_getfC (n := 10) dJ0_coder_7d493_7 rfl (gwi 1306 (by decide +kernel) rfl) hsi ?_
    refine k_goto (n := 14) dJ0_coder_7d493_10 (by decide) ?_
    refine k_ireturn (ty := .byte) dJ0_coder_7d493_14 rfl rfl (Nat.le_refl _) (Nat.le_refl _) ?_
    exact ⟨rfl, rfl⟩
set_option maxHeartbeats 2000000 in
set_option maxRecDepth 20000 in
theorem j_len {si : Nat} (hd : 1 ≤ d) (hsi : si < 2) : Ct E d mJ0_length_8abf5 0 0 [.ref (1005 + si)] (kJ I) (kR (nI 3) I) := by
  refine Ct.of (L := [some (.ref (1005 + si))]) rfl rfl (Nat.le_of_ble_eq_true rfl) ?_
  refine al0 (n := 1) dJ0_length_8abf5_0 rfl ?_
  refine k_getfV (n := 4) dJ0_length_8abf5_1 rfl (gwi 1307 (by decide +kernel) rfl) hsi ?_
  refine k_blen (n := 5) dJ0_length_8abf5_4 rfl hsi ?_
  refine al0 (n := 6) dJ0_length_8abf5_5 rfl ?_
  refine k_invVS (z := mJ0_coder_7d493) (As := []) (n := 9) dJ0_length_8abf5_6 rfl wJ0_coder_7d493 (gwi 519 (by decide +kernel) rfl) (gwi 520 (by decide +kernel) rfl) (gwi 521 (by decide +kernel) rfl) hsi rfl (Nat.le_of_ble_eq_true rfl) (by omega) (Nat.le_refl _) (Nat.le_refl _) (j_coder hsi) (fun v M' hv => kRi hv ?_)
  refine k_ishr (n := 10) dJ0_length_8abf5_9 rfl ?_
  refine k_ireturn (ty := .int) dJ0_length_8abf5_10 rfl rfl (Nat.le_refl _) (Nat.le_refl _) ?_
  exact ⟨by rw [show nI 3 >>> ((0 : Int32) &&& 31) = nI 3 by decide], rfl⟩
set_option maxHeartbeats 2000000 in
set_option maxRecDepth 20000 in
theorem j_canE (x : Nat) (hx : x < 256) : Ct E d mJ1_canEncode_9a6ad 0 0 [.int (nI x)] (kJ I) (kR (kb True) I) := by
  refine Ct.of (L := [some (.int (nI x))]) rfl rfl (Nat.le_of_ble_eq_true rfl) ?_
  refine il0 (n := 1) dJ1_canEncode_9a6ad_0 rfl ?_
  refine k_if_lt (t := 15) (n := 4) dJ1_canEncode_9a6ad_1 (by decide) rfl (fun h1 => ?_) (fun h1 => ?_)
  · exact absurd h1 (nI_pos (by omega))
  · refine il0 (n := 5) dJ1_canEncode_9a6ad_4 rfl ?_
    refine k_sipush (a := 255) (n := 8) dJ1_canEncode_9a6ad_5 rfl rfl ?_
    refine k_icmp_gt (t := 15) (n := 11) dJ1_canEncode_9a6ad_8 (by decide) rfl (fun h8 => ?_) (fun h8 => ?_)
    · exact absurd h8 (nI_nlt (a := 255) (b := x) (by omega) (by decide))
    · refine k_iconst (a := 1) (n := 12) dJ1_canEncode_9a6ad_11 rfl rfl ?_
      refine k_goto (n := 16) dJ1_canEncode_9a6ad_12 (by decide) ?_
      refine k_ireturn (ty := .boolean) dJ1_canEncode_9a6ad_16 rfl (by first | rfl | exact knb _) (Nat.le_refl _) (Nat.le_refl _) ?_
      exact kRt trivial
set_option maxHeartbeats 2000000 in
set_option maxRecDepth 20000 in
theorem j_ioc_l {si : Nat} (hsi : si < 2) (x : Nat) (hx : x < 256) (v2 : Int32) (m : Nat) : ∀ (i : Nat), i + m = 3 → (∀ j, j < i → ¬ nI x = nmB si j) → Wd E d mJ1_indexOfChar_4cfef 0 0 0 0 7 [some (.ref (1007 + si)), some (.int (nI x)), some (.int v2), some (.int (nI 3)), some (.int (nI x).toInt8.toInt32), some (.int (nI i))] [] (kJ I) (kR (ixF si x) I) := by
  induction m with
  | zero =>
    intro i hi hno
    have e : i = 3 := by omega
    subst e
    refine il5 (n := 9) dJ1_indexOfChar_4cfef_7 rfl ?_
    refine il3 (n := 10) dJ1_indexOfChar_4cfef_9 rfl ?_
    refine k_icmp_ge (t := 31) (n := 13) dJ1_indexOfChar_4cfef_10 (by decide) rfl (fun h10 => ?_) (fun h10 => ?_)
    · refine k_iconst (a := (-1)) (n := 32) dJ1_indexOfChar_4cfef_31 rfl rfl ?_
      refine k_ireturn (ty := .int) dJ1_indexOfChar_4cfef_32 rfl rfl (Nat.le_refl _) (Nat.le_refl _) ?_
      exact ⟨by rw [ixF, if_neg (hno 0 (by decide)), if_neg (hno 1 (by decide)), if_neg (hno 2 (by decide))], rfl⟩
    · exact absurd (Int32.le_refl _) h10
  | succ m ih =>
    intro i hi hno
    have hi3 : i < 3 := by omega
    refine il5 (n := 9) dJ1_indexOfChar_4cfef_7 rfl ?_
    refine il3 (n := 10) dJ1_indexOfChar_4cfef_9 rfl ?_
    refine k_icmp_ge (t := 31) (n := 13) dJ1_indexOfChar_4cfef_10 (by decide) rfl (fun h10 => ?_) (fun h10 => ?_)
    · exact absurd h10 (nI_ge (by omega) (by decide))
    · refine al0 (n := 14) dJ1_indexOfChar_4cfef_13 rfl ?_
      refine il5 (n := 16) dJ1_indexOfChar_4cfef_14 rfl ?_
      refine k_bald (j := i) (n := 17) dJ1_indexOfChar_4cfef_16 rfl hsi rfl hi3 ?_
      refine il4 (n := 19) dJ1_indexOfChar_4cfef_17 rfl ?_
      refine k_icmp_ne (t := 25) (n := 22) dJ1_indexOfChar_4cfef_19 (by decide) rfl (fun h19 => ?_) (fun h19 => ?_)
      · refine ii5 (n := 28) dJ1_indexOfChar_4cfef_25 rfl (ki1 _) trivial ?_
        rw [nI_1]
        refine k_goto (n := 7) dJ1_indexOfChar_4cfef_28 (by decide) ?_
        refine ih (i + 1) (by omega) (fun j hj => ?_)
        rcases Nat.lt_or_ge j i with q | q
        · exact hno j q
        · rw [show j = i by omega]
          exact fun q2 => h19 ((i2b_eq x hx si hsi i hi3).mpr q2)
      · refine il5 (n := 24) dJ1_indexOfChar_4cfef_22 rfl ?_
        refine k_ireturn (ty := .int) dJ1_indexOfChar_4cfef_24 rfl rfl (Nat.le_refl _) (Nat.le_refl _) ?_
        have hy : nI x = nmB si i := (i2b_eq x hx si hsi i hi3).mp h19
        rcases (show i = 0 ∨ i = 1 ∨ i = 2 by omega) with rfl | rfl | rfl
        · exact ⟨by rw [ixF, if_pos hy]; rfl, rfl⟩
        · exact ⟨by rw [ixF, if_neg (hno 0 (by decide)), if_pos hy]; rfl, rfl⟩
        · exact ⟨by rw [ixF, if_neg (hno 0 (by decide)), if_neg (hno 1 (by decide)), if_pos hy]; rfl, rfl⟩
set_option maxHeartbeats 2000000 in
set_option maxRecDepth 20000 in
theorem j_ioc {si : Nat} (hsi : si < 2) (x : Nat) (hx : x < 256) : Ct E d mJ1_indexOfChar_4cfef 0 0 [.ref (1007 + si), .int (nI x), .int 0, .int (nI 3)] (kJ I) (kR (ixF si x) I) := by
  refine Ct.of (L := [some (.ref (1007 + si)), some (.int (nI x)), some (.int 0), some (.int (nI 3)), none, none]) rfl rfl (Nat.le_of_ble_eq_true rfl) ?_
  refine il1 (n := 1) dJ1_indexOfChar_4cfef_0 rfl ?_
  refine k_i2b (n := 2) dJ1_indexOfChar_4cfef_1 rfl ?_
  refine is4 (n := 4) dJ1_indexOfChar_4cfef_2 rfl trivial ?_
  refine il2 (n := 5) dJ1_indexOfChar_4cfef_4 rfl ?_
  refine is5 (n := 7) dJ1_indexOfChar_4cfef_5 rfl trivial ?_
  exact j_ioc_l hsi x hx 0 3 0 (by omega) (fun j hj => absurd hj (by omega))
set_option maxHeartbeats 2000000 in
set_option maxRecDepth 20000 in
theorem j_io1 {si : Nat} (hd : 1 ≤ d) (hsi : si < 2) (x : Nat) (hx : x < 256) : Ct E d mJ1_indexOf_4cfef 0 0 [.ref (1007 + si), .int (nI x), .int 0, .int (nI 3)] (kJ I) (kR (ixF si x) I) := by
  refine Ct.of (L := [some (.ref (1007 + si)), some (.int (nI x)), some (.int 0), some (.int (nI 3))]) rfl rfl (Nat.le_of_ble_eq_true rfl) ?_
  refine il1 (n := 1) dJ1_indexOf_4cfef_0 rfl ?_
  refine qiJ1_88 (n := 4) dJ1_indexOf_4cfef_1 rfl rfl (Nat.le_of_ble_eq_true rfl) (by omega) (j_canE x hx) (Nat.le_refl _) (Nat.le_refl _) ?_
  refine k_ifb_ne (t := 9) (n := 7) dJ1_indexOf_4cfef_4 (by decide) rfl (fun h4 => ?_) (fun h4 => ?_)
  · refine il2 (n := 10) dJ1_indexOf_4cfef_9 rfl ?_
    refine k_iconst (a := 0) (n := 11) dJ1_indexOf_4cfef_10 rfl rfl ?_
    refine qJ1_92 (n := 14) dJ1_indexOf_4cfef_11 rfl rfl (Nat.le_of_ble_eq_true rfl) (Nat.le_refl _) (Nat.le_refl _) ?_
    rw [show (if (0 : Int32) < 0 then (0 : Int32) else 0) = 0 by decide]
    refine is2 (n := 15) dJ1_indexOf_4cfef_14 rfl trivial ?_
    refine il3 (n := 16) dJ1_indexOf_4cfef_15 rfl ?_
    refine al0 (n := 17) dJ1_indexOf_4cfef_16 rfl ?_
    refine k_blen (n := 18) dJ1_indexOf_4cfef_17 rfl hsi ?_
    refine qJ1_38 (n := 21) dJ1_indexOf_4cfef_18 rfl rfl (Nat.le_of_ble_eq_true rfl) (Nat.le_refl _) (Nat.le_refl _) ?_
    rw [show (if nI 3 < nI 3 then nI 3 else nI 3) = nI 3 by decide]
    refine is3 (n := 22) dJ1_indexOf_4cfef_21 rfl trivial ?_
    refine il2 (n := 23) dJ1_indexOf_4cfef_22 rfl ?_
    refine il3 (n := 24) dJ1_indexOf_4cfef_23 rfl ?_
    refine k_icmp_lt (t := 29) (n := 27) dJ1_indexOf_4cfef_24 (by decide) rfl (fun h24 => ?_) (fun h24 => ?_)
    · refine al0 (n := 30) dJ1_indexOf_4cfef_29 rfl ?_
      refine il1 (n := 31) dJ1_indexOf_4cfef_30 rfl ?_
      refine il2 (n := 32) dJ1_indexOf_4cfef_31 rfl ?_
      refine il3 (n := 33) dJ1_indexOf_4cfef_32 rfl ?_
      refine qiJ1_95 (n := 36) dJ1_indexOf_4cfef_33 rfl rfl (Nat.le_of_ble_eq_true rfl) (by omega) (j_ioc hsi x hx) (Nat.le_refl _) (Nat.le_refl _) ?_
      refine k_ireturn (ty := .int) dJ1_indexOf_4cfef_36 rfl rfl (Nat.le_refl _) (Nat.le_refl _) ?_
      exact ⟨rfl, rfl⟩
    · exact absurd (by decide) h24
  · exact absurd trivial h4
set_option maxHeartbeats 2000000 in
set_option maxRecDepth 20000 in
theorem j_io2 {si : Nat} (hd : 3 ≤ d) (hsi : si < 2) (x : Nat) (hx : x < 256) : Ct E d mJ0_indexOf_7cf53 0 0 [.ref (1005 + si), .int (nI x), .int 0] (kJ I) (kR (ixF si x) I) := by
  refine Ct.of (L := [some (.ref (1005 + si)), some (.int (nI x)), some (.int 0)]) rfl rfl (Nat.le_of_ble_eq_true rfl) ?_
  refine al0 (n := 1) dJ0_indexOf_7cf53_0 rfl ?_
  refine k_invVS (z := mJ0_isLatin1_aae02) (As := []) (n := 4) dJ0_indexOf_7cf53_1 rfl wJ0_isLatin1_aae02 (gwi 509 (by decide +kernel) rfl) (gwi 510 (by decide +kernel) rfl) (gwi 511 (by decide +kernel) rfl) hsi rfl (Nat.le_of_ble_eq_true rfl) (by omega) (Nat.le_refl _) (Nat.le_refl _) (j_latin hsi) (fun v M' hv => kRi hv ?_)
  refine k_if_eq (t := 23) (n := 7) dJ0_indexOf_7cf53_4 (by decide) rfl (fun h4 => ?_) (fun h4 => ?_)
  · exact absurd h4 (by decide)
  · refine al0 (n := 8) dJ0_indexOf_7cf53_7 rfl ?_
    refine k_getfV (n := 11) dJ0_indexOf_7cf53_8 rfl (gwi 1307 (by decide +kernel) rfl) hsi ?_
    refine il1 (n := 12) dJ0_indexOf_7cf53_11 rfl ?_
    refine il2 (n := 13) dJ0_indexOf_7cf53_12 rfl ?_
    refine al0 (n := 14) dJ0_indexOf_7cf53_13 rfl ?_
    refine k_invVS (z := mJ0_length_8abf5) (As := []) (n := 17) dJ0_indexOf_7cf53_14 rfl wJ0_length_8abf5 (gwi 515 (by decide +kernel) rfl) (gwi 516 (by decide +kernel) rfl) (gwi 517 (by decide +kernel) rfl) hsi rfl (Nat.le_of_ble_eq_true rfl) (by omega) (Nat.le_refl _) (Nat.le_refl _) (j_len (by omega) hsi) (fun v M' hv => kRi hv ?_)
    refine qiJ0_637 (n := 20) dJ0_indexOf_7cf53_17 rfl rfl (Nat.le_of_ble_eq_true rfl) (by omega) (j_io1 (by omega) hsi x hx) (Nat.le_refl _) (Nat.le_refl _) ?_
    refine k_goto (n := 36) dJ0_indexOf_7cf53_20 (by decide) ?_
    refine k_ireturn (ty := .int) dJ0_indexOf_7cf53_36 rfl rfl (Nat.le_refl _) (Nat.le_refl _) ?_
    exact ⟨rfl, rfl⟩
set_option maxHeartbeats 2000000 in
set_option maxRecDepth 20000 in
theorem j_io {si : Nat} (hd : 4 ≤ d) (hsi : si < 2) (x : Nat) (hx : x < 256) : Ct E d mJ0_indexOf_0f7a4 0 0 [.ref (1005 + si), .int (nI x)] (kJ I) (kR (ixF si x) I) := by
  refine Ct.of (L := [some (.ref (1005 + si)), some (.int (nI x))]) rfl rfl (Nat.le_of_ble_eq_true rfl) ?_
  refine al0 (n := 1) dJ0_indexOf_0f7a4_0 rfl ?_
  refine il1 (n := 2) dJ0_indexOf_0f7a4_1 rfl ?_
  refine k_iconst (a := 0) (n := 3) dJ0_indexOf_0f7a4_2 rfl rfl ?_
  refine k_invVS (z := mJ0_indexOf_7cf53) (As := [.int (nI x), .int 0]) (n := 6) dJ0_indexOf_0f7a4_3 rfl wJ0_indexOf_7cf53 (gwi 505 (by decide +kernel) rfl) (gwi 506 (by decide +kernel) rfl) (gwi 507 (by decide +kernel) rfl) hsi rfl (Nat.le_of_ble_eq_true rfl) (by omega) (Nat.le_refl _) (Nat.le_refl _) (j_io2 (by omega) hsi x hx) (fun v M' hv => kRi hv ?_)
  refine k_ireturn (ty := .int) dJ0_indexOf_0f7a4_6 rfl rfl (Nat.le_refl _) (Nat.le_refl _) ?_
  exact ⟨rfl, rfl⟩
end C15b

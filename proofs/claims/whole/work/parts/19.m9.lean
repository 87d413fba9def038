section M9
variable {E : kE} {d : Nat} {I : Nat → Nat → Int32} {r : Nat → Int32}
set_option maxHeartbeats 2000000 in
set_option maxRecDepth 20000 in
theorem m_stands_l (hd : 65 ≤ d) (hR : RI r) (Q : Option Value → kM → Prop) (hQ : ∀ K, kJunk I K → ∀ i, i = srF (fun i => stF (passF i r)) 201 0 → Wd E d mX9_stands 0 0 0 0 38 [some (.ref 81), some (.int (nI i))] [] (kJ (kset K 82 (passF i r))) Q) (m : Nat) : ∀ (i : Nat) (J : Nat → Nat → Int32), kJunk I J → i + m = 201 → srF (fun i => stF (passF i r)) m i = srF (fun i => stF (passF i r)) 201 0 → Wd E d mX9_stands 0 0 0 0 14 [some (.ref 81), some (.int (nI i))] [] (kJ (kset J 82 (passF i r))) Q := by
  induction m with
  | zero =>
    intro i J hJ hi hs
    have e : i = 201 := by omega
    subst e
    refine il1 (n := 15) dX9_stands_14 rfl ?_
    refine k_sipush (a := 200) (n := 18) dX9_stands_15 rfl rfl ?_
    refine k_icmp_gt (t := 38) (n := 21) dX9_stands_18 (by decide) rfl (fun h18 => ?_) (fun h18 => ?_)
    · exact hQ J hJ _ hs
    · exact absurd (by decide) h18
  | succ m ih =>
    intro i J hJ hi hs
    refine il1 (n := 15) dX9_stands_14 rfl ?_
    refine k_sipush (a := 200) (n := 18) dX9_stands_15 rfl rfl ?_
    refine k_icmp_gt (t := 38) (n := 21) dX9_stands_18 (by decide) rfl (fun h18 => ?_) (fun h18 => ?_)
    · exact absurd h18 (nI_nlt (show i ≤ 200 by omega) (by decide))
    · refine al0 (n := 22) dX9_stands_21 rfl ?_
      refine qiX9_174 (n := 25) dX9_stands_22 rfl rfl (Nat.le_of_ble_eq_true rfl) (by omega) rfl (m_isStanding (RI_pass hR i)) (Nat.le_refl _) (Nat.le_refl _) ?_
      refine k_ifb_ne (t := 38) (n := 28) dX9_stands_25 (by decide) rfl (fun h25 => ?_) (fun h25 => ?_)
      · exact hQ J hJ i (by rw [← hs, srF, if_pos h25])
      · refine al0 (n := 29) dX9_stands_28 rfl ?_
        refine qX9_182 (n := 32) dX9_stands_29 rfl rfl (Nat.le_of_ble_eq_true rfl) (by omega) (Nat.le_refl _) (Nat.le_refl _) rfl (m_oneBeat (by omega) (RI_pass hR i)) ?_
        rintro _ _ ⟨J1, rfl, rfl, hJ1⟩
        dsimp only [Option.toList, List.nil_append, Nat.add_zero]
        refine ii1 (n := 35) dX9_stands_32 rfl (ki1 _) trivial ?_
        rw [nI_1]
        refine k_goto (n := 14) dX9_stands_35 (by decide) ?_
        exact ih (i + 1) J1 (hJ.tr hJ1) (by omega) (by rw [← hs, srF, if_neg h25])
def s_stands (r : Nat → Int32) : sT := if nI (srF (fun i => stF (passF i r)) 201 0) ≤ 200 then (nI (srF (fun i => stF (passF i r)) 201 0), r, 0) else sN r
set_option maxHeartbeats 2000000 in
set_option maxRecDepth 20000 in
theorem m_stands (hd : 66 ≤ d) (hR : RI r)  : Ct E d mX9_stands 0 0 [.ref 81] (kJ (kset I 82 r)) (kU I (s_stands r)) := by
  refine Ct.of (L := [some (.ref 81), none]) rfl rfl (Nat.le_of_ble_eq_true rfl) ?_
  refine al0 (n := 1) dX9_stands_0 rfl ?_
  refine al0 (n := 2) dX9_stands_1 rfl ?_
  refine gX9_7 (n := 5) dX9_stands_2 rfl rfl rfl rfl ?_
  refine al0 (n := 6) dX9_stands_5 rfl ?_
  refine gX9_16 (n := 9) dX9_stands_6 rfl rfl rfl rfl ?_
  refine qiX9_163 (n := 12) dX9_stands_9 rfl rfl (Nat.le_of_ble_eq_true rfl) (by omega) rfl (m_save (b := 84) rfl (by decide)) (Nat.le_refl _) (Nat.le_refl _) ?_
  refine k_iconst (a := 0) (n := 13) dX9_stands_12 rfl rfl ?_
  refine is1 (n := 14) dX9_stands_13 rfl trivial ?_
  refine m_stands_l (by omega) hR _ (fun K hK i hi => ?_) 201 0 (kset I 84 (svF r (I 84))) (kJunk.rf _) (by omega) rfl
  refine al0 (n := 39) dX9_stands_38 rfl ?_
  refine al0 (n := 40) dX9_stands_39 rfl ?_
  refine gX9_16 (n := 43) dX9_stands_40 rfl rfl rfl rfl ?_
  refine al0 (n := 44) dX9_stands_43 rfl ?_
  refine gX9_7 (n := 47) dX9_stands_44 rfl rfl rfl rfl ?_
  refine qiX9_163 (n := 50) dX9_stands_47 rfl rfl (Nat.le_of_ble_eq_true rfl) (by omega) rfl (m_back (b := 84) (r := r) rfl (by decide) (sv_at (Or.inl rfl) hK) (fun j hj => hi_pass hR hj i)) (Nat.le_refl _) (Nat.le_refl _) ?_
  refine il1 (n := 51) dX9_stands_50 rfl ?_
  refine k_sipush (a := 200) (n := 54) dX9_stands_51 rfl rfl ?_
  rw [hi]
  refine k_icmp_le (t := 66) (n := 57) dX9_stands_54 (by decide) rfl (fun h54 => ?_) (fun h54 => ?_)
  · refine il1 (n := 67) dX9_stands_66 rfl ?_
    refine k_ireturn (ty := .int) dX9_stands_67 rfl rfl (Nat.le_refl _) (Nat.le_refl _) ?_
    exact ⟨K, by simp only [s_stands, sB, sN, if_pos h54], by simp only [s_stands, sB, sN, ke0, ke2, if_pos h54], sv_jk (Or.inl rfl) hK⟩
  · refine al0 (n := 58) dX9_stands_57 rfl ?_
    refine cX9_199 (n := 60) dX9_stands_58 rfl rfl ?_
    refine qiX9_46 (n := 63) dX9_stands_60 rfl rfl (Nat.le_of_ble_eq_true rfl) (by omega) rfl (m_errs 2 _ (by decide) rfl) (Nat.le_refl _) (Nat.le_refl _) ?_
    refine k_goto (n := 67) dX9_stands_63 (by decide) ?_
    refine k_ireturn (ty := .int) dX9_stands_67 rfl rfl (Nat.le_refl _) (Nat.le_refl _) ?_
    exact ⟨K, by simp only [s_stands, sB, sN, if_neg h54], by simp only [s_stands, sB, sN, ke0, ke2, if_neg h54], sv_jk (Or.inl rfl) hK⟩
def mstW (r : Nat → Int32) : Nat → Int32
  | 0 => 0
  | n + 1 => if r (13 + n) ≤ mstW r n then mstW r n else r (13 + n)
def sPl (r : Nat → Int32) : Nat := (r 3).toNatClampNeg
set_option maxHeartbeats 2000000 in
set_option maxRecDepth 20000 in
theorem m_mostWorn_l (c : Nat) (hc : r 3 = nI c) (h8 : c ≤ 8) (m : Nat) : ∀ (i : Nat), i + m = c → Wd E d mX9_mostWorn 0 0 0 0 4 [some (.ref 81), some (.int (mstW r i)), some (.int (nI i))] [] (kJ (kset I 82 r)) (kR (mstW r c) (kset I 82 r)) := by
  induction m with
  | zero =>
    intro i hi
    have e : i = c := by omega
    subst e
    refine il2 (n := 5) dX9_mostWorn_4 rfl ?_
    refine al0 (n := 6) dX9_mostWorn_5 rfl ?_
    refine gX9_7 (n := 9) dX9_mostWorn_6 rfl rfl rfl rfl ?_
    refine k_iconst (a := 3) (n := 10) dX9_mostWorn_9 rfl rfl ?_
    refine js_iald (j := 3) (n := 11) dX9_mostWorn_10 rfl rfl rfl (by decide) (by decide) ?_
    refine k_icmp_ge (t := 47) (n := 14) dX9_mostWorn_11 (by decide) rfl (fun h11 => ?_) (fun h11 => ?_)
    · refine il1 (n := 48) dX9_mostWorn_47 rfl ?_
      refine k_ireturn (ty := .int) dX9_mostWorn_48 rfl rfl (Nat.le_refl _) (Nat.le_refl _) ?_
      exact ⟨rfl, rfl⟩
    · exact absurd (by rw [hc]; exact Int32.le_refl _) h11
  | succ m ih =>
    intro i hi
    refine il2 (n := 5) dX9_mostWorn_4 rfl ?_
    refine al0 (n := 6) dX9_mostWorn_5 rfl ?_
    refine gX9_7 (n := 9) dX9_mostWorn_6 rfl rfl rfl rfl ?_
    refine k_iconst (a := 3) (n := 10) dX9_mostWorn_9 rfl rfl ?_
    refine js_iald (j := 3) (n := 11) dX9_mostWorn_10 rfl rfl rfl (by decide) (by decide) ?_
    refine k_icmp_ge (t := 47) (n := 14) dX9_mostWorn_11 (by decide) rfl (fun h11 => ?_) (fun h11 => ?_)
    · exact absurd h11 (by rw [hc]; exact nI_ge (by omega) (by omega))
    · refine al0 (n := 15) dX9_mostWorn_14 rfl ?_
      refine gX9_7 (n := 18) dX9_mostWorn_15 rfl rfl rfl rfl ?_
      refine k_bipush (a := 13) (n := 20) dX9_mostWorn_18 rfl rfl ?_
      refine il2 (n := 21) dX9_mostWorn_20 rfl ?_
      refine k_iadd (n := 22) dX9_mostWorn_21 rfl ?_
      refine js_iald (j := 13 + i) (n := 23) dX9_mostWorn_22 rfl rfl (by show nI 13 + nI i = _; rw [nI_add]) (by omega) (by decide) ?_
      refine il1 (n := 24) dX9_mostWorn_23 rfl ?_
      refine k_icmp_le (t := 39) (n := 27) dX9_mostWorn_24 (by decide) rfl (fun h24 => ?_) (fun h24 => ?_)
      · refine il1 (n := 40) dX9_mostWorn_39 rfl ?_
        refine is1 (n := 41) dX9_mostWorn_40 rfl trivial ?_
        refine ii2 (n := 44) dX9_mostWorn_41 rfl (ki1 _) trivial ?_
        rw [nI_1]
        refine k_goto (n := 4) dX9_mostWorn_44 (by decide) ?_
        have h := ih (i + 1) (by omega)
        simp only [mstW, if_neg h11, if_pos h24] at h
        exact h
      · refine al0 (n := 28) dX9_mostWorn_27 rfl ?_
        refine gX9_7 (n := 31) dX9_mostWorn_28 rfl rfl rfl rfl ?_
        refine k_bipush (a := 13) (n := 33) dX9_mostWorn_31 rfl rfl ?_
        refine il2 (n := 34) dX9_mostWorn_33 rfl ?_
        refine k_iadd (n := 35) dX9_mostWorn_34 rfl ?_
        refine js_iald (j := 13 + i) (n := 36) dX9_mostWorn_35 rfl rfl (by show nI 13 + nI i = _; rw [nI_add]) (by omega) (by decide) ?_
        refine k_goto (n := 40) dX9_mostWorn_36 (by decide) ?_
        refine is1 (n := 41) dX9_mostWorn_40 rfl trivial ?_
        refine ii2 (n := 44) dX9_mostWorn_41 rfl (ki1 _) trivial ?_
        rw [nI_1]
        refine k_goto (n := 4) dX9_mostWorn_44 (by decide) ?_
        have h := ih (i + 1) (by omega)
        simp only [mstW, if_neg h11, if_neg h24] at h
        exact h
set_option maxHeartbeats 2000000 in
set_option maxRecDepth 20000 in
theorem m_mostWorn (hR : RI r) : Ct E d mX9_mostWorn 0 0 [.ref 81] (kJ (kset I 82 r)) (kR (mstW r (sPl r)) (kset I 82 r)) := by
  obtain ⟨-, -, -, ⟨c, hc, h2, h8⟩, -⟩ := hR
  have e : sPl r = c := by unfold sPl; rw [hc]; exact kcl (by omega)
  rw [e]
  refine Ct.of (L := [some (.ref 81), none, none]) rfl rfl (Nat.le_of_ble_eq_true rfl) ?_
  refine k_iconst (a := 0) (n := 1) dX9_mostWorn_0 rfl rfl ?_
  refine is1 (n := 2) dX9_mostWorn_1 rfl trivial ?_
  refine k_iconst (a := 0) (n := 3) dX9_mostWorn_2 rfl rfl ?_
  refine is2 (n := 4) dX9_mostWorn_3 rfl trivial ?_
  exact m_mostWorn_l c hc h8 c 0 (by omega)
set_option maxHeartbeats 2000000 in
set_option maxRecDepth 20000 in
theorem m_parts_l (hd : 65 ≤ d) (hR : RI r) (v : Int32) (Q : Option Value → kM → Prop) (hQ : ∀ K, kJunk I K → ∀ i, i = srF (fun i => v ≤ mstW (passF i r) (sPl (passF i r))) 201 0 → Wd E d mX9_parts 0 0 0 0 57 [some (.ref 81), some (.int v), some (.int (nI i))] [] (kJ (kset K 82 (passF i r))) Q) (m : Nat) : ∀ (i : Nat) (J : Nat → Nat → Int32), kJunk I J → i + m = 201 → srF (fun i => v ≤ mstW (passF i r) (sPl (passF i r))) m i = srF (fun i => v ≤ mstW (passF i r) (sPl (passF i r))) 201 0 → Wd E d mX9_parts 0 0 0 0 32 [some (.ref 81), some (.int v), some (.int (nI i))] [] (kJ (kset J 82 (passF i r))) Q := by
  induction m with
  | zero =>
    intro i J hJ hi hs
    have e : i = 201 := by omega
    subst e
    refine il2 (n := 33) dX9_parts_32 rfl ?_
    refine k_sipush (a := 200) (n := 36) dX9_parts_33 rfl rfl ?_
    refine k_icmp_gt (t := 57) (n := 39) dX9_parts_36 (by decide) rfl (fun h36 => ?_) (fun h36 => ?_)
    · exact hQ J hJ _ hs
    · exact absurd (by decide) h36
  | succ m ih =>
    intro i J hJ hi hs
    refine il2 (n := 33) dX9_parts_32 rfl ?_
    refine k_sipush (a := 200) (n := 36) dX9_parts_33 rfl rfl ?_
    refine k_icmp_gt (t := 57) (n := 39) dX9_parts_36 (by decide) rfl (fun h36 => ?_) (fun h36 => ?_)
    · exact absurd h36 (nI_nlt (show i ≤ 200 by omega) (by decide))
    · refine al0 (n := 40) dX9_parts_39 rfl ?_
      refine qiX9_203 (n := 43) dX9_parts_40 rfl rfl (Nat.le_of_ble_eq_true rfl) (by omega) rfl (m_mostWorn (RI_pass hR i)) (Nat.le_refl _) (Nat.le_refl _) ?_
      refine il1 (n := 44) dX9_parts_43 rfl ?_
      refine k_icmp_ge (t := 57) (n := 47) dX9_parts_44 (by decide) rfl (fun h44 => ?_) (fun h44 => ?_)
      · exact hQ J hJ i (by rw [← hs, srF, if_pos h44])
      · refine al0 (n := 48) dX9_parts_47 rfl ?_
        refine qX9_182 (n := 51) dX9_parts_48 rfl rfl (Nat.le_of_ble_eq_true rfl) (by omega) (Nat.le_refl _) (Nat.le_refl _) rfl (m_oneBeat (by omega) (RI_pass hR i)) ?_
        rintro _ _ ⟨J1, rfl, rfl, hJ1⟩
        dsimp only [Option.toList, List.nil_append, Nat.add_zero]
        refine ii2 (n := 54) dX9_parts_51 rfl (ki1 _) trivial ?_
        rw [nI_1]
        refine k_goto (n := 32) dX9_parts_54 (by decide) ?_
        exact ih (i + 1) J1 (hJ.tr hJ1) (by omega) (by rw [← hs, srF, if_neg h44])
def s_parts (r : Nat → Int32) (v : Int32) : sT := if 0 ≤ v ∧ v ≤ 999 then if nI (srF (fun i => v ≤ mstW (passF i r) (sPl (passF i r))) 201 0) ≤ 200 then (nI (srF (fun i => v ≤ mstW (passF i r) (sPl (passF i r))) 201 0), r, 0) else sN r else sB r
set_option maxHeartbeats 2000000 in
set_option maxRecDepth 20000 in
theorem m_parts (hd : 66 ≤ d) (hR : RI r) (v : Int32) : Ct E d mX9_parts 0 0 [.ref 81, .int v] (kJ (kset I 82 r)) (kU I (s_parts r v)) := by
  refine Ct.of (L := [some (.ref 81), some (.int v), none]) rfl rfl (Nat.le_of_ble_eq_true rfl) ?_
  refine il1 (n := 1) dX9_parts_0 rfl ?_
  refine k_iconst (a := 0) (n := 2) dX9_parts_1 rfl rfl ?_
  refine k_sipush (a := 999) (n := 5) dX9_parts_2 rfl rfl ?_
  refine qiX9_41 (n := 8) dX9_parts_5 rfl rfl (Nat.le_of_ble_eq_true rfl) (by omega) (m_in _ _ _) (Nat.le_refl _) (Nat.le_refl _) ?_
  refine k_ifb_ne (t := 18) (n := 11) dX9_parts_8 (by decide) rfl (fun h8 => ?_) (fun h8 => ?_)
  · refine al0 (n := 19) dX9_parts_18 rfl ?_
    refine al0 (n := 20) dX9_parts_19 rfl ?_
    refine gX9_7 (n := 23) dX9_parts_20 rfl rfl rfl rfl ?_
    refine al0 (n := 24) dX9_parts_23 rfl ?_
    refine gX9_16 (n := 27) dX9_parts_24 rfl rfl rfl rfl ?_
    refine qiX9_163 (n := 30) dX9_parts_27 rfl rfl (Nat.le_of_ble_eq_true rfl) (by omega) rfl (m_save (b := 84) rfl (by decide)) (Nat.le_refl _) (Nat.le_refl _) ?_
    refine k_iconst (a := 0) (n := 31) dX9_parts_30 rfl rfl ?_
    refine is2 (n := 32) dX9_parts_31 rfl trivial ?_
    refine m_parts_l (by omega) hR v _ (fun K hK i hi => ?_) 201 0 (kset I 84 (svF r (I 84))) (kJunk.rf _) (by omega) rfl
    refine al0 (n := 58) dX9_parts_57 rfl ?_
    refine al0 (n := 59) dX9_parts_58 rfl ?_
    refine gX9_16 (n := 62) dX9_parts_59 rfl rfl rfl rfl ?_
    refine al0 (n := 63) dX9_parts_62 rfl ?_
    refine gX9_7 (n := 66) dX9_parts_63 rfl rfl rfl rfl ?_
    refine qiX9_163 (n := 69) dX9_parts_66 rfl rfl (Nat.le_of_ble_eq_true rfl) (by omega) rfl (m_back (b := 84) (r := r) rfl (by decide) (sv_at (Or.inl rfl) hK) (fun j hj => hi_pass hR hj i)) (Nat.le_refl _) (Nat.le_refl _) ?_
    refine il2 (n := 70) dX9_parts_69 rfl ?_
    refine k_sipush (a := 200) (n := 73) dX9_parts_70 rfl rfl ?_
    rw [hi]
    refine k_icmp_le (t := 85) (n := 76) dX9_parts_73 (by decide) rfl (fun h73 => ?_) (fun h73 => ?_)
    · refine il2 (n := 86) dX9_parts_85 rfl ?_
      refine k_ireturn (ty := .int) dX9_parts_86 rfl rfl (Nat.le_refl _) (Nat.le_refl _) ?_
      exact ⟨K, by simp only [s_parts, sB, sN, if_pos h8, if_pos h73], by simp only [s_parts, sB, sN, ke0, ke2, if_pos h8, if_pos h73], sv_jk (Or.inl rfl) hK⟩
    · refine al0 (n := 77) dX9_parts_76 rfl ?_
      refine cX9_199 (n := 79) dX9_parts_77 rfl rfl ?_
      refine qiX9_46 (n := 82) dX9_parts_79 rfl rfl (Nat.le_of_ble_eq_true rfl) (by omega) rfl (m_errs 2 _ (by decide) rfl) (Nat.le_refl _) (Nat.le_refl _) ?_
      refine k_goto (n := 86) dX9_parts_82 (by decide) ?_
      refine k_ireturn (ty := .int) dX9_parts_86 rfl rfl (Nat.le_refl _) (Nat.le_refl _) ?_
      exact ⟨K, by simp only [s_parts, sB, sN, if_pos h8, if_neg h73], by simp only [s_parts, sB, sN, ke0, ke2, if_pos h8, if_neg h73], sv_jk (Or.inl rfl) hK⟩
  · refine al0 (n := 12) dX9_parts_11 rfl ?_
    refine cX9_45 (n := 14) dX9_parts_12 rfl rfl ?_
    refine qiX9_46 (n := 17) dX9_parts_14 rfl rfl (Nat.le_of_ble_eq_true rfl) (by omega) rfl (m_errs 1 _ (by decide) rfl) (Nat.le_refl _) (Nat.le_refl _) ?_
    refine k_ireturn (ty := .int) dX9_parts_17 rfl rfl (Nat.le_refl _) (Nat.le_refl _) ?_
    first | exact ⟨J1, by simp only [s_parts, sB, sN, sS, sF, if_neg h8], by simp only [s_parts, sB, sN, sS, sF, ke0, ke1, ke2, ke3, ke4, if_neg h8], hJ1.up⟩ | exact ⟨I, by simp only [s_parts, sB, sN, sS, sF, if_neg h8], by simp only [s_parts, sB, sN, sS, sF, ke0, ke1, ke2, ke3, ke4, if_neg h8], kJnk.rf I⟩
def bgF (r : Nat → Int32) (j k : Nat) : Nat → Int32 :=
  let q := passF k (upd r 12 (r 12 &&& (((1 : Int32) <<< (nI j &&& 31)) ^^^ (-1))))
  passF (200 - k) (upd q 12 (q 12 ||| ((1 : Int32) <<< (nI j &&& 31))))
def sRh (r : Nat → Int32) : Nat := (r 1).toNatClampNeg
def bgP (r : Nat → Int32) (j : Nat) : Nat → Prop := fun k => bgF r j k (29 + 7 * j + 5) = 2
abbrev bgS (r : Nat → Int32) (j : Nat) (m i : Nat) : Nat := srF (fun k => bgF r j k (29 + 7 * j + 5) = 2) m i
def s_begin (r : Nat → Int32) (v : Int32) : sT := if 0 ≤ v ∧ v ≤ r 9 - 1 then if r (29 + 7 * v.toNatClampNeg + 5) = 0 then if bgS r v.toNatClampNeg (sRh r) 0 < sRh r then (nI (bgS r v.toNatClampNeg (sRh r) 0), r, 0) else sN r else sS r else sB r
theorem srF_le (P : Nat → Prop) [DecidablePred P] : ∀ m i, i ≤ srF P m i ∧ srF P m i ≤ i + m
  | 0, i => ⟨Nat.le_refl _, Nat.le_refl _⟩
  | m + 1, i => by
    unfold srF
    split
    · omega
    · have := srF_le P m (i + 1)
      omega
set_option maxHeartbeats 2000000 in
set_option maxRecDepth 20000 in
theorem m_begin_l (hd : 66 ≤ d) (hR : RI r) (j : Nat) (hj : j < 8) (c : Nat) (hc : r 1 = nI c) (h16 : c ≤ 16) (Q : Option Value → kM → Prop) (hQ : ∀ K, kJnk I K → ∀ i, i = bgS r j c 0 → ∀ (f : Prop) [Decidable f], (f ↔ i < c) → Wd E d mX9_begin 0 0 0 0 146 [some (.ref 81), some (.int (nI j)), some (.int (nI i)), some (.int (kb f))] [] (kJ (kset K 82 r)) Q) (m : Nat) : ∀ (i : Nat) (J : Nat → Nat → Int32), kJnk I J → (∀ x, x < 255 → J 84 x = r x) → i + m = c → bgS r j m i = bgS r j c 0 → Wd E d mX9_begin 0 0 0 0 47 [some (.ref 81), some (.int (nI j)), some (.int (nI i)), some (.int 0)] [] (kJ (kset J 82 r)) Q := by
  induction m with
  | zero =>
    intro i J hJ hT hi hs
    have e : i = c := by omega
    subst e
    refine il2 (n := 48) dX9_begin_47 rfl ?_
    refine al0 (n := 49) dX9_begin_48 rfl ?_
    refine gX9_16 (n := 52) dX9_begin_49 rfl rfl rfl rfl ?_
    refine k_iconst (a := 1) (n := 53) dX9_begin_52 rfl rfl ?_
    refine j_iald (j := 1) (n := 54) dX9_begin_53 rfl rfl rfl (by decide) (by decide) ?_
    try rw [kset_ne _ _ (show (84 : Nat) ≠ 82 by decide)]
    rw [hT 1 (by decide), hc]
    refine k_icmp_ge (t := 146) (n := 57) dX9_begin_54 (by decide) rfl (fun h54 => ?_) (fun h54 => ?_)
    · exact hQ J hJ i hs False (by simp)
    · exact absurd (Int32.le_refl _) h54
  | succ m ih =>
    intro i J hJ hT hi hs
    refine il2 (n := 48) dX9_begin_47 rfl ?_
    refine al0 (n := 49) dX9_begin_48 rfl ?_
    refine gX9_16 (n := 52) dX9_begin_49 rfl rfl rfl rfl ?_
    refine k_iconst (a := 1) (n := 53) dX9_begin_52 rfl rfl ?_
    refine j_iald (j := 1) (n := 54) dX9_begin_53 rfl rfl rfl (by decide) (by decide) ?_
    try rw [kset_ne _ _ (show (84 : Nat) ≠ 82 by decide)]
    rw [hT 1 (by decide), hc]
    refine k_icmp_ge (t := 146) (n := 57) dX9_begin_54 (by decide) rfl (fun h54 => ?_) (fun h54 => ?_)
    · exact absurd h54 (nI_ge (by omega) (by omega))
    · refine il3 (n := 58) dX9_begin_57 rfl ?_
      refine k_if_ne (t := 146) (n := 61) dX9_begin_58 (by decide) rfl (fun h58 => ?_) (fun h58 => ?_)
      · exact absurd rfl h58
      · refine al0 (n := 62) dX9_begin_61 rfl ?_
        refine gX9_7 (n := 65) dX9_begin_62 rfl rfl rfl rfl ?_
        refine k_bipush (a := 12) (n := 67) dX9_begin_65 rfl rfl ?_
        refine k_dup2 (n := 68) dX9_begin_67 rfl rfl rfl ?_
        refine js_iald (j := 12) (n := 69) dX9_begin_68 rfl rfl rfl (by decide) (by decide) ?_
        refine k_iconst (a := 1) (n := 70) dX9_begin_69 rfl rfl ?_
        refine il1 (n := 71) dX9_begin_70 rfl ?_
        refine k_ishl (n := 72) dX9_begin_71 rfl ?_
        refine k_iconst (a := (-1)) (n := 73) dX9_begin_72 rfl rfl ?_
        refine k_ixor (n := 74) dX9_begin_73 rfl ?_
        refine k_iand (n := 75) dX9_begin_74 rfl ?_
        refine js_iast (j := 12) (n := 76) dX9_begin_75 rfl rfl rfl (by decide) (by decide) ?_
        refine al0 (n := 77) dX9_begin_76 rfl ?_
        refine il2 (n := 78) dX9_begin_77 rfl ?_
        refine qX9_186 (n := 81) dX9_begin_78 rfl rfl (Nat.le_of_ble_eq_true rfl) (by omega) (Nat.le_refl _) (Nat.le_refl _) rfl (m_passes (by omega) (RI_c hR (by omega) _) i (by omega)) ?_
        rintro _ _ ⟨J1, rfl, rfl, hJ1⟩
        dsimp only [Option.toList, List.nil_append, Nat.add_zero]
        refine al0 (n := 82) dX9_begin_81 rfl ?_
        refine gX9_7 (n := 85) dX9_begin_82 rfl rfl rfl rfl ?_
        refine k_bipush (a := 12) (n := 87) dX9_begin_85 rfl rfl ?_
        refine k_dup2 (n := 88) dX9_begin_87 rfl rfl rfl ?_
        refine js_iald (j := 12) (n := 89) dX9_begin_88 rfl rfl rfl (by decide) (by decide) ?_
        refine k_iconst (a := 1) (n := 90) dX9_begin_89 rfl rfl ?_
        refine il1 (n := 91) dX9_begin_90 rfl ?_
        refine k_ishl (n := 92) dX9_begin_91 rfl ?_
        refine k_ior (n := 93) dX9_begin_92 rfl ?_
        refine js_iast (j := 12) (n := 94) dX9_begin_93 rfl rfl rfl (by decide) (by decide) ?_
        refine al0 (n := 95) dX9_begin_94 rfl ?_
        refine k_sipush (a := 200) (n := 98) dX9_begin_95 rfl rfl ?_
        refine il2 (n := 99) dX9_begin_98 rfl ?_
        refine k_isub (n := 100) dX9_begin_99 rfl ?_
        rw [show (200 : Int32) - nI i = nI (200 - i) from pk_sub (a := 200) (b := i) (by omega)]
        refine qX9_186 (n := 103) dX9_begin_100 rfl rfl (Nat.le_of_ble_eq_true rfl) (by omega) (Nat.le_refl _) (Nat.le_refl _) rfl (m_passes (by omega) (RI_c (RI_pass (RI_c hR (by omega) _) i) (by omega) _) (200 - i) (by omega)) ?_
        rintro _ _ ⟨J2, rfl, rfl, hJ2⟩
        dsimp only [Option.toList, List.nil_append, Nat.add_zero]
        refine al0 (n := 104) dX9_begin_103 rfl ?_
        refine il1 (n := 105) dX9_begin_104 rfl ?_
        refine k_iconst (a := 5) (n := 106) dX9_begin_105 rfl rfl ?_
        refine qiX9_80 (n := 109) dX9_begin_106 rfl rfl (Nat.le_of_ble_eq_true rfl) (by omega) rfl (m_its j 5 hj (by decide)) (Nat.le_refl _) (Nat.le_refl _) ?_
        refine k_iconst (a := 2) (n := 110) dX9_begin_109 rfl rfl ?_
        refine k_icmp_ne (t := 117) (n := 113) dX9_begin_110 (by decide) rfl (fun h110 => ?_) (fun h110 => ?_)
        · refine k_iconst (a := 0) (n := 118) dX9_begin_117 rfl rfl ?_
          refine is3 (n := 119) dX9_begin_118 rfl trivial ?_
          refine al0 (n := 120) dX9_begin_119 rfl ?_
          refine al0 (n := 121) dX9_begin_120 rfl ?_
          refine gX9_16 (n := 124) dX9_begin_121 rfl rfl rfl rfl ?_
          refine al0 (n := 125) dX9_begin_124 rfl ?_
          refine gX9_7 (n := 128) dX9_begin_125 rfl rfl rfl rfl ?_
          refine qiX9_163 (n := 131) dX9_begin_128 rfl rfl (Nat.le_of_ble_eq_true rfl) (by omega) rfl (m_back (b := 84) (r := r) rfl (by decide) (fun x hx => by rw [hJ2.1 84 (by decide) (by decide), hJ1.1 84 (by decide) (by decide)]; exact hT x hx) (fun x hx => (hi_pass (RI_c (RI_pass (RI_c hR (by omega) _) i) (by omega) _) hx _).trans ((pk_un (by omega)).trans ((hi_pass (RI_c hR (by omega) _) hx i).trans (pk_un (by omega)))))) (Nat.le_refl _) (Nat.le_refl _) ?_
          refine il2 (n := 132) dX9_begin_131 rfl ?_
          refine il3 (n := 133) dX9_begin_132 rfl ?_
          refine k_if_eq (t := 140) (n := 136) dX9_begin_133 (by decide) rfl (fun h133 => ?_) (fun h133 => ?_)
          · refine k_iconst (a := 1) (n := 141) dX9_begin_140 rfl rfl ?_
            refine k_iadd (n := 142) dX9_begin_141 rfl ?_
            refine is2 (n := 143) dX9_begin_142 rfl trivial ?_
            refine k_goto (n := 47) dX9_begin_143 (by decide) ?_
            first
              | (exfalso; revert h133; decide)
              | (have hJ3 := (hJ.tr hJ1.up).tr hJ2.up
                 have hT3 : ∀ x, x < 255 → J2 84 x = r x := fun x hx => by rw [hJ2.1 84 (by decide) (by decide), hJ1.1 84 (by decide) (by decide)]; exact hT x hx
                 rw [show nI i + 1 = nI (i + 1) from nI_1 i]
                 exact ih (i + 1) J2 hJ3 hT3 (by omega) (by have h := hs; simp only [bgS, srF, if_neg (show ¬ bgF r j i (29 + 7 * j + 5) = 2 from h110)] at h; exact h))
              | (have hJ3 := (hJ.tr hJ1.up).tr hJ2.up
                 have hT3 : ∀ x, x < 255 → J2 84 x = r x := fun x hx => by rw [hJ2.1 84 (by decide) (by decide), hJ1.1 84 (by decide) (by decide)]; exact hT x hx
                 rw [show nI i + 0 = nI i from Int32.add_zero _]
                 refine il2 (n := 48) dX9_begin_47 rfl ?_
                 refine al0 (n := 49) dX9_begin_48 rfl ?_
                 refine gX9_16 (n := 52) dX9_begin_49 rfl rfl rfl rfl ?_
                 refine k_iconst (a := 1) (n := 53) dX9_begin_52 rfl rfl ?_
                 refine j_iald (j := 1) (n := 54) dX9_begin_53 rfl rfl rfl (by decide) (by decide) ?_
                 have e := hQ J2 hJ3 i (by have h := hs; simp only [bgS, srF, if_pos (show bgF r j i (29 + 7 * j + 5) = 2 from h110)] at h; exact h) True (by simp; omega)
                 rw [kb_t trivial] at e
                 refine k_icmp_ge (t := 146) (n := 57) dX9_begin_54 (by decide) rfl (fun _ => e) (fun _ => ?_)
                 refine il3 (n := 58) dX9_begin_57 rfl ?_
                 exact k_if_ne (t := 146) (n := 61) dX9_begin_58 (by decide) rfl (fun _ => e) (fun h => absurd h (by decide)))
          · refine k_iconst (a := 0) (n := 137) dX9_begin_136 rfl rfl ?_
            refine k_goto (n := 141) dX9_begin_137 (by decide) ?_
            refine k_iadd (n := 142) dX9_begin_141 rfl ?_
            refine is2 (n := 143) dX9_begin_142 rfl trivial ?_
            refine k_goto (n := 47) dX9_begin_143 (by decide) ?_
            first
              | (exfalso; revert h133; decide)
              | (have hJ3 := (hJ.tr hJ1.up).tr hJ2.up
                 have hT3 : ∀ x, x < 255 → J2 84 x = r x := fun x hx => by rw [hJ2.1 84 (by decide) (by decide), hJ1.1 84 (by decide) (by decide)]; exact hT x hx
                 rw [show nI i + 1 = nI (i + 1) from nI_1 i]
                 exact ih (i + 1) J2 hJ3 hT3 (by omega) (by have h := hs; simp only [bgS, srF, if_neg (show ¬ bgF r j i (29 + 7 * j + 5) = 2 from h110)] at h; exact h))
              | (have hJ3 := (hJ.tr hJ1.up).tr hJ2.up
                 have hT3 : ∀ x, x < 255 → J2 84 x = r x := fun x hx => by rw [hJ2.1 84 (by decide) (by decide), hJ1.1 84 (by decide) (by decide)]; exact hT x hx
                 rw [show nI i + 0 = nI i from Int32.add_zero _]
                 refine il2 (n := 48) dX9_begin_47 rfl ?_
                 refine al0 (n := 49) dX9_begin_48 rfl ?_
                 refine gX9_16 (n := 52) dX9_begin_49 rfl rfl rfl rfl ?_
                 refine k_iconst (a := 1) (n := 53) dX9_begin_52 rfl rfl ?_
                 refine j_iald (j := 1) (n := 54) dX9_begin_53 rfl rfl rfl (by decide) (by decide) ?_
                 have e := hQ J2 hJ3 i (by have h := hs; simp only [bgS, srF, if_pos (show bgF r j i (29 + 7 * j + 5) = 2 from h110)] at h; exact h) True (by simp; omega)
                 rw [kb_t trivial] at e
                 refine k_icmp_ge (t := 146) (n := 57) dX9_begin_54 (by decide) rfl (fun _ => e) (fun _ => ?_)
                 refine il3 (n := 58) dX9_begin_57 rfl ?_
                 exact k_if_ne (t := 146) (n := 61) dX9_begin_58 (by decide) rfl (fun _ => e) (fun h => absurd h (by decide)))
        · refine k_iconst (a := 1) (n := 114) dX9_begin_113 rfl rfl ?_
          refine k_goto (n := 118) dX9_begin_114 (by decide) ?_
          refine is3 (n := 119) dX9_begin_118 rfl trivial ?_
          refine al0 (n := 120) dX9_begin_119 rfl ?_
          refine al0 (n := 121) dX9_begin_120 rfl ?_
          refine gX9_16 (n := 124) dX9_begin_121 rfl rfl rfl rfl ?_
          refine al0 (n := 125) dX9_begin_124 rfl ?_
          refine gX9_7 (n := 128) dX9_begin_125 rfl rfl rfl rfl ?_
          refine qiX9_163 (n := 131) dX9_begin_128 rfl rfl (Nat.le_of_ble_eq_true rfl) (by omega) rfl (m_back (b := 84) (r := r) rfl (by decide) (fun x hx => by rw [hJ2.1 84 (by decide) (by decide), hJ1.1 84 (by decide) (by decide)]; exact hT x hx) (fun x hx => (hi_pass (RI_c (RI_pass (RI_c hR (by omega) _) i) (by omega) _) hx _).trans ((pk_un (by omega)).trans ((hi_pass (RI_c hR (by omega) _) hx i).trans (pk_un (by omega)))))) (Nat.le_refl _) (Nat.le_refl _) ?_
          refine il2 (n := 132) dX9_begin_131 rfl ?_
          refine il3 (n := 133) dX9_begin_132 rfl ?_
          refine k_if_eq (t := 140) (n := 136) dX9_begin_133 (by decide) rfl (fun h133 => ?_) (fun h133 => ?_)
          · refine k_iconst (a := 1) (n := 141) dX9_begin_140 rfl rfl ?_
            refine k_iadd (n := 142) dX9_begin_141 rfl ?_
            refine is2 (n := 143) dX9_begin_142 rfl trivial ?_
            refine k_goto (n := 47) dX9_begin_143 (by decide) ?_
            first
              | (exfalso; revert h133; decide)
              | (have hJ3 := (hJ.tr hJ1.up).tr hJ2.up
                 have hT3 : ∀ x, x < 255 → J2 84 x = r x := fun x hx => by rw [hJ2.1 84 (by decide) (by decide), hJ1.1 84 (by decide) (by decide)]; exact hT x hx
                 rw [show nI i + 1 = nI (i + 1) from nI_1 i]
                 exact ih (i + 1) J2 hJ3 hT3 (by omega) (by have h := hs; simp only [bgS, srF, if_neg (show ¬ bgF r j i (29 + 7 * j + 5) = 2 from h110)] at h; exact h))
              | (have hJ3 := (hJ.tr hJ1.up).tr hJ2.up
                 have hT3 : ∀ x, x < 255 → J2 84 x = r x := fun x hx => by rw [hJ2.1 84 (by decide) (by decide), hJ1.1 84 (by decide) (by decide)]; exact hT x hx
                 rw [show nI i + 0 = nI i from Int32.add_zero _]
                 refine il2 (n := 48) dX9_begin_47 rfl ?_
                 refine al0 (n := 49) dX9_begin_48 rfl ?_
                 refine gX9_16 (n := 52) dX9_begin_49 rfl rfl rfl rfl ?_
                 refine k_iconst (a := 1) (n := 53) dX9_begin_52 rfl rfl ?_
                 refine j_iald (j := 1) (n := 54) dX9_begin_53 rfl rfl rfl (by decide) (by decide) ?_
                 have e := hQ J2 hJ3 i (by have h := hs; simp only [bgS, srF, if_pos (show bgF r j i (29 + 7 * j + 5) = 2 from h110)] at h; exact h) True (by simp; omega)
                 rw [kb_t trivial] at e
                 refine k_icmp_ge (t := 146) (n := 57) dX9_begin_54 (by decide) rfl (fun _ => e) (fun _ => ?_)
                 refine il3 (n := 58) dX9_begin_57 rfl ?_
                 exact k_if_ne (t := 146) (n := 61) dX9_begin_58 (by decide) rfl (fun _ => e) (fun h => absurd h (by decide)))
          · refine k_iconst (a := 0) (n := 137) dX9_begin_136 rfl rfl ?_
            refine k_goto (n := 141) dX9_begin_137 (by decide) ?_
            refine k_iadd (n := 142) dX9_begin_141 rfl ?_
            refine is2 (n := 143) dX9_begin_142 rfl trivial ?_
            refine k_goto (n := 47) dX9_begin_143 (by decide) ?_
            first
              | (exfalso; revert h133; decide)
              | (have hJ3 := (hJ.tr hJ1.up).tr hJ2.up
                 have hT3 : ∀ x, x < 255 → J2 84 x = r x := fun x hx => by rw [hJ2.1 84 (by decide) (by decide), hJ1.1 84 (by decide) (by decide)]; exact hT x hx
                 rw [show nI i + 1 = nI (i + 1) from nI_1 i]
                 exact ih (i + 1) J2 hJ3 hT3 (by omega) (by have h := hs; simp only [bgS, srF, if_neg (show ¬ bgF r j i (29 + 7 * j + 5) = 2 from h110)] at h; exact h))
              | (have hJ3 := (hJ.tr hJ1.up).tr hJ2.up
                 have hT3 : ∀ x, x < 255 → J2 84 x = r x := fun x hx => by rw [hJ2.1 84 (by decide) (by decide), hJ1.1 84 (by decide) (by decide)]; exact hT x hx
                 rw [show nI i + 0 = nI i from Int32.add_zero _]
                 refine il2 (n := 48) dX9_begin_47 rfl ?_
                 refine al0 (n := 49) dX9_begin_48 rfl ?_
                 refine gX9_16 (n := 52) dX9_begin_49 rfl rfl rfl rfl ?_
                 refine k_iconst (a := 1) (n := 53) dX9_begin_52 rfl rfl ?_
                 refine j_iald (j := 1) (n := 54) dX9_begin_53 rfl rfl rfl (by decide) (by decide) ?_
                 have e := hQ J2 hJ3 i (by have h := hs; simp only [bgS, srF, if_pos (show bgF r j i (29 + 7 * j + 5) = 2 from h110)] at h; exact h) True (by simp; omega)
                 rw [kb_t trivial] at e
                 refine k_icmp_ge (t := 146) (n := 57) dX9_begin_54 (by decide) rfl (fun _ => e) (fun _ => ?_)
                 refine il3 (n := 58) dX9_begin_57 rfl ?_
                 exact k_if_ne (t := 146) (n := 61) dX9_begin_58 (by decide) rfl (fun _ => e) (fun h => absurd h (by decide)))
set_option maxHeartbeats 2000000 in
set_option maxRecDepth 20000 in
theorem m_begin (hd : 67 ≤ d) (hR : RI r) (v : Int32) : Ct E d mX9_begin 0 0 [.ref 81, .int v] (kJ (kset I 82 r)) (kU I (s_begin r v)) := by
  obtain ⟨-, -, -, -, -, -, ⟨c, hc, h1, h16⟩, -⟩ := id hR
  have eR : sRh r = c := by unfold sRh; rw [hc]; exact kcl (by omega)
  refine Ct.of (L := [some (.ref 81), some (.int v), none, none]) rfl rfl (Nat.le_of_ble_eq_true rfl) ?_
  refine al0 (n := 1) dX9_begin_0 rfl ?_
  refine il1 (n := 2) dX9_begin_1 rfl ?_
  refine qiX9_67 (n := 5) dX9_begin_2 rfl rfl (Nat.le_of_ble_eq_true rfl) (by omega) rfl (m_isCrosser (by omega) _) (Nat.le_refl _) (Nat.le_refl _) ?_
  refine k_ifb_ne (t := 15) (n := 8) dX9_begin_5 (by decide) rfl (fun h5 => ?_) (fun h5 => ?_)
  · obtain ⟨j, hj, rfl⟩ := kixC hR h5
    refine al0 (n := 16) dX9_begin_15 rfl ?_
    refine il1 (n := 17) dX9_begin_16 rfl ?_
    refine k_iconst (a := 5) (n := 18) dX9_begin_17 rfl rfl ?_
    refine qiX9_80 (n := 21) dX9_begin_18 rfl rfl (Nat.le_of_ble_eq_true rfl) (by omega) rfl (m_its j 5 hj (by decide)) (Nat.le_refl _) (Nat.le_refl _) ?_
    refine k_if_eq (t := 31) (n := 24) dX9_begin_21 (by decide) rfl (fun h21 => ?_) (fun h21 => ?_)
    · refine al0 (n := 32) dX9_begin_31 rfl ?_
      refine al0 (n := 33) dX9_begin_32 rfl ?_
      refine gX9_7 (n := 36) dX9_begin_33 rfl rfl rfl rfl ?_
      refine al0 (n := 37) dX9_begin_36 rfl ?_
      refine gX9_16 (n := 40) dX9_begin_37 rfl rfl rfl rfl ?_
      refine qiX9_163 (n := 43) dX9_begin_40 rfl rfl (Nat.le_of_ble_eq_true rfl) (by omega) rfl (m_save (b := 84) rfl (by decide)) (Nat.le_refl _) (Nat.le_refl _) ?_
      refine k_iconst (a := 0) (n := 44) dX9_begin_43 rfl rfl ?_
      refine is2 (n := 45) dX9_begin_44 rfl trivial ?_
      refine k_iconst (a := 0) (n := 46) dX9_begin_45 rfl rfl ?_
      refine is3 (n := 47) dX9_begin_46 rfl trivial ?_
      refine m_begin_l (by omega) hR j hj c hc h16 _ (fun K hK i hi f _ hf => ?_) c 0 (kset I 84 (svF r (I 84))) (kJnk.set _ (Or.inl rfl)) (fun x hx => by rw [kset_same]; exact if_pos hx) (by omega) rfl
      refine il3 (n := 147) dX9_begin_146 rfl ?_
      refine k_ifb_eq (t := 154) (n := 150) dX9_begin_147 (by decide) rfl (fun h147 => ?_) (fun h147 => ?_)
      · have hf2 : (bgS r j c 0 < c) = False := eq_false (hi ▸ fun h => h147 (hf.mpr h))
        refine al0 (n := 155) dX9_begin_154 rfl ?_
        refine cX9_199 (n := 157) dX9_begin_155 rfl rfl ?_
        refine qiX9_46 (n := 160) dX9_begin_157 rfl rfl (Nat.le_of_ble_eq_true rfl) (by omega) rfl (m_errs 2 _ (by decide) rfl) (Nat.le_refl _) (Nat.le_refl _) ?_
        refine k_ireturn (ty := .int) dX9_begin_160 rfl rfl (Nat.le_refl _) (Nat.le_refl _) ?_
        exact ⟨K, by simp only [s_begin, sB, sN, if_pos h5, if_pos h21, eR, kcl (show j < 1000 by omega), hf2, reduceIte, hi], by simp only [s_begin, sB, sN, ke0, ke2, if_pos h5, if_pos h21, eR, kcl (show j < 1000 by omega), hf2, reduceIte], hK⟩
      · have hf2 : (bgS r j c 0 < c) = True := eq_true (hi ▸ hf.mp h147)
        refine il2 (n := 151) dX9_begin_150 rfl ?_
        refine k_goto (n := 160) dX9_begin_151 (by decide) ?_
        refine k_ireturn (ty := .int) dX9_begin_160 rfl rfl (Nat.le_refl _) (Nat.le_refl _) ?_
        exact ⟨K, by simp only [s_begin, sB, sN, if_pos h5, if_pos h21, eR, kcl (show j < 1000 by omega), hf2, reduceIte, hi], by simp only [s_begin, sB, sN, ke0, ke2, if_pos h5, if_pos h21, eR, kcl (show j < 1000 by omega), hf2, reduceIte], hK⟩
    · refine al0 (n := 25) dX9_begin_24 rfl ?_
      refine cX9_50 (n := 27) dX9_begin_25 rfl rfl ?_
      refine qiX9_46 (n := 30) dX9_begin_27 rfl rfl (Nat.le_of_ble_eq_true rfl) (by omega) rfl (m_errs 3 _ (by decide) rfl) (Nat.le_refl _) (Nat.le_refl _) ?_
      refine k_ireturn (ty := .int) dX9_begin_30 rfl rfl (Nat.le_refl _) (Nat.le_refl _) ?_
      first | exact ⟨J1, by simp only [s_begin, sB, sN, sS, sF, if_pos h5, kcl (show j < 1000 by omega), if_neg h21], by simp only [s_begin, sB, sN, sS, sF, ke0, ke1, ke2, ke3, ke4, if_pos h5, kcl (show j < 1000 by omega), if_neg h21], hJ1.up⟩ | exact ⟨I, by simp only [s_begin, sB, sN, sS, sF, if_pos h5, kcl (show j < 1000 by omega), if_neg h21], by simp only [s_begin, sB, sN, sS, sF, ke0, ke1, ke2, ke3, ke4, if_pos h5, kcl (show j < 1000 by omega), if_neg h21], kJnk.rf I⟩
  · refine al0 (n := 9) dX9_begin_8 rfl ?_
    refine cX9_45 (n := 11) dX9_begin_9 rfl rfl ?_
    refine qiX9_46 (n := 14) dX9_begin_11 rfl rfl (Nat.le_of_ble_eq_true rfl) (by omega) rfl (m_errs 1 _ (by decide) rfl) (Nat.le_refl _) (Nat.le_refl _) ?_
    refine k_ireturn (ty := .int) dX9_begin_14 rfl rfl (Nat.le_refl _) (Nat.le_refl _) ?_
    first | exact ⟨J1, by simp only [s_begin, sB, sN, sS, sF, if_neg h5], by simp only [s_begin, sB, sN, sS, sF, ke0, ke1, ke2, ke3, ke4, if_neg h5], hJ1.up⟩ | exact ⟨I, by simp only [s_begin, sB, sN, sS, sF, if_neg h5], by simp only [s_begin, sB, sN, sS, sF, ke0, ke1, ke2, ke3, ke4, if_neg h5], kJnk.rf I⟩
end M9

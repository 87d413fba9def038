section M18
variable {E : kE} {d : Nat} {I : Nat → Nat → Int32} {r : Nat → Int32}
def wkG (I : Nat → Nat → Int32) (u e : Nat) (a b c : Int32) : pG := ((fun k => if k < e then I 82 (155 + 50 * u + k) else -1), u, a, b, c)
/-- behind a walk over a text: its value, where it stood, whether it was a text -/
def wkQ (I : Nat → Nat → Int32) (o : Nat → Int32) (e : Nat) (q : pR) : Option Value → kM → Prop := fun v M => ∃ p, v = some (.int q.1) ∧ M = kJ (kset I 81 p) ∧ p 8 = nI q.2.1 ∧ p 14 = kb (q.2.2 = true ∧ q.2.1 = e) ∧ ∀ j, j < 7 ∨ 14 < j → p j = o j
set_option maxHeartbeats 2000000 in
set_option maxRecDepth 20000 in
theorem m_walks (hd : 40 ≤ d) {o : Nat → Int32} (u e : Nat) (hu : u < 2) (h50 : e ≤ 50) (he : I 82 (6 + u) = nI e) (a b c : Int32) : Ct E d mX9_walks 0 0 [.ref 81, .int (nI u), .int a, .int b, .int c] (kJ (kset I 81 o)) (wkQ I o e (pz (wkG I u e a b c) txF 0 0 0 0)) := by
  refine Ct.of (L := [some (.ref 81), some (.int (nI u)), some (.int a), some (.int b), some (.int c), none]) rfl rfl (Nat.le_of_ble_eq_true rfl) ?_
  refine al0 (n := 1) dX9_walks_0 rfl ?_
  refine il1 (n := 2) dX9_walks_1 rfl ?_
  refine psX9_94 (n := 5) dX9_walks_2 rfl rfl rfl ?_
  refine al0 (n := 6) dX9_walks_5 rfl ?_
  refine k_iconst (a := 0) (n := 7) dX9_walks_6 rfl rfl ?_
  refine psX9_101 (n := 10) dX9_walks_7 rfl rfl rfl ?_
  refine al0 (n := 11) dX9_walks_10 rfl ?_
  refine al0 (n := 12) dX9_walks_11 rfl ?_
  refine gX9_7 (n := 15) dX9_walks_12 rfl rfl rfl rfl ?_
  refine k_bipush (a := 6) (n := 17) dX9_walks_15 rfl rfl ?_
  refine il1 (n := 18) dX9_walks_17 rfl ?_
  refine k_iadd (n := 19) dX9_walks_18 rfl ?_
  refine j_iald (j := 6 + u) (n := 20) dX9_walks_19 rfl rfl (by show nI 6 + nI u = _; rw [nI_add]) (by omega) (by decide) ?_
  try rw [kset_ne _ _ (show (82 : Nat) ≠ 81 by decide)]
  rw [he]
  refine psX9_90 (n := 23) dX9_walks_20 rfl rfl rfl ?_
  refine al0 (n := 24) dX9_walks_23 rfl ?_
  refine k_iconst (a := 0) (n := 25) dX9_walks_24 rfl rfl ?_
  refine psX9_129 (n := 28) dX9_walks_25 rfl rfl rfl ?_
  refine al0 (n := 29) dX9_walks_28 rfl ?_
  refine k_iconst (a := 1) (n := 30) dX9_walks_29 rfl rfl ?_
  refine psX9_97 (n := 33) dX9_walks_30 rfl rfl rfl (by decide) ?_
  refine al0 (n := 34) dX9_walks_33 rfl ?_
  refine il2 (n := 35) dX9_walks_34 rfl ?_
  refine psX9_114 (n := 38) dX9_walks_35 rfl rfl rfl ?_
  refine al0 (n := 39) dX9_walks_38 rfl ?_
  refine il3 (n := 40) dX9_walks_39 rfl ?_
  refine psX9_117 (n := 43) dX9_walks_40 rfl rfl rfl ?_
  refine al0 (n := 44) dX9_walks_43 rfl ?_
  refine il4 (n := 46) dX9_walks_44 rfl ?_
  refine psX9_120 (n := 49) dX9_walks_46 rfl rfl rfl ?_
  have hC : pC I (upd (upd (upd (upd (upd (upd (upd (upd o 7 (nI u)) 8 0) 9 (nI e)) 10 0) 14 1) 11 a) 12 b) 13 c) (wkG I u e a b c) e := ⟨rfl, hu, rfl, h50, rfl, rfl, rfl, fun k => rfl⟩
  have hr : rkF 0 = 10 := rfl
  refine al0 (n := 50) dX9_walks_49 rfl ?_
  refine qX9_135 (n := 53) dX9_walks_50 rfl rfl (Nat.le_of_ble_eq_true rfl) (by omega) (Nat.le_refl _) (Nat.le_refl _) rfl ((pv_all txF).1 (d - 1) I (upd (upd (upd (upd (upd (upd (upd (upd o 7 (nI u)) 8 0) 9 (nI e)) 10 0) 14 1) 11 a) 12 b) 13 c) (wkG I u e a b c) e 0 0 hC (Nat.zero_le _) (by omega) rfl rfl rfl (by unfold txF; omega) (by omega)) ?_
  rintro _ _ ⟨p1, rfl, rfl, h81, h141, hp1⟩
  dsimp only [Option.toList, List.cons_append, List.nil_append, Nat.add_zero]
  have hz := pz_at (wkG I u e a b c) hC.end txF 0 (by decide) 0 0 0 (Nat.zero_le _)
  have h9b : p1 9 = nI e := hp1 9 (by decide) (by decide)
  have hq : ∀ j, j < 7 ∨ 14 < j → p1 j = o j := fun j hj => (hp1 j (by omega) (by omega)).trans ((pk_un (by omega)).trans ((pk_un (by omega)).trans ((pk_un (by omega)).trans ((pk_un (by omega)).trans ((pk_un (by omega)).trans ((pk_un (by omega)).trans ((pk_un (by omega)).trans (pk_un (by omega)))))))))
  refine is5 (n := 55) dX9_walks_53 rfl trivial ?_
  refine al0 (n := 56) dX9_walks_55 rfl ?_
  refine al0 (n := 57) dX9_walks_56 rfl ?_
  refine gsX9_97 (n := 60) dX9_walks_57 rfl rfl rfl ?_
  rw [h141]
  refine k_ifb_eq (t := 78) (n := 63) dX9_walks_60 (by decide) rfl (fun h60 => ?_) (fun h60 => ?_)
  · refine k_iconst (a := 0) (n := 79) dX9_walks_78 rfl rfl ?_
    refine psX9_97 (n := 82) dX9_walks_79 rfl rfl rfl (by decide) ?_
    refine il5 (n := 84) dX9_walks_82 rfl ?_
    refine k_ireturn (ty := .int) dX9_walks_84 rfl rfl (Nat.le_refl _) (Nat.le_refl _) ?_
    first
      | (have hn : ¬ ((pz (wkG I u e a b c) txF 0 0 0 0).2.2 = true ∧ (pz (wkG I u e a b c) txF 0 0 0 0).2.1 = e) := fun q => h60 q.1
         exact ⟨_, rfl, rfl, (pk_un (by decide)).trans h81, pk_us.trans (kb_f hn).symm, fun j hj => (pk_un (by omega)).trans (hq j hj)⟩)
      | (have hn : ¬ ((pz (wkG I u e a b c) txF 0 0 0 0).2.2 = true ∧ (pz (wkG I u e a b c) txF 0 0 0 0).2.1 = e) := fun q => h71 (by rw [q.2])
         exact ⟨_, rfl, rfl, (pk_un (by decide)).trans h81, pk_us.trans (kb_f hn).symm, fun j hj => (pk_un (by omega)).trans (hq j hj)⟩)
      | (have hy : (pz (wkG I u e a b c) txF 0 0 0 0).2.2 = true ∧ (pz (wkG I u e a b c) txF 0 0 0 0).2.1 = e := ⟨h60, by
           have := congrArg Int32.toNatClampNeg h71
           rwa [kcl (by omega), kcl (by omega)] at this⟩
         exact ⟨_, rfl, rfl, (pk_un (by decide)).trans h81, pk_us.trans (kb_t hy).symm, fun j hj => (pk_un (by omega)).trans (hq j hj)⟩)
  · refine al0 (n := 64) dX9_walks_63 rfl ?_
    refine gsX9_101 (n := 67) dX9_walks_64 rfl rfl rfl ?_
    rw [h81]
    refine al0 (n := 68) dX9_walks_67 rfl ?_
    refine gsX9_90 (n := 71) dX9_walks_68 rfl rfl rfl ?_
    rw [h9b]
    refine k_icmp_ne (t := 78) (n := 74) dX9_walks_71 (by decide) rfl (fun h71 => ?_) (fun h71 => ?_)
    · refine k_iconst (a := 0) (n := 79) dX9_walks_78 rfl rfl ?_
      refine psX9_97 (n := 82) dX9_walks_79 rfl rfl rfl (by decide) ?_
      refine il5 (n := 84) dX9_walks_82 rfl ?_
      refine k_ireturn (ty := .int) dX9_walks_84 rfl rfl (Nat.le_refl _) (Nat.le_refl _) ?_
      first
        | (have hn : ¬ ((pz (wkG I u e a b c) txF 0 0 0 0).2.2 = true ∧ (pz (wkG I u e a b c) txF 0 0 0 0).2.1 = e) := fun q => h60 q.1
           exact ⟨_, rfl, rfl, (pk_un (by decide)).trans h81, pk_us.trans (kb_f hn).symm, fun j hj => (pk_un (by omega)).trans (hq j hj)⟩)
        | (have hn : ¬ ((pz (wkG I u e a b c) txF 0 0 0 0).2.2 = true ∧ (pz (wkG I u e a b c) txF 0 0 0 0).2.1 = e) := fun q => h71 (by rw [q.2])
           exact ⟨_, rfl, rfl, (pk_un (by decide)).trans h81, pk_us.trans (kb_f hn).symm, fun j hj => (pk_un (by omega)).trans (hq j hj)⟩)
        | (have hy : (pz (wkG I u e a b c) txF 0 0 0 0).2.2 = true ∧ (pz (wkG I u e a b c) txF 0 0 0 0).2.1 = e := ⟨h60, by
             have := congrArg Int32.toNatClampNeg h71
             rwa [kcl (by omega), kcl (by omega)] at this⟩
           exact ⟨_, rfl, rfl, (pk_un (by decide)).trans h81, pk_us.trans (kb_t hy).symm, fun j hj => (pk_un (by omega)).trans (hq j hj)⟩)
    · refine k_iconst (a := 1) (n := 75) dX9_walks_74 rfl rfl ?_
      refine k_goto (n := 79) dX9_walks_75 (by decide) ?_
      refine psX9_97 (n := 82) dX9_walks_79 rfl rfl rfl (by decide) ?_
      refine il5 (n := 84) dX9_walks_82 rfl ?_
      refine k_ireturn (ty := .int) dX9_walks_84 rfl rfl (Nat.le_refl _) (Nat.le_refl _) ?_
      first
        | (have hn : ¬ ((pz (wkG I u e a b c) txF 0 0 0 0).2.2 = true ∧ (pz (wkG I u e a b c) txF 0 0 0 0).2.1 = e) := fun q => h60 q.1
           exact ⟨_, rfl, rfl, (pk_un (by decide)).trans h81, pk_us.trans (kb_f hn).symm, fun j hj => (pk_un (by omega)).trans (hq j hj)⟩)
        | (have hn : ¬ ((pz (wkG I u e a b c) txF 0 0 0 0).2.2 = true ∧ (pz (wkG I u e a b c) txF 0 0 0 0).2.1 = e) := fun q => h71 (by rw [q.2])
           exact ⟨_, rfl, rfl, (pk_un (by decide)).trans h81, pk_us.trans (kb_f hn).symm, fun j hj => (pk_un (by omega)).trans (hq j hj)⟩)
        | (have hy : (pz (wkG I u e a b c) txF 0 0 0 0).2.2 = true ∧ (pz (wkG I u e a b c) txF 0 0 0 0).2.1 = e := ⟨h60, by
             have := congrArg Int32.toNatClampNeg h71
             rwa [kcl (by omega), kcl (by omega)] at this⟩
           exact ⟨_, rfl, rfl, (pk_un (by decide)).trans h81, pk_us.trans (kb_t hy).symm, fun j hj => (pk_un (by omega)).trans (hq j hj)⟩)
theorem txB_eq {I : Nat → Nat → Int32} {r : Nat → Int32} {u e : Nat} (h50 : e ≤ 50) (he : r (6 + u) = nI e) (a b c : Int32) : wkG (kset I 82 r) u e a b c = (txB r u, u, a, b, c) := by
  unfold wkG txB
  rw [he, kcl (by omega), kset_same]
set_option maxHeartbeats 2000000 in
set_option maxRecDepth 20000 in
theorem m_lawOf0 (hd : 60 ≤ d) (hR : RI r) (a b c : Int32) : Ct E d mX9_lawOf 0 0 [.ref 81, .int 0, .int a, .int b, .int c] (kJ (kset I 82 r)) (kS1 (lawF r 0 a b c) I r) := by
  refine Ct.of (L := [some (.ref 81), some (.int 0), some (.int a), some (.int b), some (.int c), none, none]) rfl rfl (Nat.le_of_ble_eq_true rfl) ?_
  refine il1 (n := 1) dX9_lawOf_0 rfl ?_
  refine k_if_ne (t := 8) (n := 4) dX9_lawOf_1 (by decide) rfl (fun h1 => ?_) (fun h1 => ?_)
  · exact absurd rfl h1
  · refine k_iconst (a := 1) (n := 5) dX9_lawOf_4 rfl rfl ?_
    refine k_goto (n := 9) dX9_lawOf_5 (by decide) ?_
    refine is5 (n := 11) dX9_lawOf_9 rfl trivial ?_
    refine il1 (n := 12) dX9_lawOf_11 rfl ?_
    refine k_if_ne (t := 20) (n := 15) dX9_lawOf_12 (by decide) rfl (fun h12 => ?_) (fun h12 => ?_)
    · exact absurd rfl h12
    · refine k_bipush (a := 9) (n := 17) dX9_lawOf_15 rfl rfl ?_
      refine k_goto (n := 21) dX9_lawOf_17 (by decide) ?_
      refine is6 (n := 23) dX9_lawOf_21 rfl trivial ?_
      refine al0 (n := 24) dX9_lawOf_23 rfl ?_
      refine gX9_7 (n := 27) dX9_lawOf_24 rfl rfl rfl rfl ?_
      refine k_bipush (a := 6) (n := 29) dX9_lawOf_27 rfl rfl ?_
      refine il1 (n := 30) dX9_lawOf_29 rfl ?_
      refine k_iadd (n := 31) dX9_lawOf_30 rfl ?_
      refine js_iald (j := 6) (n := 32) dX9_lawOf_31 rfl rfl rfl (by decide) (by decide) ?_
      refine k_if_lt (t := 52) (n := 35) dX9_lawOf_32 (by decide) rfl (fun h32 => ?_) (fun h32 => ?_)
      · refine il1 (n := 53) dX9_lawOf_52 rfl ?_
        refine k_if_ne (t := 72) (n := 56) dX9_lawOf_53 (by decide) rfl (fun h53 => ?_) (fun h53 => ?_)
        · exact absurd rfl h53
        · refine k_iconst (a := 1) (n := 57) dX9_lawOf_56 rfl rfl ?_
          refine il3 (n := 58) dX9_lawOf_57 rfl ?_
          refine k_bipush (a := 20) (n := 60) dX9_lawOf_58 rfl rfl ?_
          refine k_idiv (n := 61) dX9_lawOf_60 rfl (by decide) ?_
          refine k_iadd (n := 62) dX9_lawOf_61 rfl ?_
          refine il5 (n := 64) dX9_lawOf_62 rfl ?_
          refine il6 (n := 66) dX9_lawOf_64 rfl ?_
          refine qiX9_154 (n := 69) dX9_lawOf_66 rfl rfl (Nat.le_of_ble_eq_true rfl) (by omega) (m_held _ _ _) (Nat.le_refl _) (Nat.le_refl _) ?_
          refine k_goto (n := 87) dX9_lawOf_69 (by decide) ?_
          refine k_ireturn (ty := .int) dX9_lawOf_87 rfl rfl (Nat.le_refl _) (Nat.le_refl _) ?_
          exact ⟨I, by simp only [lawF, heldF, if_pos (show r (6 + 0) < 0 from h32), reduceIte], rfl, kJunk.rf I⟩
      · obtain ⟨e, he, h50⟩ : ∃ e, r 6 = nI e ∧ e ≤ 50 := by
          rcases hR.2.2.2.2.2.2.2.2 0 (by decide) with q | q
          · exact absurd (show r 6 < 0 by rw [show r 6 = -1 from q]; decide) h32
          · exact q
        refine al0 (n := 36) dX9_lawOf_35 rfl ?_
        refine il1 (n := 37) dX9_lawOf_36 rfl ?_
        refine il2 (n := 38) dX9_lawOf_37 rfl ?_
        refine il3 (n := 39) dX9_lawOf_38 rfl ?_
        refine il4 (n := 41) dX9_lawOf_39 rfl ?_
        rw [show kJ (kset I 82 r) = kJ (kset (kset I 82 r) 81 (I 81)) from by rw [show kset (kset I 82 r) 81 (I 81) = kset I 82 r from kset_self (kset I 82 r) 81]]
        refine qX9_150 (n := 44) dX9_lawOf_41 rfl rfl (Nat.le_of_ble_eq_true rfl) (by omega) (Nat.le_refl _) (Nat.le_refl _) rfl (m_walks (by omega) (I := kset I 82 r) 0 e (by decide) h50 (by rw [kset_same]; exact he) _ _ _) ?_
        rintro _ _ ⟨p1, rfl, rfl, h81, h141, hp1⟩
        dsimp only [Option.toList, List.cons_append, List.nil_append, Nat.add_zero]
        refine il5 (n := 46) dX9_lawOf_44 rfl ?_
        refine il6 (n := 48) dX9_lawOf_46 rfl ?_
        refine qiX9_154 (n := 51) dX9_lawOf_48 rfl rfl (Nat.le_of_ble_eq_true rfl) (by omega) (m_held _ _ _) (Nat.le_refl _) (Nat.le_refl _) ?_
        refine k_ireturn (ty := .int) dX9_lawOf_51 rfl rfl (Nat.le_refl _) (Nat.le_refl _) ?_
        refine ⟨kset I 81 p1, ?_, by rw [kset_comm _ _ _ (show (82 : Nat) ≠ 81 by decide)], fun k h1 h2 => kset_ne _ _ h1, fun j hj => by rw [kset_same]; exact hp1 j hj⟩
        rw [txB_eq h50 (show r (6 + 0) = nI e from he)]
        simp only [lawF, heldF, walkF, if_neg (show ¬ r (6 + 0) < 0 from h32), reduceIte]
set_option maxHeartbeats 2000000 in
set_option maxRecDepth 20000 in
theorem m_lawOf1 (hd : 60 ≤ d) (hR : RI r) (a b c : Int32) : Ct E d mX9_lawOf 0 0 [.ref 81, .int 1, .int a, .int b, .int c] (kJ (kset I 82 r)) (kS1 (lawF r 1 a b c) I r) := by
  refine Ct.of (L := [some (.ref 81), some (.int 1), some (.int a), some (.int b), some (.int c), none, none]) rfl rfl (Nat.le_of_ble_eq_true rfl) ?_
  refine il1 (n := 1) dX9_lawOf_0 rfl ?_
  refine k_if_ne (t := 8) (n := 4) dX9_lawOf_1 (by decide) rfl (fun h1 => ?_) (fun h1 => ?_)
  · refine k_iconst (a := 0) (n := 9) dX9_lawOf_8 rfl rfl ?_
    refine is5 (n := 11) dX9_lawOf_9 rfl trivial ?_
    refine il1 (n := 12) dX9_lawOf_11 rfl ?_
    refine k_if_ne (t := 20) (n := 15) dX9_lawOf_12 (by decide) rfl (fun h12 => ?_) (fun h12 => ?_)
    · refine k_iconst (a := 1) (n := 21) dX9_lawOf_20 rfl rfl ?_
      refine is6 (n := 23) dX9_lawOf_21 rfl trivial ?_
      refine al0 (n := 24) dX9_lawOf_23 rfl ?_
      refine gX9_7 (n := 27) dX9_lawOf_24 rfl rfl rfl rfl ?_
      refine k_bipush (a := 6) (n := 29) dX9_lawOf_27 rfl rfl ?_
      refine il1 (n := 30) dX9_lawOf_29 rfl ?_
      refine k_iadd (n := 31) dX9_lawOf_30 rfl ?_
      refine js_iald (j := 7) (n := 32) dX9_lawOf_31 rfl rfl rfl (by decide) (by decide) ?_
      refine k_if_lt (t := 52) (n := 35) dX9_lawOf_32 (by decide) rfl (fun h32 => ?_) (fun h32 => ?_)
      · refine il1 (n := 53) dX9_lawOf_52 rfl ?_
        refine k_if_ne (t := 72) (n := 56) dX9_lawOf_53 (by decide) rfl (fun h53 => ?_) (fun h53 => ?_)
        · refine il3 (n := 73) dX9_lawOf_72 rfl ?_
          refine k_bipush (a := 100) (n := 75) dX9_lawOf_73 rfl rfl ?_
          refine il2 (n := 76) dX9_lawOf_75 rfl ?_
          refine k_iconst (a := 1) (n := 77) dX9_lawOf_76 rfl rfl ?_
          refine k_iadd (n := 78) dX9_lawOf_77 rfl ?_
          refine k_imul (n := 79) dX9_lawOf_78 rfl ?_
          refine k_icmp_ge (t := 86) (n := 82) dX9_lawOf_79 (by decide) rfl (fun h79 => ?_) (fun h79 => ?_)
          · refine k_iconst (a := 0) (n := 87) dX9_lawOf_86 rfl rfl ?_
            refine k_ireturn (ty := .int) dX9_lawOf_87 rfl rfl (Nat.le_refl _) (Nat.le_refl _) ?_
            refine ⟨I, ?_, rfl, kJunk.rf I⟩
            rw [lawF, if_pos (show r (6 + 1) < 0 from h32), if_neg (show ¬ (1 : Nat) = 0 by decide)]
            first | rw [kb_f (Int32.not_lt.mpr h79)] | rw [kb_t (Int32.not_le.mp h79)]
          · refine k_iconst (a := 1) (n := 83) dX9_lawOf_82 rfl rfl ?_
            refine k_goto (n := 87) dX9_lawOf_83 (by decide) ?_
            refine k_ireturn (ty := .int) dX9_lawOf_87 rfl rfl (Nat.le_refl _) (Nat.le_refl _) ?_
            refine ⟨I, ?_, rfl, kJunk.rf I⟩
            rw [lawF, if_pos (show r (6 + 1) < 0 from h32), if_neg (show ¬ (1 : Nat) = 0 by decide)]
            first | rw [kb_f (Int32.not_lt.mpr h79)] | rw [kb_t (Int32.not_le.mp h79)]
        · exact absurd h53 (by decide)
      · obtain ⟨e, he, h50⟩ : ∃ e, r 7 = nI e ∧ e ≤ 50 := by
          rcases hR.2.2.2.2.2.2.2.2 1 (by decide) with q | q
          · exact absurd (show r 7 < 0 by rw [show r 7 = -1 from q]; decide) h32
          · exact q
        refine al0 (n := 36) dX9_lawOf_35 rfl ?_
        refine il1 (n := 37) dX9_lawOf_36 rfl ?_
        refine il2 (n := 38) dX9_lawOf_37 rfl ?_
        refine il3 (n := 39) dX9_lawOf_38 rfl ?_
        refine il4 (n := 41) dX9_lawOf_39 rfl ?_
        rw [show kJ (kset I 82 r) = kJ (kset (kset I 82 r) 81 (I 81)) from by rw [show kset (kset I 82 r) 81 (I 81) = kset I 82 r from kset_self (kset I 82 r) 81]]
        refine qX9_150 (n := 44) dX9_lawOf_41 rfl rfl (Nat.le_of_ble_eq_true rfl) (by omega) (Nat.le_refl _) (Nat.le_refl _) rfl (m_walks (by omega) (I := kset I 82 r) 1 e (by decide) h50 (by rw [kset_same]; exact he) _ _ _) ?_
        rintro _ _ ⟨p1, rfl, rfl, h81, h141, hp1⟩
        dsimp only [Option.toList, List.cons_append, List.nil_append, Nat.add_zero]
        refine il5 (n := 46) dX9_lawOf_44 rfl ?_
        refine il6 (n := 48) dX9_lawOf_46 rfl ?_
        refine qiX9_154 (n := 51) dX9_lawOf_48 rfl rfl (Nat.le_of_ble_eq_true rfl) (by omega) (m_held _ _ _) (Nat.le_refl _) (Nat.le_refl _) ?_
        refine k_ireturn (ty := .int) dX9_lawOf_51 rfl rfl (Nat.le_refl _) (Nat.le_refl _) ?_
        refine ⟨kset I 81 p1, ?_, by rw [kset_comm _ _ _ (show (82 : Nat) ≠ 81 by decide)], fun k h1 h2 => kset_ne _ _ h1, fun j hj => by rw [kset_same]; exact hp1 j hj⟩
        rw [txB_eq h50 (show r (6 + 1) = nI e from he)]
        simp only [lawF, heldF, walkF, if_neg (show ¬ r (6 + 1) < 0 from h32), if_neg (show ¬ (1 : Nat) = 0 by decide)]
    · exact absurd h12 (by decide)
  · exact absurd h1 (by decide)
theorem m_lawOf (hd : 60 ≤ d) (hR : RI r) (u : Nat) (hu : u < 2) (a b c : Int32) : Ct E d mX9_lawOf 0 0 [.ref 81, .int (nI u), .int a, .int b, .int c] (kJ (kset I 82 r)) (kS1 (lawF r u a b c) I r) := by
  rcases (show u = 0 ∨ u = 1 by omega) with rfl | rfl
  · exact m_lawOf0 hd hR a b c
  · exact m_lawOf1 hd hR a b c
end M18

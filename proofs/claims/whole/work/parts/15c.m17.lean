section M17
variable {E : kE}
set_option maxHeartbeats 2000000 in
set_option maxRecDepth 20000 in
theorem pv_factor (n : Nat) (hF : ∀ m, m ≤ n → pOK E mX9_factor m 5) (hW : ∀ m, m ≤ n → pOK E mX9_whole m 0) : pOK E mX9_factor (n + 1) 5 := by
  intro d I o G e a op h ha hop h8 h10 h14 hf hd
  have hr : rkF 5 = 1 := rfl
  have hr0 : rkF 0 = 10 := rfl
  have h50 := h.2.2.2.1
  have k33 : (hc : G.1 a = 33) → ¬ op = 5 → a < e → Wd E d mX9_factor 0 0 0 0 52 [some (.ref 81), some (.int (G.1 a)), none] [] (kJ (kset I 81 o)) (pQ I o (pz G (n + 1) 5 0 a op)) := by
    intro hc h5 hlt
    refine al0 (n := 53) dX9_factor_52 rfl ?_
    refine k_dup (n := 54) dX9_factor_53 rfl rfl ?_
    refine gsX9_129 (n := 57) dX9_factor_54 rfl rfl rfl ?_
    rw [h10]
    refine k_iconst (a := 1) (n := 58) dX9_factor_57 rfl rfl ?_
    refine k_iadd (n := 59) dX9_factor_58 rfl ?_
    rw [nI_1 op]
    refine psX9_129 (n := 62) dX9_factor_59 rfl rfl rfl ?_
    refine al0 (n := 63) dX9_factor_62 rfl ?_
    refine k_dup (n := 64) dX9_factor_63 rfl rfl ?_
    refine gsX9_101 (n := 67) dX9_factor_64 rfl rfl rfl ?_
    rw [show upd o 10 (nI (op + 1)) 8 = o 8 from pk_un (by decide), h8]
    refine k_iconst (a := 1) (n := 68) dX9_factor_67 rfl rfl ?_
    refine k_iadd (n := 69) dX9_factor_68 rfl ?_
    rw [nI_1 a]
    refine psX9_101 (n := 72) dX9_factor_69 rfl rfl rfl ?_
    refine il1 (n := 73) dX9_factor_72 rfl ?_
    refine k_bipush (a := 33) (n := 75) dX9_factor_73 rfl rfl ?_
    refine k_icmp_ne (t := 85) (n := 78) dX9_factor_75 (by decide) rfl (fun h75 => ?_) (fun h75 => ?_)
    · exact absurd hc h75
    · refine al0 (n := 79) dX9_factor_78 rfl ?_
      refine qX9_132 (n := 82) dX9_factor_79 rfl rfl (Nat.le_of_ble_eq_true rfl) (by omega) (Nat.le_refl _) (Nat.le_refl _) rfl (hF n (Nat.le_refl _) (d - 1) I (upd (upd o 10 (nI (op + 1))) 8 (nI (a + 1))) G e (a + 1) (op + 1) (h.mv (fun j a1 a2 a3 => (pk_un a1).trans (pk_un a2))) (by omega) (by omega) pk_us ((pk_un (by decide)).trans pk_us) ((pk_un (by decide)).trans ((pk_un (by decide)).trans h14)) (by omega) (by omega)) ?_
      rintro _ _ ⟨p1, rfl, rfl, h81, h141, hp1⟩
      dsimp only [Option.toList, List.cons_append, List.nil_append, Nat.add_zero]
      have h10b : p1 10 = nI (op + 1) := (hp1 10 (by decide) (by decide)).trans ((pk_un (by decide)).trans pk_us)
      have hq : ∀ j, j ≠ 8 → j ≠ 14 → upd p1 10 (nI op) j = o j := fun j a1 a2 => by
        by_cases e10 : j = 10
        · subst e10; rw [pk_us, h10]
        · rw [pk_un e10, hp1 j a1 a2, pk_un a1, pk_un e10]
      refine k_goto (n := 89) dX9_factor_82 (by decide) ?_
      refine is2 (n := 90) dX9_factor_89 rfl trivial ?_
      refine al0 (n := 91) dX9_factor_90 rfl ?_
      refine k_dup (n := 92) dX9_factor_91 rfl rfl ?_
      refine gsX9_129 (n := 95) dX9_factor_92 rfl rfl rfl ?_
      rw [h10b]
      refine k_iconst (a := 1) (n := 96) dX9_factor_95 rfl rfl ?_
      refine k_isub (n := 97) dX9_factor_96 rfl ?_
      rw [nI_pred op]
      refine psX9_129 (n := 100) dX9_factor_97 rfl rfl rfl ?_
      refine il1 (n := 101) dX9_factor_100 rfl ?_
      refine k_bipush (a := 33) (n := 103) dX9_factor_101 rfl rfl ?_
      refine k_icmp_ne (t := 116) (n := 106) dX9_factor_103 (by decide) rfl (fun h103 => ?_) (fun h103 => ?_)
      · exact absurd hc h103
      · refine il2 (n := 107) dX9_factor_106 rfl ?_
        refine k_if_ne (t := 114) (n := 110) dX9_factor_107 (by decide) rfl (fun h107 => ?_) (fun h107 => ?_)
        · refine k_iconst (a := 0) (n := 115) dX9_factor_114 rfl rfl ?_
          refine k_ireturn (ty := .int) dX9_factor_115 rfl rfl (Nat.le_refl _) (Nat.le_refl _) ?_
          have ez : pz G (n + 1) 5 0 a op = (kb ((pz G n 5 0 (a + 1) (op + 1)).1 = 0), (pz G n 5 0 (a + 1) (op + 1)).2.1, (pz G n 5 0 (a + 1) (op + 1)).2.2) := by
            rw [pz5, if_neg (fun q => by rw [hc] at q; exact absurd q.1 (by decide)), if_pos hc, if_neg h5]
          rw [ez]
          refine ⟨_, ?_, rfl, (pk_un (by decide)).trans h81, (pk_un (by decide)).trans h141, hq⟩
          first | rw [kb_t h107] | rw [kb_f h107]
        · refine k_iconst (a := 1) (n := 111) dX9_factor_110 rfl rfl ?_
          refine k_goto (n := 115) dX9_factor_111 (by decide) ?_
          refine k_ireturn (ty := .int) dX9_factor_115 rfl rfl (Nat.le_refl _) (Nat.le_refl _) ?_
          have ez : pz G (n + 1) 5 0 a op = (kb ((pz G n 5 0 (a + 1) (op + 1)).1 = 0), (pz G n 5 0 (a + 1) (op + 1)).2.1, (pz G n 5 0 (a + 1) (op + 1)).2.2) := by
            rw [pz5, if_neg (fun q => by rw [hc] at q; exact absurd q.1 (by decide)), if_pos hc, if_neg h5]
          rw [ez]
          refine ⟨_, ?_, rfl, (pk_un (by decide)).trans h81, (pk_un (by decide)).trans h141, hq⟩
          first | rw [kb_t h107] | rw [kb_f h107]
  have k40 : (hc : G.1 a = 40) → ¬ op = 5 → a < e → Wd E d mX9_factor 0 0 0 0 52 [some (.ref 81), some (.int (G.1 a)), none] [] (kJ (kset I 81 o)) (pQ I o (pz G (n + 1) 5 0 a op)) := by
    intro hc h5 hlt
    refine al0 (n := 53) dX9_factor_52 rfl ?_
    refine k_dup (n := 54) dX9_factor_53 rfl rfl ?_
    refine gsX9_129 (n := 57) dX9_factor_54 rfl rfl rfl ?_
    rw [h10]
    refine k_iconst (a := 1) (n := 58) dX9_factor_57 rfl rfl ?_
    refine k_iadd (n := 59) dX9_factor_58 rfl ?_
    rw [nI_1 op]
    refine psX9_129 (n := 62) dX9_factor_59 rfl rfl rfl ?_
    refine al0 (n := 63) dX9_factor_62 rfl ?_
    refine k_dup (n := 64) dX9_factor_63 rfl rfl ?_
    refine gsX9_101 (n := 67) dX9_factor_64 rfl rfl rfl ?_
    rw [show upd o 10 (nI (op + 1)) 8 = o 8 from pk_un (by decide), h8]
    refine k_iconst (a := 1) (n := 68) dX9_factor_67 rfl rfl ?_
    refine k_iadd (n := 69) dX9_factor_68 rfl ?_
    rw [nI_1 a]
    refine psX9_101 (n := 72) dX9_factor_69 rfl rfl rfl ?_
    refine il1 (n := 73) dX9_factor_72 rfl ?_
    refine k_bipush (a := 33) (n := 75) dX9_factor_73 rfl rfl ?_
    refine k_icmp_ne (t := 85) (n := 78) dX9_factor_75 (by decide) rfl (fun h75 => ?_) (fun h75 => ?_)
    · refine al0 (n := 86) dX9_factor_85 rfl ?_
      refine qX9_135 (n := 89) dX9_factor_86 rfl rfl (Nat.le_of_ble_eq_true rfl) (by omega) (Nat.le_refl _) (Nat.le_refl _) rfl (hW n (Nat.le_refl _) (d - 1) I (upd (upd o 10 (nI (op + 1))) 8 (nI (a + 1))) G e (a + 1) (op + 1) (h.mv (fun j a1 a2 a3 => (pk_un a1).trans (pk_un a2))) (by omega) (by omega) pk_us ((pk_un (by decide)).trans pk_us) ((pk_un (by decide)).trans ((pk_un (by decide)).trans h14)) (by omega) (by omega)) ?_
      rintro _ _ ⟨p1, rfl, rfl, h81, h141, hp1⟩
      dsimp only [Option.toList, List.cons_append, List.nil_append, Nat.add_zero]
      have h10b : p1 10 = nI (op + 1) := (hp1 10 (by decide) (by decide)).trans ((pk_un (by decide)).trans pk_us)
      have hz := pz_at G h.end n 0 (by decide) 0 (a + 1) (op + 1) (by omega)
      have hq : ∀ j, j ≠ 8 → j ≠ 14 → upd p1 10 (nI op) j = o j := fun j a1 a2 => by
        by_cases e10 : j = 10
        · subst e10; rw [pk_us, h10]
        · rw [pk_un e10, hp1 j a1 a2, pk_un a1, pk_un e10]
      have h1 : pC I (upd p1 10 (nI op)) G e := h.mv (fun j a1 a2 a3 => hq j a1 a3)
      refine is2 (n := 90) dX9_factor_89 rfl trivial ?_
      refine al0 (n := 91) dX9_factor_90 rfl ?_
      refine k_dup (n := 92) dX9_factor_91 rfl rfl ?_
      refine gsX9_129 (n := 95) dX9_factor_92 rfl rfl rfl ?_
      rw [h10b]
      refine k_iconst (a := 1) (n := 96) dX9_factor_95 rfl rfl ?_
      refine k_isub (n := 97) dX9_factor_96 rfl ?_
      rw [nI_pred op]
      refine psX9_129 (n := 100) dX9_factor_97 rfl rfl rfl ?_
      refine il1 (n := 101) dX9_factor_100 rfl ?_
      refine k_bipush (a := 33) (n := 103) dX9_factor_101 rfl rfl ?_
      refine k_icmp_ne (t := 116) (n := 106) dX9_factor_103 (by decide) rfl (fun h103 => ?_) (fun h103 => ?_)
      · refine al0 (n := 117) dX9_factor_116 rfl ?_
        refine gsX9_97 (n := 120) dX9_factor_117 rfl rfl rfl ?_
        rw [show upd p1 10 (nI op) 14 = p1 14 from pk_un (by decide), h141]
        refine k_ifb_eq (t := 148) (n := 123) dX9_factor_120 (by decide) rfl (fun h120 => ?_) (fun h120 => ?_)
        · refine al0 (n := 149) dX9_factor_148 rfl ?_
          refine qiX9_110 (n := 152) dX9_factor_149 rfl rfl (Nat.le_of_ble_eq_true rfl) (by omega) rfl m_fails (Nat.le_refl _) (Nat.le_refl _) ?_
          refine k_ireturn (ty := .int) dX9_factor_152 rfl rfl (Nat.le_refl _) (Nat.le_refl _) ?_
          have e5 : pz G (n + 1) 5 0 a op = if (pz G n 0 0 (a + 1) (op + 1)).2.2 then (if G.1 (pz G n 0 0 (a + 1) (op + 1)).2.1 = 41 then ((pz G n 0 0 (a + 1) (op + 1)).1, (pz G n 0 0 (a + 1) (op + 1)).2.1 + 1, true) else (0, (pz G n 0 0 (a + 1) (op + 1)).2.1, false)) else (0, (pz G n 0 0 (a + 1) (op + 1)).2.1, false) := by
            rw [pz5, if_neg (fun q => by rw [hc] at q; exact absurd q.1 (by decide)), if_neg (fun q => by rw [hc] at q; exact absurd q (by decide)), if_pos hc, if_neg h5]
          rw [e5]
          first
            | (rw [if_pos h120, if_pos h133]
               exact ⟨_, rfl, rfl, pk_us, (pk_un (by decide)).trans ((pk_un (by decide)).trans (h141.trans (by rw [h120]))), fun j a1 a2 => (pk_un a1).trans (hq j a1 a2)⟩)
            | (rw [if_pos h120, if_neg h133]
               exact ⟨_, rfl, rfl, (pk_un (by decide)).trans ((pk_un (by decide)).trans h81), pk_us, fun j a1 a2 => (pk_un a2).trans (hq j a1 a2)⟩)
            | (rw [if_neg h120]
               exact ⟨_, rfl, rfl, (pk_un (by decide)).trans ((pk_un (by decide)).trans h81), pk_us, fun j a1 a2 => (pk_un a2).trans (hq j a1 a2)⟩)
        · refine al0 (n := 124) dX9_factor_123 rfl ?_
          refine al0 (n := 125) dX9_factor_124 rfl ?_
          refine gsX9_101 (n := 128) dX9_factor_125 rfl rfl rfl ?_
          rw [show upd p1 10 (nI op) 8 = p1 8 from pk_un (by decide), h81]
          refine qiX9_104 (n := 131) dX9_factor_128 rfl rfl (Nat.le_of_ble_eq_true rfl) (by omega) rfl (m_byteAt h1 _ (by omega)) (Nat.le_refl _) (Nat.le_refl _) ?_
          refine k_bipush (a := 41) (n := 133) dX9_factor_131 rfl rfl ?_
          refine k_icmp_ne (t := 148) (n := 136) dX9_factor_133 (by decide) rfl (fun h133 => ?_) (fun h133 => ?_)
          · refine al0 (n := 149) dX9_factor_148 rfl ?_
            refine qiX9_110 (n := 152) dX9_factor_149 rfl rfl (Nat.le_of_ble_eq_true rfl) (by omega) rfl m_fails (Nat.le_refl _) (Nat.le_refl _) ?_
            refine k_ireturn (ty := .int) dX9_factor_152 rfl rfl (Nat.le_refl _) (Nat.le_refl _) ?_
            have e5 : pz G (n + 1) 5 0 a op = if (pz G n 0 0 (a + 1) (op + 1)).2.2 then (if G.1 (pz G n 0 0 (a + 1) (op + 1)).2.1 = 41 then ((pz G n 0 0 (a + 1) (op + 1)).1, (pz G n 0 0 (a + 1) (op + 1)).2.1 + 1, true) else (0, (pz G n 0 0 (a + 1) (op + 1)).2.1, false)) else (0, (pz G n 0 0 (a + 1) (op + 1)).2.1, false) := by
              rw [pz5, if_neg (fun q => by rw [hc] at q; exact absurd q.1 (by decide)), if_neg (fun q => by rw [hc] at q; exact absurd q (by decide)), if_pos hc, if_neg h5]
            rw [e5]
            first
              | (rw [if_pos h120, if_pos h133]
                 exact ⟨_, rfl, rfl, pk_us, (pk_un (by decide)).trans ((pk_un (by decide)).trans (h141.trans (by rw [h120]))), fun j a1 a2 => (pk_un a1).trans (hq j a1 a2)⟩)
              | (rw [if_pos h120, if_neg h133]
                 exact ⟨_, rfl, rfl, (pk_un (by decide)).trans ((pk_un (by decide)).trans h81), pk_us, fun j a1 a2 => (pk_un a2).trans (hq j a1 a2)⟩)
              | (rw [if_neg h120]
                 exact ⟨_, rfl, rfl, (pk_un (by decide)).trans ((pk_un (by decide)).trans h81), pk_us, fun j a1 a2 => (pk_un a2).trans (hq j a1 a2)⟩)
          · refine al0 (n := 137) dX9_factor_136 rfl ?_
            refine k_dup (n := 138) dX9_factor_137 rfl rfl ?_
            refine gsX9_101 (n := 141) dX9_factor_138 rfl rfl rfl ?_
            rw [show upd p1 10 (nI op) 8 = p1 8 from pk_un (by decide), h81]
            refine k_iconst (a := 1) (n := 142) dX9_factor_141 rfl rfl ?_
            refine k_iadd (n := 143) dX9_factor_142 rfl ?_
            rw [nI_1]
            refine psX9_101 (n := 146) dX9_factor_143 rfl rfl rfl ?_
            refine il2 (n := 147) dX9_factor_146 rfl ?_
            refine k_ireturn (ty := .int) dX9_factor_147 rfl rfl (Nat.le_refl _) (Nat.le_refl _) ?_
            have e5 : pz G (n + 1) 5 0 a op = if (pz G n 0 0 (a + 1) (op + 1)).2.2 then (if G.1 (pz G n 0 0 (a + 1) (op + 1)).2.1 = 41 then ((pz G n 0 0 (a + 1) (op + 1)).1, (pz G n 0 0 (a + 1) (op + 1)).2.1 + 1, true) else (0, (pz G n 0 0 (a + 1) (op + 1)).2.1, false)) else (0, (pz G n 0 0 (a + 1) (op + 1)).2.1, false) := by
              rw [pz5, if_neg (fun q => by rw [hc] at q; exact absurd q.1 (by decide)), if_neg (fun q => by rw [hc] at q; exact absurd q (by decide)), if_pos hc, if_neg h5]
            rw [e5]
            first
              | (rw [if_pos h120, if_pos h133]
                 exact ⟨_, rfl, rfl, pk_us, (pk_un (by decide)).trans ((pk_un (by decide)).trans (h141.trans (by rw [h120]))), fun j a1 a2 => (pk_un a1).trans (hq j a1 a2)⟩)
              | (rw [if_pos h120, if_neg h133]
                 exact ⟨_, rfl, rfl, (pk_un (by decide)).trans ((pk_un (by decide)).trans h81), pk_us, fun j a1 a2 => (pk_un a2).trans (hq j a1 a2)⟩)
              | (rw [if_neg h120]
                 exact ⟨_, rfl, rfl, (pk_un (by decide)).trans ((pk_un (by decide)).trans h81), pk_us, fun j a1 a2 => (pk_un a2).trans (hq j a1 a2)⟩)
      · exact absurd (hc.symm.trans h103) (by decide)
    · exact absurd (hc.symm.trans h75) (by decide)
  refine Ct.of (L := [some (.ref 81), none, none]) rfl rfl (Nat.le_of_ble_eq_true rfl) ?_
  refine al0 (n := 1) dX9_factor_0 rfl ?_
  refine al0 (n := 2) dX9_factor_1 rfl ?_
  refine gsX9_101 (n := 5) dX9_factor_2 rfl rfl rfl ?_
  rw [h8]
  refine qiX9_104 (n := 8) dX9_factor_5 rfl rfl (Nat.le_of_ble_eq_true rfl) (by omega) rfl (m_byteAt h a (by omega)) (Nat.le_refl _) (Nat.le_refl _) ?_
  refine is1 (n := 9) dX9_factor_8 rfl trivial ?_
  refine il1 (n := 10) dX9_factor_9 rfl ?_
  refine qiX9_107 (n := 13) dX9_factor_10 rfl rfl (Nat.le_of_ble_eq_true rfl) (by omega) (m_isDigit (by omega) _) (Nat.le_refl _) (Nat.le_refl _) ?_
  refine k_ifb_eq (t := 21) (n := 16) dX9_factor_13 (by decide) rfl (fun h13 => ?_) (fun h13 => ?_)
  · refine il1 (n := 22) dX9_factor_21 rfl ?_
    refine k_bipush (a := 33) (n := 24) dX9_factor_22 rfl rfl ?_
    refine k_icmp_eq (t := 39) (n := 27) dX9_factor_24 (by decide) rfl (fun h24 => ?_) (fun h24 => ?_)
    · refine al0 (n := 40) dX9_factor_39 rfl ?_
      refine gsX9_129 (n := 43) dX9_factor_40 rfl rfl rfl ?_
      rw [h10]
      refine k_iconst (a := 5) (n := 44) dX9_factor_43 rfl rfl ?_
      refine k_icmp_ne (t := 52) (n := 47) dX9_factor_44 (by decide) rfl (fun h44 => ?_) (fun h44 => ?_)
      · have h5 : ¬ op = 5 := fun q => h44 (by rw [q]; rfl)
        first
          | exact k33 h24 h5 (h.lt (fun q => by rw [h24] at q; exact absurd q (by decide)))
          | exact k40 h30 h5 (h.lt (fun q => by rw [h30] at q; exact absurd q (by decide)))
      · have h5 : op = 5 := by
          have := congrArg Int32.toNatClampNeg (show nI op = nI 5 from h44)
          rwa [kcl (by omega), kcl (by omega)] at this
        refine al0 (n := 48) dX9_factor_47 rfl ?_
        refine qiX9_110 (n := 51) dX9_factor_48 rfl rfl (Nat.le_of_ble_eq_true rfl) (by omega) rfl m_fails (Nat.le_refl _) (Nat.le_refl _) ?_
        refine k_ireturn (ty := .int) dX9_factor_51 rfl rfl (Nat.le_refl _) (Nat.le_refl _) ?_
        have ez : pz G (n + 1) 5 0 a op = (0, a, false) := by
          rw [pz5, if_neg h13]
          by_cases q : G.1 a = 33
          · rw [if_pos q, if_pos h5]
          · rw [if_neg q]
            first
              | exact absurd h24 q
              | rw [if_pos h30, if_pos h5]
        rw [ez]
        exact ⟨_, rfl, rfl, (pk_un (by decide)).trans h8, pk_us, fun j a1 a2 => pk_un a2⟩
    · refine il1 (n := 28) dX9_factor_27 rfl ?_
      refine k_bipush (a := 40) (n := 30) dX9_factor_28 rfl rfl ?_
      refine k_icmp_eq (t := 39) (n := 33) dX9_factor_30 (by decide) rfl (fun h30 => ?_) (fun h30 => ?_)
      · refine al0 (n := 40) dX9_factor_39 rfl ?_
        refine gsX9_129 (n := 43) dX9_factor_40 rfl rfl rfl ?_
        rw [h10]
        refine k_iconst (a := 5) (n := 44) dX9_factor_43 rfl rfl ?_
        refine k_icmp_ne (t := 52) (n := 47) dX9_factor_44 (by decide) rfl (fun h44 => ?_) (fun h44 => ?_)
        · have h5 : ¬ op = 5 := fun q => h44 (by rw [q]; rfl)
          first
            | exact k33 h24 h5 (h.lt (fun q => by rw [h24] at q; exact absurd q (by decide)))
            | exact k40 h30 h5 (h.lt (fun q => by rw [h30] at q; exact absurd q (by decide)))
        · have h5 : op = 5 := by
            have := congrArg Int32.toNatClampNeg (show nI op = nI 5 from h44)
            rwa [kcl (by omega), kcl (by omega)] at this
          refine al0 (n := 48) dX9_factor_47 rfl ?_
          refine qiX9_110 (n := 51) dX9_factor_48 rfl rfl (Nat.le_of_ble_eq_true rfl) (by omega) rfl m_fails (Nat.le_refl _) (Nat.le_refl _) ?_
          refine k_ireturn (ty := .int) dX9_factor_51 rfl rfl (Nat.le_refl _) (Nat.le_refl _) ?_
          have ez : pz G (n + 1) 5 0 a op = (0, a, false) := by
            rw [pz5, if_neg h13]
            by_cases q : G.1 a = 33
            · rw [if_pos q, if_pos h5]
            · rw [if_neg q]
              first
                | exact absurd h24 q
                | rw [if_pos h30, if_pos h5]
          rw [ez]
          exact ⟨_, rfl, rfl, (pk_un (by decide)).trans h8, pk_us, fun j a1 a2 => pk_un a2⟩
      · refine al0 (n := 34) dX9_factor_33 rfl ?_
        refine il1 (n := 35) dX9_factor_34 rfl ?_
        refine qX9_126 (n := 38) dX9_factor_35 rfl rfl (Nat.le_of_ble_eq_true rfl) (by omega) (Nat.le_refl _) (Nat.le_refl _) rfl (m_named (by omega) h a ha h8 h14 _) ?_
        rintro _ _ ⟨p1, rfl, rfl, h81, h141, hp1⟩
        dsimp only [Option.toList, List.cons_append, List.nil_append, Nat.add_zero]
        refine k_ireturn (ty := .int) dX9_factor_38 rfl rfl (Nat.le_refl _) (Nat.le_refl _) ?_
        have ez : pz G (n + 1) 5 0 a op = namF G (G.1 a) a := by rw [pz5, if_neg h13, if_neg h24, if_neg h30]
        rw [ez]
        exact ⟨p1, rfl, rfl, h81, h141, hp1⟩
  · refine al0 (n := 17) dX9_factor_16 rfl ?_
    refine qX9_123 (n := 20) dX9_factor_17 rfl rfl (Nat.le_of_ble_eq_true rfl) (by omega) (Nat.le_refl _) (Nat.le_refl _) rfl (m_number (by omega) h a ha h8 h14) ?_
    rintro _ _ ⟨p1, rfl, rfl, h81, h141, hp1⟩
    dsimp only [Option.toList, List.cons_append, List.nil_append, Nat.add_zero]
    refine k_ireturn (ty := .int) dX9_factor_20 rfl rfl (Nat.le_refl _) (Nat.le_refl _) ?_
    have ez : pz G (n + 1) 5 0 a op = ((numF G.1 4 0 a).1, (numF G.1 4 0 a).2, true) := by rw [pz5, if_pos h13]
    rw [ez]
    exact ⟨p1, rfl, rfl, h81, h141, hp1⟩
theorem pOK_0 (y : kY) (md : Nat) : pOK E y 0 md := by
  intro d I o G e a op h ha hop h8 h10 h14 hf hd
  exfalso
  omega
/-- all levels, at every fuel -/
theorem pv_all : ∀ n, pOK E mX9_whole n 0 ∧ pOK E mX9_both n 1 ∧ pOK E mX9_compared n 2 ∧ pOK E mX9_sum n 3 ∧ pOK E mX9_product n 4 ∧ pOK E mX9_factor n 5 := by
  intro n
  induction n using Nat.strongRecOn with
  | ind n ih =>
    cases n with
    | zero => exact ⟨pOK_0 _ _, pOK_0 _ _, pOK_0 _ _, pOK_0 _ _, pOK_0 _ _, pOK_0 _ _⟩
    | succ n =>
      exact ⟨pv_whole n (fun m hm => (ih m (by omega)).2.1), pv_both n (fun m hm => (ih m (by omega)).2.2.1), pv_compared n (fun m hm => (ih m (by omega)).2.2.2.1), pv_sum n (fun m hm => (ih m (by omega)).2.2.2.2.1), pv_product n (fun m hm => (ih m (by omega)).2.2.2.2.2), pv_factor n (fun m hm => (ih m (by omega)).2.2.2.2.2) (fun m hm => (ih m (by omega)).1)⟩
end M17

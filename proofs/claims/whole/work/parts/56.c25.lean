section C25
variable {E : kE} {d : Nat} {y : kY} {cl sl mc ms pc n : Nat} {L : List (Option Value)} {st : List Value} {M : kM} {Q Qc : Option Value → kM → Prop}
/-- memories whose numbers are looked up fast -/
def wP (M : kM) (k j : Nat) (a : Option Nat) : kM := (M.1, (fun k' j' => cond (Nat.beq k' k && Nat.beq j' j) a (M.2.1 k' j')), M.2.2)
def wI (M : kM) (k j : Nat) (a : Int32) : kM := (M.1, M.2.1, fun k' j' => cond (Nat.beq k' k && Nat.beq j' j) a (M.2.2 k' j'))
def wN (M : kM) (z : Nat) (q : Nat × Nat) : kM := (M.1 ++ [q], (fun k' j' => cond (Nat.beq k' z) none (M.2.1 k' j')), fun k' j' => cond (Nat.beq k' z) 0 (M.2.2 k' j'))
def wC (M : kM) (k : Nat) (f : Nat → Int32) : kM := (M.1, M.2.1, fun k' j' => cond (Nat.beq k' k) (f j') (M.2.2 k' j'))
theorem wbq (a b : Nat) : (Nat.beq a b = true) = (a = b) := propext ⟨Nat.eq_of_beq_eq_true, fun h => h ▸ Nat.beq_refl a⟩
theorem wit2 {α : Type} (a b c e : Nat) (x y : α) : (cond (Nat.beq a b && Nat.beq c e) x y) = if a = b ∧ c = e then x else y := by
  by_cases h : a = b ∧ c = e
  · rw [if_pos h, h.1, h.2, Nat.beq_refl, Nat.beq_refl]; rfl
  · rw [if_neg h]
    have : (Nat.beq a b && Nat.beq c e) = false := by
      rw [Bool.eq_false_iff]
      intro z
      rw [Bool.and_eq_true, wbq, wbq] at z
      exact h z
    rw [this]; rfl
theorem wit1 {α : Type} (a b : Nat) (x y : α) : (cond (Nat.beq a b) x y) = if a = b then x else y := by
  by_cases h : a = b
  · rw [if_pos h, h, Nat.beq_refl]; rfl
  · rw [if_neg h]
    have : Nat.beq a b = false := by
      rw [Bool.eq_false_iff]
      intro z
      rw [wbq] at z
      exact h z
    rw [this]; rfl
theorem wP_eq (M : kM) (k j : Nat) (a : Option Nat) : kputP M k j a = wP M k j a := by
  unfold kputP wP; congr 2; funext k' j'; rw [wit2]
theorem wI_eq (M : kM) (k j : Nat) (a : Int32) : kput M k j a = wI M k j a := by
  unfold kput wI; congr 2; funext k' j'; rw [wit2]
theorem wN_eq {M : kM} {z : Nat} (q : Nat × Nat) (h : M.1.length = z) : kpush M q = wN M z q := by
  subst h; unfold kpush wN; congr 2
  · funext k' j'; rw [wit1]
  · funext k' j'; rw [wit1]
theorem wC_eq (M : kM) (k : Nat) (f : Nat → Int32) : kcopy M k f = wC M k f := by
  unfold kcopy wC; congr 2; funext k' j'; rw [wit1]
def fU0 : Nat → Int32 := fun j => ([1, -2, 20, -47, -43] : List Int32).getD j 0
def fU1 : Nat → Int32 := fun j => ([-2, 100, -1, 1, -43, -42, -60] : List Int32).getD j 0
theorem rU0 : kRd E M 1002 5 fU0 := Or.inr ⟨by decide, by decide, rfl, rfl⟩
theorem rU1 : kRd E M 1003 7 fU1 := Or.inr ⟨by decide, by decide, rfl, rfl⟩
theorem w_min {a b r : Int32} (hd : decode y.2.1 pc = .ok (.invokestatic 29, 3)) (hn : pc + 3 = n) (hy : RX3 = y.1.cls) (hst : (st.map fun v => v.category).sum ≤ 8) (h1 : cl ≤ mc) (h2 : sl ≤ ms) (hr : (if b < a then b else a) = r) (kk : Wd E d y cl sl mc ms n L (.int r :: st) M Q) : Wd E d y cl sl mc ms pc L (.int b :: .int a :: st) M Q := qX3_29 hd hn hy hst h1 h2 (by rw [hr]; exact kk)
theorem dfX0 : ∀ j, j < 13 → defaultValue (tyX0 j) = kfv E (kfk 0 j) none 0 := by
  intro j hj
  rcases (show j = 0 ∨ j = 1 ∨ j = 2 ∨ j = 3 ∨ j = 4 ∨ j = 5 ∨ j = 6 ∨ j = 7 ∨ j = 8 ∨ j = 9 ∨ j = 10 ∨ j = 11 ∨ j = 12 by omega) with rfl | rfl | rfl | rfl | rfl | rfl | rfl | rfl | rfl | rfl | rfl | rfl | rfl <;> rfl
theorem dfX1 : ∀ j, j < 7 → defaultValue (tyX1 j) = kfv E (kfk 1 j) none 0 := by
  intro j hj
  rcases (show j = 0 ∨ j = 1 ∨ j = 2 ∨ j = 3 ∨ j = 4 ∨ j = 5 ∨ j = 6 by omega) with rfl | rfl | rfl | rfl | rfl | rfl | rfl <;> rfl
theorem dfX2 : ∀ j, j < 8 → defaultValue (tyX2 j) = kfv E (kfk 2 j) none 0 := by
  intro j hj
  rcases (show j = 0 ∨ j = 1 ∨ j = 2 ∨ j = 3 ∨ j = 4 ∨ j = 5 ∨ j = 6 ∨ j = 7 by omega) with rfl | rfl | rfl | rfl | rfl | rfl | rfl | rfl <;> rfl
theorem dfX3 : ∀ j, j < 5 → defaultValue (tyX3 j) = kfv E (kfk 3 j) none 0 := by
  intro j hj
  rcases (show j = 0 ∨ j = 1 ∨ j = 2 ∨ j = 3 ∨ j = 4 by omega) with rfl | rfl | rfl | rfl | rfl <;> rfl
theorem dfX4 : ∀ j, j < 6 → defaultValue (tyX4 j) = kfv E (kfk 4 j) none 0 := by
  intro j hj
  rcases (show j = 0 ∨ j = 1 ∨ j = 2 ∨ j = 3 ∨ j = 4 ∨ j = 5 by omega) with rfl | rfl | rfl | rfl | rfl | rfl <;> rfl
theorem dfX5 : ∀ j, j < 3 → defaultValue (tyX5 j) = kfv E (kfk 5 j) none 0 := by
  intro j hj
  rcases (show j = 0 ∨ j = 1 ∨ j = 2 by omega) with rfl | rfl | rfl <;> rfl
theorem dfX6 : ∀ j, j < 2 → defaultValue (tyX6 j) = kfv E (kfk 6 j) none 0 := by
  intro j hj
  rcases (show j = 0 ∨ j = 1 by omega) with rfl | rfl <;> rfl
theorem dfX7 : ∀ j, j < 5 → defaultValue (tyX7 j) = kfv E (kfk 7 j) none 0 := by
  intro j hj
  rcases (show j = 0 ∨ j = 1 ∨ j = 2 ∨ j = 3 ∨ j = 4 by omega) with rfl | rfl | rfl | rfl | rfl <;> rfl
theorem dfX8 : ∀ j, j < 8 → defaultValue (tyX8 j) = kfv E (kfk 8 j) none 0 := by
  intro j hj
  rcases (show j = 0 ∨ j = 1 ∨ j = 2 ∨ j = 3 ∨ j = 4 ∨ j = 5 ∨ j = 6 ∨ j = 7 by omega) with rfl | rfl | rfl | rfl | rfl | rfl | rfl | rfl <;> rfl
theorem dfX9 : ∀ j, j < 24 → defaultValue (tyX9 j) = kfv E (kfk 9 j) none 0 := by
  intro j hj
  rcases (show j = 0 ∨ j = 1 ∨ j = 2 ∨ j = 3 ∨ j = 4 ∨ j = 5 ∨ j = 6 ∨ j = 7 ∨ j = 8 ∨ j = 9 ∨ j = 10 ∨ j = 11 ∨ j = 12 ∨ j = 13 ∨ j = 14 ∨ j = 15 ∨ j = 16 ∨ j = 17 ∨ j = 18 ∨ j = 19 ∨ j = 20 ∨ j = 21 ∨ j = 22 ∨ j = 23 by omega) with rfl | rfl | rfl | rfl | rfl | rfl | rfl | rfl | rfl | rfl | rfl | rfl | rfl | rfl | rfl | rfl | rfl | rfl | rfl | rfl | rfl | rfl | rfl | rfl <;> rfl
theorem nX8_9 {k mc' ms' : Nat} (hd : decode y.2.1 pc = .ok (.invokespecial 9, 3)) (hn : pc + 3 = n) (hy : RX8 = y.1.cls) (hst : (st.map fun v => v.category).sum ≤ 8) (h1 : 1 ≤ d) (hr1 : cl + mc' ≤ mc) (hr2 : sl + ms' ≤ ms) (hM : Ct E (d - 1) mX2_init mc' ms' (.ref k :: []) M Qc) (kk : ∀ (v : Option Value) (M' : kM), Qc v M' → Wd E d y (cl + mc') (sl + ms') mc ms n L (v.toList ++ st) M' Q) : Wd E d y cl sl mc ms pc L (.ref k :: st) M Q := k_invIN (As := []) hd hn wX2_init rfl rfl (hy ▸ List.mem_of_getElem? (i := 0) (show kNestM[0]? = some (RX8, 9, mX2_init.1) from rfl)) (gwi 30 (by decide +kernel) rfl) rfl hst h1 hr1 hr2 hM kk
theorem nX0_44 {k mc' ms' : Nat} (hd : decode y.2.1 pc = .ok (.invokespecial 44, 3)) (hn : pc + 3 = n) (hy : RX0 = y.1.cls) (hst : (st.map fun v => v.category).sum ≤ 8) (h1 : 1 ≤ d) (hr1 : cl + mc' ≤ mc) (hr2 : sl + ms' ≤ ms) (hM : Ct E (d - 1) mX6_init mc' ms' (.ref k :: []) M Qc) (kk : ∀ (v : Option Value) (M' : kM), Qc v M' → Wd E d y (cl + mc') (sl + ms') mc ms n L (v.toList ++ st) M' Q) : Wd E d y cl sl mc ms pc L (.ref k :: st) M Q := k_invIN (As := []) hd hn wX6_init rfl rfl (hy ▸ List.mem_of_getElem? (i := 1) (show kNestM[1]? = some (RX0, 44, mX6_init.1) from rfl)) (gwi 84 (by decide +kernel) rfl) rfl hst h1 hr1 hr2 hM kk
theorem nX0_45 {k mc' ms' : Nat} (hd : decode y.2.1 pc = .ok (.invokespecial 45, 3)) (hn : pc + 3 = n) (hy : RX0 = y.1.cls) (hst : (st.map fun v => v.category).sum ≤ 8) (h1 : 1 ≤ d) (hr1 : cl + mc' ≤ mc) (hr2 : sl + ms' ≤ ms) (hM : Ct E (d - 1) mX1_init mc' ms' (.ref k :: []) M Qc) (kk : ∀ (v : Option Value) (M' : kM), Qc v M' → Wd E d y (cl + mc') (sl + ms') mc ms n L (v.toList ++ st) M' Q) : Wd E d y cl sl mc ms pc L (.ref k :: st) M Q := k_invIN (As := []) hd hn wX1_init rfl rfl (hy ▸ List.mem_of_getElem? (i := 2) (show kNestM[2]? = some (RX0, 45, mX1_init.1) from rfl)) (gwi 100 (by decide +kernel) rfl) rfl hst h1 hr1 hr2 hM kk
theorem nX8_50 {k mc' ms' : Nat} (hd : decode y.2.1 pc = .ok (.invokespecial 50, 3)) (hn : pc + 3 = n) (hy : RX8 = y.1.cls) (hst : (st.map fun v => v.category).sum ≤ 8) (h1 : 1 ≤ d) (hr1 : cl + mc' ≤ mc) (hr2 : sl + ms' ≤ ms) (hM : Ct E (d - 1) mX7_init mc' ms' (.ref k :: []) M Qc) (kk : ∀ (v : Option Value) (M' : kM), Qc v M' → Wd E d y (cl + mc') (sl + ms') mc ms n L (v.toList ++ st) M' Q) : Wd E d y cl sl mc ms pc L (.ref k :: st) M Q := k_invIN (As := []) hd hn wX7_init rfl rfl (hy ▸ List.mem_of_getElem? (i := 3) (show kNestM[3]? = some (RX8, 50, mX7_init.1) from rfl)) (gwi 256 (by decide +kernel) rfl) rfl hst h1 hr1 hr2 hM kk
theorem nX8_64 {k mc' ms' : Nat} (hd : decode y.2.1 pc = .ok (.invokespecial 64, 3)) (hn : pc + 3 = n) (hy : RX8 = y.1.cls) (hst : (st.map fun v => v.category).sum ≤ 8) (h1 : 1 ≤ d) (hr1 : cl + mc' ≤ mc) (hr2 : sl + ms' ≤ ms) (hM : Ct E (d - 1) mX5_init mc' ms' (.ref k :: []) M Qc) (kk : ∀ (v : Option Value) (M' : kM), Qc v M' → Wd E d y (cl + mc') (sl + ms') mc ms n L (v.toList ++ st) M' Q) : Wd E d y cl sl mc ms pc L (.ref k :: st) M Q := k_invIN (As := []) hd hn wX5_init rfl rfl (hy ▸ List.mem_of_getElem? (i := 4) (show kNestM[4]? = some (RX8, 64, mX5_init.1) from rfl)) (gwi 281 (by decide +kernel) rfl) rfl hst h1 hr1 hr2 hM kk
def W0 : kM := ([], (fun _ _ => none), fun _ _ => 0)
theorem e0 : W0.1 = SS.take 0 := rfl
def W1 : kM := wN W0 0 (8, 8)
theorem e1 : W1.1 = SS.take 1 := by
  show W0.1 ++ [(8, 8)] = _
  rw [e0]; decide +kernel
def W2 : kM := wN W1 1 (2, 8)
theorem e2 : W2.1 = SS.take 2 := by
  show W1.1 ++ [(2, 8)] = _
  rw [e1]; decide +kernel
def W3 : kM := wN W2 2 (3, 5)
theorem e3 : W3.1 = SS.take 3 := by
  show W2.1 ++ [(3, 5)] = _
  rw [e2]; decide +kernel
def W4 : kM := wN W3 3 (100, 50)
theorem e4 : W4.1 = SS.take 4 := by
  show W3.1 ++ [(100, 50)] = _
  rw [e3]; decide +kernel
def W5 : kM := wP W4 2 0 (some 3)
theorem e5 : W5.1 = SS.take 4 := e4
def W6 : kM := wN W5 4 (100, 50)
theorem e6 : W6.1 = SS.take 5 := by
  show W5.1 ++ [(100, 50)] = _
  rw [e5]; decide +kernel
def W7 : kM := wP W6 2 1 (some 4)
theorem e7 : W7.1 = SS.take 5 := e6
def W8 : kM := wI W7 2 2 1
theorem e8 : W8.1 = SS.take 5 := e7
def W9 : kM := wI W8 2 3 9
theorem e9 : W9.1 = SS.take 5 := e8
def W10 : kM := wI W9 2 4 5
theorem e10 : W10.1 = SS.take 5 := e9
def W11 : kM := wC W10 3 (va_cpy fU0 (W10.2.2 3) 0 0 5)
theorem e11 : W11.1 = SS.take 5 := e10
set_option maxHeartbeats 1000000 in
set_option maxRecDepth 20000 in
theorem i_4_X3_takeCode : Ct E 96 mX3_takeCode 0 0 [.ref 2, .ref 1002, .int 5] W9 (fun v M => v = none ∧ M = W11) := by
  refine Ct.of (L := [some (.ref 2), some (.ref 1002), some (.int 5)]) rfl rfl (Nat.le_of_ble_eq_true rfl) ?_
  refine al0 (n := 1) dX3_takeCode_0 rfl ?_
  refine il2 (n := 2) dX3_takeCode_1 rfl ?_
  refine al1 (n := 3) dX3_takeCode_2 rfl ?_
  refine k_alen (n := 4) dX3_takeCode_3 rfl rU0 ?_
  rw [show nI 5 = (5 : Int32) from rfl]
  refine w_min (r := 5) (n := 7) dX3_takeCode_4 rfl rfl (Nat.le_of_ble_eq_true rfl) (Nat.le_of_ble_eq_true rfl) (Nat.le_of_ble_eq_true rfl) (by decide) ?_
  refine al0 (n := 8) dX3_takeCode_7 rfl ?_
  refine ggX3_9 (q := 3) (n := 11) dX3_takeCode_8 rfl rfl (show W9.1[2]? = some (3, 5) by rw [e9]; rfl) (by decide +kernel) ?_
  refine k_alen (z := 50) (n := 12) dX3_takeCode_11 rfl (Or.inl ⟨(show W9.1[3]? = some (100, 50) by rw [e9]; rfl), rfl⟩) ?_
  rw [show nI 50 = (50 : Int32) from rfl]
  refine w_min (r := 5) (n := 15) dX3_takeCode_12 rfl rfl (Nat.le_of_ble_eq_true rfl) (Nat.le_of_ble_eq_true rfl) (Nat.le_of_ble_eq_true rfl) (by decide) ?_
  refine ppX3_35 (n := 18) dX3_takeCode_15 rfl rfl (show W9.1[2]? = some (3, 5) by rw [e9]; rfl) ?_
  rw [wI_eq, show wI W9 2 4 5 = W10 from rfl]
  refine al1 (n := 19) dX3_takeCode_18 rfl ?_
  refine k_iconst (a := 0) (n := 20) dX3_takeCode_19 rfl rfl ?_
  refine al0 (n := 21) dX3_takeCode_20 rfl ?_
  refine ggX3_9 (q := 3) (n := 24) dX3_takeCode_21 rfl rfl (show W10.1[2]? = some (3, 5) by rw [e10]; rfl) (by decide +kernel) ?_
  refine k_iconst (a := 0) (n := 25) dX3_takeCode_24 rfl rfl ?_
  refine al0 (n := 26) dX3_takeCode_25 rfl ?_
  refine ggX3_35 (n := 29) dX3_takeCode_26 rfl rfl (show W10.1[2]? = some (3, 5) by rw [e10]; rfl) ?_
  rw [show W10.2.2 2 4 = 5 by decide +kernel]
  refine qX3_38 (k0 := 1002) (n0 := 5) (n1 := 50) (a := 0) (b := 0) (z := 5) (f := fU0) (n := 32) dX3_takeCode_29 rfl rfl rU0 (show W10.1[3]? = some (100, 50) by rw [e10]; rfl) rfl rfl rfl (by decide) (by decide) (by decide) (by decide) (Nat.le_of_ble_eq_true rfl) ?_
  rw [wC_eq, show wC W10 3 (va_cpy fU0 (W10.2.2 3) 0 0 5) = W11 from rfl]
  exact k_return dX3_takeCode_32 rfl (Nat.le_of_ble_eq_true rfl) (Nat.le_of_ble_eq_true rfl) ⟨rfl, rfl⟩
set_option maxHeartbeats 1000000 in
set_option maxRecDepth 20000 in
theorem i_3_X3_init : Ct E 97 mX3_init 2 100 [.ref 2, .int 1, .int 9, .ref 1002] W3 (fun v M => v = none ∧ M = W11) := by
  refine Ct.of (L := [some (.ref 2), some (.int 1), some (.int 9), some (.ref 1002)]) rfl rfl (Nat.le_of_ble_eq_true rfl) ?_
  refine al0 (n := 1) dX3_init_0 rfl ?_
  refine qX3_3 (n := 4) dX3_init_1 rfl rfl (Nat.le_of_ble_eq_true rfl) ?_
  refine al0 (n := 5) dX3_init_4 rfl ?_
  refine k_bipush (a := 50) (n := 7) dX3_init_5 rfl rfl ?_
  refine k_newa (z := 50) (n := 9) dX3_init_7 rfl (gwi 69 (by decide +kernel) rfl) rfl (by decide) (Nat.le_of_ble_eq_true rfl) (Nat.le_of_ble_eq_true rfl) (by rw [e3]; decide) ?_
  rw [wN_eq (z := 3) _ (by rw [e3]; rfl), show W3.1.length = 3 by rw [e3]; rfl, show wN W3 3 (100, 50) = W4 from rfl]
  refine ppX3_9 (n := 12) dX3_init_9 rfl rfl rfl (show W4.1[2]? = some (3, 5) by rw [e4]; rfl) ?_
  rw [wP_eq, show wP W4 2 0 (some 3) = W5 from rfl]
  refine al0 (n := 13) dX3_init_12 rfl ?_
  refine k_bipush (a := 50) (n := 15) dX3_init_13 rfl rfl ?_
  refine k_newa (z := 50) (n := 17) dX3_init_15 rfl (gwi 69 (by decide +kernel) rfl) rfl (by decide) (Nat.le_of_ble_eq_true rfl) (Nat.le_of_ble_eq_true rfl) (by rw [e5]; decide) ?_
  rw [wN_eq (z := 4) _ (by rw [e5]; rfl), show W5.1.length = 4 by rw [e5]; rfl, show wN W5 4 (100, 50) = W6 from rfl]
  refine ppX3_15 (n := 20) dX3_init_17 rfl rfl rfl (show W6.1[2]? = some (3, 5) by rw [e6]; rfl) ?_
  rw [wP_eq, show wP W6 2 1 (some 4) = W7 from rfl]
  refine al0 (n := 21) dX3_init_20 rfl ?_
  refine il1 (n := 22) dX3_init_21 rfl ?_
  refine ppX3_18 (n := 25) dX3_init_22 rfl rfl rfl (show W7.1[2]? = some (3, 5) by rw [e7]; rfl) ?_
  rw [wI_eq, show wI W7 2 2 1 = W8 from rfl]
  refine al0 (n := 26) dX3_init_25 rfl ?_
  refine il2 (n := 27) dX3_init_26 rfl ?_
  refine ppX3_22 (n := 30) dX3_init_27 rfl rfl rfl (show W8.1[2]? = some (3, 5) by rw [e8]; rfl) ?_
  rw [wI_eq, show wI W8 2 3 9 = W9 from rfl]
  refine al0 (n := 31) dX3_init_30 rfl ?_
  refine al3 (n := 32) dX3_init_31 rfl ?_
  refine al3 (n := 33) dX3_init_32 rfl ?_
  refine k_alen (n := 34) dX3_init_33 rfl rU0 ?_
  rw [show nI 5 = (5 : Int32) from rfl]
  refine qX3_25 (n := 37) dX3_init_34 rfl rfl (Nat.le_of_ble_eq_true rfl) (by decide) (Nat.le_of_ble_eq_true rfl) (Nat.le_of_ble_eq_true rfl) (show W9.1[2]? = some (3, 5) by rw [e9]; rfl) i_4_X3_takeCode (fun v M h => ?_)
  obtain ⟨rfl, rfl⟩ := h
  dsimp only [Option.toList, List.nil_append]
  exact k_return dX3_init_37 rfl (Nat.le_of_ble_eq_true rfl) (Nat.le_of_ble_eq_true rfl) ⟨rfl, rfl⟩
def W12 : kM := wP W11 1 0 (some 2)
theorem e12 : W12.1 = SS.take 5 := e11
def W13 : kM := wN W12 5 (3, 5)
theorem e13 : W13.1 = SS.take 6 := by
  show W12.1 ++ [(3, 5)] = _
  rw [e12]; decide +kernel
def W14 : kM := wN W13 6 (100, 50)
theorem e14 : W14.1 = SS.take 7 := by
  show W13.1 ++ [(100, 50)] = _
  rw [e13]; decide +kernel
def W15 : kM := wP W14 5 0 (some 6)
theorem e15 : W15.1 = SS.take 7 := e14
def W16 : kM := wN W15 7 (100, 50)
theorem e16 : W16.1 = SS.take 8 := by
  show W15.1 ++ [(100, 50)] = _
  rw [e15]; decide +kernel
def W17 : kM := wP W16 5 1 (some 7)
theorem e17 : W17.1 = SS.take 8 := e16
def W18 : kM := wI W17 5 2 0
theorem e18 : W18.1 = SS.take 8 := e17
def W19 : kM := wI W18 5 3 1
theorem e19 : W19.1 = SS.take 8 := e18
def W20 : kM := wI W19 5 4 7
theorem e20 : W20.1 = SS.take 8 := e19
def W21 : kM := wC W20 6 (va_cpy fU1 (W20.2.2 6) 0 0 7)
theorem e21 : W21.1 = SS.take 8 := e20
set_option maxHeartbeats 1000000 in
set_option maxRecDepth 20000 in
theorem i_6_X3_takeCode : Ct E 96 mX3_takeCode 0 0 [.ref 5, .ref 1003, .int 7] W19 (fun v M => v = none ∧ M = W21) := by
  refine Ct.of (L := [some (.ref 5), some (.ref 1003), some (.int 7)]) rfl rfl (Nat.le_of_ble_eq_true rfl) ?_
  refine al0 (n := 1) dX3_takeCode_0 rfl ?_
  refine il2 (n := 2) dX3_takeCode_1 rfl ?_
  refine al1 (n := 3) dX3_takeCode_2 rfl ?_
  refine k_alen (n := 4) dX3_takeCode_3 rfl rU1 ?_
  rw [show nI 7 = (7 : Int32) from rfl]
  refine w_min (r := 7) (n := 7) dX3_takeCode_4 rfl rfl (Nat.le_of_ble_eq_true rfl) (Nat.le_of_ble_eq_true rfl) (Nat.le_of_ble_eq_true rfl) (by decide) ?_
  refine al0 (n := 8) dX3_takeCode_7 rfl ?_
  refine ggX3_9 (q := 6) (n := 11) dX3_takeCode_8 rfl rfl (show W19.1[5]? = some (3, 5) by rw [e19]; rfl) (by decide +kernel) ?_
  refine k_alen (z := 50) (n := 12) dX3_takeCode_11 rfl (Or.inl ⟨(show W19.1[6]? = some (100, 50) by rw [e19]; rfl), rfl⟩) ?_
  rw [show nI 50 = (50 : Int32) from rfl]
  refine w_min (r := 7) (n := 15) dX3_takeCode_12 rfl rfl (Nat.le_of_ble_eq_true rfl) (Nat.le_of_ble_eq_true rfl) (Nat.le_of_ble_eq_true rfl) (by decide) ?_
  refine ppX3_35 (n := 18) dX3_takeCode_15 rfl rfl (show W19.1[5]? = some (3, 5) by rw [e19]; rfl) ?_
  rw [wI_eq, show wI W19 5 4 7 = W20 from rfl]
  refine al1 (n := 19) dX3_takeCode_18 rfl ?_
  refine k_iconst (a := 0) (n := 20) dX3_takeCode_19 rfl rfl ?_
  refine al0 (n := 21) dX3_takeCode_20 rfl ?_
  refine ggX3_9 (q := 6) (n := 24) dX3_takeCode_21 rfl rfl (show W20.1[5]? = some (3, 5) by rw [e20]; rfl) (by decide +kernel) ?_
  refine k_iconst (a := 0) (n := 25) dX3_takeCode_24 rfl rfl ?_
  refine al0 (n := 26) dX3_takeCode_25 rfl ?_
  refine ggX3_35 (n := 29) dX3_takeCode_26 rfl rfl (show W20.1[5]? = some (3, 5) by rw [e20]; rfl) ?_
  rw [show W20.2.2 5 4 = 7 by decide +kernel]
  refine qX3_38 (k0 := 1003) (n0 := 7) (n1 := 50) (a := 0) (b := 0) (z := 7) (f := fU1) (n := 32) dX3_takeCode_29 rfl rfl rU1 (show W20.1[6]? = some (100, 50) by rw [e20]; rfl) rfl rfl rfl (by decide) (by decide) (by decide) (by decide) (Nat.le_of_ble_eq_true rfl) ?_
  rw [wC_eq, show wC W20 6 (va_cpy fU1 (W20.2.2 6) 0 0 7) = W21 from rfl]
  exact k_return dX3_takeCode_32 rfl (Nat.le_of_ble_eq_true rfl) (Nat.le_of_ble_eq_true rfl) ⟨rfl, rfl⟩
set_option maxHeartbeats 1000000 in
set_option maxRecDepth 20000 in
theorem i_5_X3_init : Ct E 97 mX3_init 2 100 [.ref 5, .int 0, .int 1, .ref 1003] W13 (fun v M => v = none ∧ M = W21) := by
  refine Ct.of (L := [some (.ref 5), some (.int 0), some (.int 1), some (.ref 1003)]) rfl rfl (Nat.le_of_ble_eq_true rfl) ?_
  refine al0 (n := 1) dX3_init_0 rfl ?_
  refine qX3_3 (n := 4) dX3_init_1 rfl rfl (Nat.le_of_ble_eq_true rfl) ?_
  refine al0 (n := 5) dX3_init_4 rfl ?_
  refine k_bipush (a := 50) (n := 7) dX3_init_5 rfl rfl ?_
  refine k_newa (z := 50) (n := 9) dX3_init_7 rfl (gwi 69 (by decide +kernel) rfl) rfl (by decide) (Nat.le_of_ble_eq_true rfl) (Nat.le_of_ble_eq_true rfl) (by rw [e13]; decide) ?_
  rw [wN_eq (z := 6) _ (by rw [e13]; rfl), show W13.1.length = 6 by rw [e13]; rfl, show wN W13 6 (100, 50) = W14 from rfl]
  refine ppX3_9 (n := 12) dX3_init_9 rfl rfl rfl (show W14.1[5]? = some (3, 5) by rw [e14]; rfl) ?_
  rw [wP_eq, show wP W14 5 0 (some 6) = W15 from rfl]
  refine al0 (n := 13) dX3_init_12 rfl ?_
  refine k_bipush (a := 50) (n := 15) dX3_init_13 rfl rfl ?_
  refine k_newa (z := 50) (n := 17) dX3_init_15 rfl (gwi 69 (by decide +kernel) rfl) rfl (by decide) (Nat.le_of_ble_eq_true rfl) (Nat.le_of_ble_eq_true rfl) (by rw [e15]; decide) ?_
  rw [wN_eq (z := 7) _ (by rw [e15]; rfl), show W15.1.length = 7 by rw [e15]; rfl, show wN W15 7 (100, 50) = W16 from rfl]
  refine ppX3_15 (n := 20) dX3_init_17 rfl rfl rfl (show W16.1[5]? = some (3, 5) by rw [e16]; rfl) ?_
  rw [wP_eq, show wP W16 5 1 (some 7) = W17 from rfl]
  refine al0 (n := 21) dX3_init_20 rfl ?_
  refine il1 (n := 22) dX3_init_21 rfl ?_
  refine ppX3_18 (n := 25) dX3_init_22 rfl rfl rfl (show W17.1[5]? = some (3, 5) by rw [e17]; rfl) ?_
  rw [wI_eq, show wI W17 5 2 0 = W18 from rfl]
  refine al0 (n := 26) dX3_init_25 rfl ?_
  refine il2 (n := 27) dX3_init_26 rfl ?_
  refine ppX3_22 (n := 30) dX3_init_27 rfl rfl rfl (show W18.1[5]? = some (3, 5) by rw [e18]; rfl) ?_
  rw [wI_eq, show wI W18 5 3 1 = W19 from rfl]
  refine al0 (n := 31) dX3_init_30 rfl ?_
  refine al3 (n := 32) dX3_init_31 rfl ?_
  refine al3 (n := 33) dX3_init_32 rfl ?_
  refine k_alen (n := 34) dX3_init_33 rfl rU1 ?_
  rw [show nI 7 = (7 : Int32) from rfl]
  refine qX3_25 (n := 37) dX3_init_34 rfl rfl (Nat.le_of_ble_eq_true rfl) (by decide) (Nat.le_of_ble_eq_true rfl) (Nat.le_of_ble_eq_true rfl) (show W19.1[5]? = some (3, 5) by rw [e19]; rfl) i_6_X3_takeCode (fun v M h => ?_)
  obtain ⟨rfl, rfl⟩ := h
  dsimp only [Option.toList, List.nil_append]
  exact k_return dX3_init_37 rfl (Nat.le_of_ble_eq_true rfl) (Nat.le_of_ble_eq_true rfl) ⟨rfl, rfl⟩
def W22 : kM := wP W21 1 1 (some 5)
theorem e22 : W22.1 = SS.take 8 := e21
def W23 : kM := wN W22 8 (0, 13)
theorem e23 : W23.1 = SS.take 9 := by
  show W22.1 ++ [(0, 13)] = _
  rw [e22]; decide +kernel
def W24 : kM := wN W23 9 (100, 8)
theorem e24 : W24.1 = SS.take 10 := by
  show W23.1 ++ [(100, 8)] = _
  rw [e23]; decide +kernel
def W25 : kM := wP W24 8 2 (some 9)
theorem e25 : W25.1 = SS.take 10 := e24
def W26 : kM := wN W25 10 (107, 4)
theorem e26 : W26.1 = SS.take 11 := by
  show W25.1 ++ [(107, 4)] = _
  rw [e25]; decide +kernel
def W27 : kM := wP W26 8 3 (some 10)
theorem e27 : W27.1 = SS.take 11 := e26
def W28 : kM := wN W27 11 (102, 8)
theorem e28 : W28.1 = SS.take 12 := by
  show W27.1 ++ [(102, 8)] = _
  rw [e27]; decide +kernel
def W29 : kM := wP W28 8 4 (some 11)
theorem e29 : W29.1 = SS.take 12 := e28
def W30 : kM := wI W29 8 5 4
theorem e30 : W30.1 = SS.take 12 := e29
def W31 : kM := wI W30 8 6 4
theorem e31 : W31.1 = SS.take 12 := e30
def W32 : kM := wI W31 8 7 1
theorem e32 : W32.1 = SS.take 12 := e31
def W33 : kM := wP W32 8 0 (some 2)
theorem e33 : W33.1 = SS.take 12 := e32
def W34 : kM := wP W33 8 1 (some 5)
theorem e34 : W34.1 = SS.take 12 := e33
def W35 : kM := wN W34 12 (6, 2)
theorem e35 : W35.1 = SS.take 13 := by
  show W34.1 ++ [(6, 2)] = _
  rw [e34]; decide +kernel
theorem i_X6_init (d k : Nat) (M : kM) : Ct E d mX6_init 0 0 [.ref k] M (fun v N => v = none ∧ N = M) := by
  refine Ct.of (L := [some (.ref k)]) rfl rfl (Nat.le_of_ble_eq_true rfl) ?_
  refine al0 (n := 1) dX6_init_0 rfl ?_
  refine qX6_1 (n := 4) dX6_init_1 rfl rfl (Nat.le_of_ble_eq_true rfl) ?_
  exact k_return dX6_init_4 rfl (Nat.le_of_ble_eq_true rfl) (Nat.le_of_ble_eq_true rfl) ⟨rfl, rfl⟩
def W36 : kM := wP W35 10 0 (some 12)
theorem e36 : W36.1 = SS.take 13 := e35
def W37 : kM := wN W36 13 (6, 2)
theorem e37 : W37.1 = SS.take 14 := by
  show W36.1 ++ [(6, 2)] = _
  rw [e36]; decide +kernel
def W38 : kM := wP W37 10 1 (some 13)
theorem e38 : W38.1 = SS.take 14 := e37
def W39 : kM := wN W38 14 (6, 2)
theorem e39 : W39.1 = SS.take 15 := by
  show W38.1 ++ [(6, 2)] = _
  rw [e38]; decide +kernel
def W40 : kM := wP W39 10 2 (some 14)
theorem e40 : W40.1 = SS.take 15 := e39
def W41 : kM := wN W40 15 (6, 2)
theorem e41 : W41.1 = SS.take 16 := by
  show W40.1 ++ [(6, 2)] = _
  rw [e40]; decide +kernel
def W42 : kM := wP W41 10 3 (some 15)
theorem e42 : W42.1 = SS.take 16 := e41
def W43 : kM := wN W42 16 (1, 7)
theorem e43 : W43.1 = SS.take 17 := by
  show W42.1 ++ [(1, 7)] = _
  rw [e42]; decide +kernel
theorem i_X1_init (d k : Nat) (M : kM) : Ct E d mX1_init 0 0 [.ref k] M (fun v N => v = none ∧ N = M) := by
  refine Ct.of (L := [some (.ref k)]) rfl rfl (Nat.le_of_ble_eq_true rfl) ?_
  refine al0 (n := 1) dX1_init_0 rfl ?_
  refine qX1_3 (n := 4) dX1_init_1 rfl rfl (Nat.le_of_ble_eq_true rfl) ?_
  exact k_return dX1_init_4 rfl (Nat.le_of_ble_eq_true rfl) (Nat.le_of_ble_eq_true rfl) ⟨rfl, rfl⟩
def W44 : kM := wP W43 11 0 (some 16)
theorem e44 : W44.1 = SS.take 17 := e43
def W45 : kM := wN W44 17 (1, 7)
theorem e45 : W45.1 = SS.take 18 := by
  show W44.1 ++ [(1, 7)] = _
  rw [e44]; decide +kernel
def W46 : kM := wP W45 11 1 (some 17)
theorem e46 : W46.1 = SS.take 18 := e45
def W47 : kM := wN W46 18 (1, 7)
theorem e47 : W47.1 = SS.take 19 := by
  show W46.1 ++ [(1, 7)] = _
  rw [e46]; decide +kernel
def W48 : kM := wP W47 11 2 (some 18)
theorem e48 : W48.1 = SS.take 19 := e47
def W49 : kM := wN W48 19 (1, 7)
theorem e49 : W49.1 = SS.take 20 := by
  show W48.1 ++ [(1, 7)] = _
  rw [e48]; decide +kernel
def W50 : kM := wP W49 11 3 (some 19)
theorem e50 : W50.1 = SS.take 20 := e49
def W51 : kM := wN W50 20 (1, 7)
theorem e51 : W51.1 = SS.take 21 := by
  show W50.1 ++ [(1, 7)] = _
  rw [e50]; decide +kernel
def W52 : kM := wP W51 11 4 (some 20)
theorem e52 : W52.1 = SS.take 21 := e51
def W53 : kM := wN W52 21 (1, 7)
theorem e53 : W53.1 = SS.take 22 := by
  show W52.1 ++ [(1, 7)] = _
  rw [e52]; decide +kernel
def W54 : kM := wP W53 11 5 (some 21)
theorem e54 : W54.1 = SS.take 22 := e53
def W55 : kM := wN W54 22 (1, 7)
theorem e55 : W55.1 = SS.take 23 := by
  show W54.1 ++ [(1, 7)] = _
  rw [e54]; decide +kernel
def W56 : kM := wP W55 11 6 (some 22)
theorem e56 : W56.1 = SS.take 23 := e55
def W57 : kM := wN W56 23 (1, 7)
theorem e57 : W57.1 = SS.take 24 := by
  show W56.1 ++ [(1, 7)] = _
  rw [e56]; decide +kernel
def W58 : kM := wP W57 11 7 (some 23)
theorem e58 : W58.1 = SS.take 24 := e57
set_option maxHeartbeats 1000000 in
set_option maxRecDepth 20000 in
theorem i_7_X0_init : Ct E 97 mX0_init 15 84 [.ref 8, .ref 2, .ref 5] W23 (fun v M => v = none ∧ M = W58) := by
  refine Ct.of (L := [some (.ref 8), some (.ref 2), some (.ref 5), none]) rfl rfl (Nat.le_of_ble_eq_true rfl) ?_
  refine al0 (n := 1) dX0_init_0 rfl ?_
  refine qX0_3 (n := 4) dX0_init_1 rfl rfl (Nat.le_of_ble_eq_true rfl) ?_
  refine al0 (n := 5) dX0_init_4 rfl ?_
  refine k_bipush (a := 8) (n := 7) dX0_init_5 rfl rfl ?_
  refine k_newa (z := 8) (n := 9) dX0_init_7 rfl (gwi 69 (by decide +kernel) rfl) rfl (by decide) (Nat.le_of_ble_eq_true rfl) (Nat.le_of_ble_eq_true rfl) (by rw [e23]; decide) ?_
  rw [wN_eq (z := 9) _ (by rw [e23]; rfl), show W23.1.length = 9 by rw [e23]; rfl, show wN W23 9 (100, 8) = W24 from rfl]
  refine ppX0_9 (n := 12) dX0_init_9 rfl rfl rfl (show W24.1[8]? = some (0, 13) by rw [e24]; rfl) ?_
  rw [wP_eq, show wP W24 8 2 (some 9) = W25 from rfl]
  refine al0 (n := 13) dX0_init_12 rfl ?_
  refine k_iconst (a := 4) (n := 14) dX0_init_13 rfl rfl ?_
  refine k_anew (z := 4) (kd := 107) (C := "RopeBorder$Turner") (n := 17) dX0_init_14 rfl (gwi 78 (by decide +kernel) rfl) (by decide +kernel) rfl (by decide) (Nat.le_of_ble_eq_true rfl) (Nat.le_of_ble_eq_true rfl) (by rw [e25]; decide) ?_
  rw [wN_eq (z := 10) _ (by rw [e25]; rfl), show W25.1.length = 10 by rw [e25]; rfl, show wN W25 10 (107, 4) = W26 from rfl]
  refine ppX0_17 (n := 20) dX0_init_17 rfl rfl rfl (show W26.1[8]? = some (0, 13) by rw [e26]; rfl) ?_
  rw [wP_eq, show wP W26 8 3 (some 10) = W27 from rfl]
  refine al0 (n := 21) dX0_init_20 rfl ?_
  refine k_bipush (a := 8) (n := 23) dX0_init_21 rfl rfl ?_
  refine k_anew (z := 8) (kd := 102) (C := "RopeBorder$Crosser") (n := 26) dX0_init_23 rfl (gwi 80 (by decide +kernel) rfl) (by decide +kernel) rfl (by decide) (Nat.le_of_ble_eq_true rfl) (Nat.le_of_ble_eq_true rfl) (by rw [e27]; decide) ?_
  rw [wN_eq (z := 11) _ (by rw [e27]; rfl), show W27.1.length = 11 by rw [e27]; rfl, show wN W27 11 (102, 8) = W28 from rfl]
  refine ppX0_23 (n := 29) dX0_init_26 rfl rfl rfl (show W28.1[8]? = some (0, 13) by rw [e28]; rfl) ?_
  rw [wP_eq, show wP W28 8 4 (some 11) = W29 from rfl]
  refine al0 (n := 30) dX0_init_29 rfl ?_
  refine k_iconst (a := 4) (n := 31) dX0_init_30 rfl rfl ?_
  refine ppX0_27 (n := 34) dX0_init_31 rfl rfl (show W29.1[8]? = some (0, 13) by rw [e29]; rfl) ?_
  rw [wI_eq, show wI W29 8 5 4 = W30 from rfl]
  refine al0 (n := 35) dX0_init_34 rfl ?_
  refine k_iconst (a := 4) (n := 36) dX0_init_35 rfl rfl ?_
  refine ppX0_31 (n := 39) dX0_init_36 rfl rfl (show W30.1[8]? = some (0, 13) by rw [e30]; rfl) ?_
  rw [wI_eq, show wI W30 8 6 4 = W31 from rfl]
  refine al0 (n := 40) dX0_init_39 rfl ?_
  refine k_iconst (a := 1) (n := 41) dX0_init_40 rfl rfl ?_
  refine ppX0_34 (n := 44) dX0_init_41 rfl rfl (show W31.1[8]? = some (0, 13) by rw [e31]; rfl) ?_
  rw [wI_eq, show wI W31 8 7 1 = W32 from rfl]
  refine al0 (n := 45) dX0_init_44 rfl ?_
  refine al1 (n := 46) dX0_init_45 rfl ?_
  refine ppX0_37 (n := 49) dX0_init_46 rfl rfl rfl (show W32.1[8]? = some (0, 13) by rw [e32]; rfl) ?_
  rw [wP_eq, show wP W32 8 0 (some 2) = W33 from rfl]
  refine al0 (n := 50) dX0_init_49 rfl ?_
  refine al2 (n := 51) dX0_init_50 rfl ?_
  refine ppX0_41 (n := 54) dX0_init_51 rfl rfl rfl (show W33.1[8]? = some (0, 13) by rw [e33]; rfl) ?_
  rw [wP_eq, show wP W33 8 1 (some 5) = W34 from rfl]
  refine k_iconst (a := 0) (n := 55) dX0_init_54 rfl rfl ?_
  refine is3 (n := 56) dX0_init_55 rfl trivial ?_
  refine il3 (n := 57) dX0_init_56 rfl ?_
  refine k_iconst (a := 4) (n := 58) dX0_init_57 rfl rfl ?_
  refine k_icmp_ge (t := 80) (n := 61) dX0_init_58 (by decide) rfl (fun h => absurd h (by decide)) (fun _ => ?_)
  refine al0 (n := 62) dX0_init_61 rfl ?_
  refine ggX0_17 (q := 10) (n := 65) dX0_init_62 rfl rfl (show W34.1[8]? = some (0, 13) by rw [e34]; rfl) (by decide +kernel) ?_
  refine il3 (n := 66) dX0_init_65 rfl ?_
  refine k_new (n := 69) dX0_init_66 rfl kcX6 (gwi 78 (by decide +kernel) rfl) (gwi 82 (by decide +kernel) rfl) gw7 dfX6 (Nat.le_of_ble_eq_true rfl) (Nat.le_of_ble_eq_true rfl) (by rw [e34]; decide) ?_
  rw [wN_eq (z := 12) _ (by rw [e34]; rfl), show W34.1.length = 12 by rw [e34]; rfl, show wN W34 12 (6, 2) = W35 from rfl]
  refine k_dup (n := 70) dX0_init_69 rfl rfl ?_
  refine nX0_44 (n := 73) dX0_init_70 rfl rfl (Nat.le_of_ble_eq_true rfl) (by decide) (Nat.le_of_ble_eq_true rfl) (Nat.le_of_ble_eq_true rfl) (i_X6_init _ _ _) (fun v M h => ?_)
  obtain ⟨rfl, rfl⟩ := h
  dsimp only [Option.toList, List.nil_append]
  refine k_aast (r := (RX6, TX6, 2)) (kd := 107) (ci := 6) (j := 0) (z := 4) (n := 74) dX0_init_73 rfl (show W35.1[10]? = some (107, 4) by rw [e35]; rfl) (by decide +kernel) rfl (by decide) (by decide) (by decide) rfl (show W35.1[12]? = some (6, 2) by rw [e35]; rfl) ?_
  rw [wP_eq, show wP W35 10 0 (some 12) = W36 from rfl]
  refine ii3 (b := 1) (n := 77) dX0_init_74 rfl (by decide) trivial ?_
  refine k_goto (n := 56) dX0_init_77 (by decide) ?_
  refine il3 (n := 57) dX0_init_56 rfl ?_
  refine k_iconst (a := 4) (n := 58) dX0_init_57 rfl rfl ?_
  refine k_icmp_ge (t := 80) (n := 61) dX0_init_58 (by decide) rfl (fun h => absurd h (by decide)) (fun _ => ?_)
  refine al0 (n := 62) dX0_init_61 rfl ?_
  refine ggX0_17 (q := 10) (n := 65) dX0_init_62 rfl rfl (show W36.1[8]? = some (0, 13) by rw [e36]; rfl) (by decide +kernel) ?_
  refine il3 (n := 66) dX0_init_65 rfl ?_
  refine k_new (n := 69) dX0_init_66 rfl kcX6 (gwi 78 (by decide +kernel) rfl) (gwi 82 (by decide +kernel) rfl) gw7 dfX6 (Nat.le_of_ble_eq_true rfl) (Nat.le_of_ble_eq_true rfl) (by rw [e36]; decide) ?_
  rw [wN_eq (z := 13) _ (by rw [e36]; rfl), show W36.1.length = 13 by rw [e36]; rfl, show wN W36 13 (6, 2) = W37 from rfl]
  refine k_dup (n := 70) dX0_init_69 rfl rfl ?_
  refine nX0_44 (n := 73) dX0_init_70 rfl rfl (Nat.le_of_ble_eq_true rfl) (by decide) (Nat.le_of_ble_eq_true rfl) (Nat.le_of_ble_eq_true rfl) (i_X6_init _ _ _) (fun v M h => ?_)
  obtain ⟨rfl, rfl⟩ := h
  dsimp only [Option.toList, List.nil_append]
  refine k_aast (r := (RX6, TX6, 2)) (kd := 107) (ci := 6) (j := 1) (z := 4) (n := 74) dX0_init_73 rfl (show W37.1[10]? = some (107, 4) by rw [e37]; rfl) (by decide +kernel) rfl (by decide) (by decide) (by decide) rfl (show W37.1[13]? = some (6, 2) by rw [e37]; rfl) ?_
  rw [wP_eq, show wP W37 10 1 (some 13) = W38 from rfl]
  refine ii3 (b := 2) (n := 77) dX0_init_74 rfl (by decide) trivial ?_
  refine k_goto (n := 56) dX0_init_77 (by decide) ?_
  refine il3 (n := 57) dX0_init_56 rfl ?_
  refine k_iconst (a := 4) (n := 58) dX0_init_57 rfl rfl ?_
  refine k_icmp_ge (t := 80) (n := 61) dX0_init_58 (by decide) rfl (fun h => absurd h (by decide)) (fun _ => ?_)
  refine al0 (n := 62) dX0_init_61 rfl ?_
  refine ggX0_17 (q := 10) (n := 65) dX0_init_62 rfl rfl (show W38.1[8]? = some (0, 13) by rw [e38]; rfl) (by decide +kernel) ?_
  refine il3 (n := 66) dX0_init_65 rfl ?_
  refine k_new (n := 69) dX0_init_66 rfl kcX6 (gwi 78 (by decide +kernel) rfl) (gwi 82 (by decide +kernel) rfl) gw7 dfX6 (Nat.le_of_ble_eq_true rfl) (Nat.le_of_ble_eq_true rfl) (by rw [e38]; decide) ?_
  rw [wN_eq (z := 14) _ (by rw [e38]; rfl), show W38.1.length = 14 by rw [e38]; rfl, show wN W38 14 (6, 2) = W39 from rfl]
  refine k_dup (n := 70) dX0_init_69 rfl rfl ?_
  refine nX0_44 (n := 73) dX0_init_70 rfl rfl (Nat.le_of_ble_eq_true rfl) (by decide) (Nat.le_of_ble_eq_true rfl) (Nat.le_of_ble_eq_true rfl) (i_X6_init _ _ _) (fun v M h => ?_)
  obtain ⟨rfl, rfl⟩ := h
  dsimp only [Option.toList, List.nil_append]
  refine k_aast (r := (RX6, TX6, 2)) (kd := 107) (ci := 6) (j := 2) (z := 4) (n := 74) dX0_init_73 rfl (show W39.1[10]? = some (107, 4) by rw [e39]; rfl) (by decide +kernel) rfl (by decide) (by decide) (by decide) rfl (show W39.1[14]? = some (6, 2) by rw [e39]; rfl) ?_
  rw [wP_eq, show wP W39 10 2 (some 14) = W40 from rfl]
  refine ii3 (b := 3) (n := 77) dX0_init_74 rfl (by decide) trivial ?_
  refine k_goto (n := 56) dX0_init_77 (by decide) ?_
  refine il3 (n := 57) dX0_init_56 rfl ?_
  refine k_iconst (a := 4) (n := 58) dX0_init_57 rfl rfl ?_
  refine k_icmp_ge (t := 80) (n := 61) dX0_init_58 (by decide) rfl (fun h => absurd h (by decide)) (fun _ => ?_)
  refine al0 (n := 62) dX0_init_61 rfl ?_
  refine ggX0_17 (q := 10) (n := 65) dX0_init_62 rfl rfl (show W40.1[8]? = some (0, 13) by rw [e40]; rfl) (by decide +kernel) ?_
  refine il3 (n := 66) dX0_init_65 rfl ?_
  refine k_new (n := 69) dX0_init_66 rfl kcX6 (gwi 78 (by decide +kernel) rfl) (gwi 82 (by decide +kernel) rfl) gw7 dfX6 (Nat.le_of_ble_eq_true rfl) (Nat.le_of_ble_eq_true rfl) (by rw [e40]; decide) ?_
  rw [wN_eq (z := 15) _ (by rw [e40]; rfl), show W40.1.length = 15 by rw [e40]; rfl, show wN W40 15 (6, 2) = W41 from rfl]
  refine k_dup (n := 70) dX0_init_69 rfl rfl ?_
  refine nX0_44 (n := 73) dX0_init_70 rfl rfl (Nat.le_of_ble_eq_true rfl) (by decide) (Nat.le_of_ble_eq_true rfl) (Nat.le_of_ble_eq_true rfl) (i_X6_init _ _ _) (fun v M h => ?_)
  obtain ⟨rfl, rfl⟩ := h
  dsimp only [Option.toList, List.nil_append]
  refine k_aast (r := (RX6, TX6, 2)) (kd := 107) (ci := 6) (j := 3) (z := 4) (n := 74) dX0_init_73 rfl (show W41.1[10]? = some (107, 4) by rw [e41]; rfl) (by decide +kernel) rfl (by decide) (by decide) (by decide) rfl (show W41.1[15]? = some (6, 2) by rw [e41]; rfl) ?_
  rw [wP_eq, show wP W41 10 3 (some 15) = W42 from rfl]
  refine ii3 (b := 4) (n := 77) dX0_init_74 rfl (by decide) trivial ?_
  refine k_goto (n := 56) dX0_init_77 (by decide) ?_
  refine il3 (n := 57) dX0_init_56 rfl ?_
  refine k_iconst (a := 4) (n := 58) dX0_init_57 rfl rfl ?_
  refine k_icmp_ge (t := 80) (n := 61) dX0_init_58 (by decide) rfl (fun _ => ?_) (fun h => absurd (by decide) h)
  refine k_iconst (a := 0) (n := 81) dX0_init_80 rfl rfl ?_
  refine is3 (n := 82) dX0_init_81 rfl trivial ?_
  refine il3 (n := 83) dX0_init_82 rfl ?_
  refine k_bipush (a := 8) (n := 85) dX0_init_83 rfl rfl ?_
  refine k_icmp_ge (t := 107) (n := 88) dX0_init_85 (by decide) rfl (fun h => absurd h (by decide)) (fun _ => ?_)
  refine al0 (n := 89) dX0_init_88 rfl ?_
  refine ggX0_23 (q := 11) (n := 92) dX0_init_89 rfl rfl (show W42.1[8]? = some (0, 13) by rw [e42]; rfl) (by decide +kernel) ?_
  refine il3 (n := 93) dX0_init_92 rfl ?_
  refine k_new (n := 96) dX0_init_93 rfl kcX1 (gwi 80 (by decide +kernel) rfl) (gwi 98 (by decide +kernel) rfl) gw8 dfX1 (Nat.le_of_ble_eq_true rfl) (Nat.le_of_ble_eq_true rfl) (by rw [e42]; decide) ?_
  rw [wN_eq (z := 16) _ (by rw [e42]; rfl), show W42.1.length = 16 by rw [e42]; rfl, show wN W42 16 (1, 7) = W43 from rfl]
  refine k_dup (n := 97) dX0_init_96 rfl rfl ?_
  refine nX0_45 (n := 100) dX0_init_97 rfl rfl (Nat.le_of_ble_eq_true rfl) (by decide) (Nat.le_of_ble_eq_true rfl) (Nat.le_of_ble_eq_true rfl) (i_X1_init _ _ _) (fun v M h => ?_)
  obtain ⟨rfl, rfl⟩ := h
  dsimp only [Option.toList, List.nil_append]
  refine k_aast (r := (RX1, TX1, 7)) (kd := 102) (ci := 1) (j := 0) (z := 8) (n := 101) dX0_init_100 rfl (show W43.1[11]? = some (102, 8) by rw [e43]; rfl) (by decide +kernel) rfl (by decide) (by decide) (by decide) rfl (show W43.1[16]? = some (1, 7) by rw [e43]; rfl) ?_
  rw [wP_eq, show wP W43 11 0 (some 16) = W44 from rfl]
  refine ii3 (b := 1) (n := 104) dX0_init_101 rfl (by decide) trivial ?_
  refine k_goto (n := 82) dX0_init_104 (by decide) ?_
  refine il3 (n := 83) dX0_init_82 rfl ?_
  refine k_bipush (a := 8) (n := 85) dX0_init_83 rfl rfl ?_
  refine k_icmp_ge (t := 107) (n := 88) dX0_init_85 (by decide) rfl (fun h => absurd h (by decide)) (fun _ => ?_)
  refine al0 (n := 89) dX0_init_88 rfl ?_
  refine ggX0_23 (q := 11) (n := 92) dX0_init_89 rfl rfl (show W44.1[8]? = some (0, 13) by rw [e44]; rfl) (by decide +kernel) ?_
  refine il3 (n := 93) dX0_init_92 rfl ?_
  refine k_new (n := 96) dX0_init_93 rfl kcX1 (gwi 80 (by decide +kernel) rfl) (gwi 98 (by decide +kernel) rfl) gw8 dfX1 (Nat.le_of_ble_eq_true rfl) (Nat.le_of_ble_eq_true rfl) (by rw [e44]; decide) ?_
  rw [wN_eq (z := 17) _ (by rw [e44]; rfl), show W44.1.length = 17 by rw [e44]; rfl, show wN W44 17 (1, 7) = W45 from rfl]
  refine k_dup (n := 97) dX0_init_96 rfl rfl ?_
  refine nX0_45 (n := 100) dX0_init_97 rfl rfl (Nat.le_of_ble_eq_true rfl) (by decide) (Nat.le_of_ble_eq_true rfl) (Nat.le_of_ble_eq_true rfl) (i_X1_init _ _ _) (fun v M h => ?_)
  obtain ⟨rfl, rfl⟩ := h
  dsimp only [Option.toList, List.nil_append]
  refine k_aast (r := (RX1, TX1, 7)) (kd := 102) (ci := 1) (j := 1) (z := 8) (n := 101) dX0_init_100 rfl (show W45.1[11]? = some (102, 8) by rw [e45]; rfl) (by decide +kernel) rfl (by decide) (by decide) (by decide) rfl (show W45.1[17]? = some (1, 7) by rw [e45]; rfl) ?_
  rw [wP_eq, show wP W45 11 1 (some 17) = W46 from rfl]
  refine ii3 (b := 2) (n := 104) dX0_init_101 rfl (by decide) trivial ?_
  refine k_goto (n := 82) dX0_init_104 (by decide) ?_
  refine il3 (n := 83) dX0_init_82 rfl ?_
  refine k_bipush (a := 8) (n := 85) dX0_init_83 rfl rfl ?_
  refine k_icmp_ge (t := 107) (n := 88) dX0_init_85 (by decide) rfl (fun h => absurd h (by decide)) (fun _ => ?_)
  refine al0 (n := 89) dX0_init_88 rfl ?_
  refine ggX0_23 (q := 11) (n := 92) dX0_init_89 rfl rfl (show W46.1[8]? = some (0, 13) by rw [e46]; rfl) (by decide +kernel) ?_
  refine il3 (n := 93) dX0_init_92 rfl ?_
  refine k_new (n := 96) dX0_init_93 rfl kcX1 (gwi 80 (by decide +kernel) rfl) (gwi 98 (by decide +kernel) rfl) gw8 dfX1 (Nat.le_of_ble_eq_true rfl) (Nat.le_of_ble_eq_true rfl) (by rw [e46]; decide) ?_
  rw [wN_eq (z := 18) _ (by rw [e46]; rfl), show W46.1.length = 18 by rw [e46]; rfl, show wN W46 18 (1, 7) = W47 from rfl]
  refine k_dup (n := 97) dX0_init_96 rfl rfl ?_
  refine nX0_45 (n := 100) dX0_init_97 rfl rfl (Nat.le_of_ble_eq_true rfl) (by decide) (Nat.le_of_ble_eq_true rfl) (Nat.le_of_ble_eq_true rfl) (i_X1_init _ _ _) (fun v M h => ?_)
  obtain ⟨rfl, rfl⟩ := h
  dsimp only [Option.toList, List.nil_append]
  refine k_aast (r := (RX1, TX1, 7)) (kd := 102) (ci := 1) (j := 2) (z := 8) (n := 101) dX0_init_100 rfl (show W47.1[11]? = some (102, 8) by rw [e47]; rfl) (by decide +kernel) rfl (by decide) (by decide) (by decide) rfl (show W47.1[18]? = some (1, 7) by rw [e47]; rfl) ?_
  rw [wP_eq, show wP W47 11 2 (some 18) = W48 from rfl]
  refine ii3 (b := 3) (n := 104) dX0_init_101 rfl (by decide) trivial ?_
  refine k_goto (n := 82) dX0_init_104 (by decide) ?_
  refine il3 (n := 83) dX0_init_82 rfl ?_
  refine k_bipush (a := 8) (n := 85) dX0_init_83 rfl rfl ?_
  refine k_icmp_ge (t := 107) (n := 88) dX0_init_85 (by decide) rfl (fun h => absurd h (by decide)) (fun _ => ?_)
  refine al0 (n := 89) dX0_init_88 rfl ?_
  refine ggX0_23 (q := 11) (n := 92) dX0_init_89 rfl rfl (show W48.1[8]? = some (0, 13) by rw [e48]; rfl) (by decide +kernel) ?_
  refine il3 (n := 93) dX0_init_92 rfl ?_
  refine k_new (n := 96) dX0_init_93 rfl kcX1 (gwi 80 (by decide +kernel) rfl) (gwi 98 (by decide +kernel) rfl) gw8 dfX1 (Nat.le_of_ble_eq_true rfl) (Nat.le_of_ble_eq_true rfl) (by rw [e48]; decide) ?_
  rw [wN_eq (z := 19) _ (by rw [e48]; rfl), show W48.1.length = 19 by rw [e48]; rfl, show wN W48 19 (1, 7) = W49 from rfl]
  refine k_dup (n := 97) dX0_init_96 rfl rfl ?_
  refine nX0_45 (n := 100) dX0_init_97 rfl rfl (Nat.le_of_ble_eq_true rfl) (by decide) (Nat.le_of_ble_eq_true rfl) (Nat.le_of_ble_eq_true rfl) (i_X1_init _ _ _) (fun v M h => ?_)
  obtain ⟨rfl, rfl⟩ := h
  dsimp only [Option.toList, List.nil_append]
  refine k_aast (r := (RX1, TX1, 7)) (kd := 102) (ci := 1) (j := 3) (z := 8) (n := 101) dX0_init_100 rfl (show W49.1[11]? = some (102, 8) by rw [e49]; rfl) (by decide +kernel) rfl (by decide) (by decide) (by decide) rfl (show W49.1[19]? = some (1, 7) by rw [e49]; rfl) ?_
  rw [wP_eq, show wP W49 11 3 (some 19) = W50 from rfl]
  refine ii3 (b := 4) (n := 104) dX0_init_101 rfl (by decide) trivial ?_
  refine k_goto (n := 82) dX0_init_104 (by decide) ?_
  refine il3 (n := 83) dX0_init_82 rfl ?_
  refine k_bipush (a := 8) (n := 85) dX0_init_83 rfl rfl ?_
  refine k_icmp_ge (t := 107) (n := 88) dX0_init_85 (by decide) rfl (fun h => absurd h (by decide)) (fun _ => ?_)
  refine al0 (n := 89) dX0_init_88 rfl ?_
  refine ggX0_23 (q := 11) (n := 92) dX0_init_89 rfl rfl (show W50.1[8]? = some (0, 13) by rw [e50]; rfl) (by decide +kernel) ?_
  refine il3 (n := 93) dX0_init_92 rfl ?_
  refine k_new (n := 96) dX0_init_93 rfl kcX1 (gwi 80 (by decide +kernel) rfl) (gwi 98 (by decide +kernel) rfl) gw8 dfX1 (Nat.le_of_ble_eq_true rfl) (Nat.le_of_ble_eq_true rfl) (by rw [e50]; decide) ?_
  rw [wN_eq (z := 20) _ (by rw [e50]; rfl), show W50.1.length = 20 by rw [e50]; rfl, show wN W50 20 (1, 7) = W51 from rfl]
  refine k_dup (n := 97) dX0_init_96 rfl rfl ?_
  refine nX0_45 (n := 100) dX0_init_97 rfl rfl (Nat.le_of_ble_eq_true rfl) (by decide) (Nat.le_of_ble_eq_true rfl) (Nat.le_of_ble_eq_true rfl) (i_X1_init _ _ _) (fun v M h => ?_)
  obtain ⟨rfl, rfl⟩ := h
  dsimp only [Option.toList, List.nil_append]
  refine k_aast (r := (RX1, TX1, 7)) (kd := 102) (ci := 1) (j := 4) (z := 8) (n := 101) dX0_init_100 rfl (show W51.1[11]? = some (102, 8) by rw [e51]; rfl) (by decide +kernel) rfl (by decide) (by decide) (by decide) rfl (show W51.1[20]? = some (1, 7) by rw [e51]; rfl) ?_
  rw [wP_eq, show wP W51 11 4 (some 20) = W52 from rfl]
  refine ii3 (b := 5) (n := 104) dX0_init_101 rfl (by decide) trivial ?_
  refine k_goto (n := 82) dX0_init_104 (by decide) ?_
  refine il3 (n := 83) dX0_init_82 rfl ?_
  refine k_bipush (a := 8) (n := 85) dX0_init_83 rfl rfl ?_
  refine k_icmp_ge (t := 107) (n := 88) dX0_init_85 (by decide) rfl (fun h => absurd h (by decide)) (fun _ => ?_)
  refine al0 (n := 89) dX0_init_88 rfl ?_
  refine ggX0_23 (q := 11) (n := 92) dX0_init_89 rfl rfl (show W52.1[8]? = some (0, 13) by rw [e52]; rfl) (by decide +kernel) ?_
  refine il3 (n := 93) dX0_init_92 rfl ?_
  refine k_new (n := 96) dX0_init_93 rfl kcX1 (gwi 80 (by decide +kernel) rfl) (gwi 98 (by decide +kernel) rfl) gw8 dfX1 (Nat.le_of_ble_eq_true rfl) (Nat.le_of_ble_eq_true rfl) (by rw [e52]; decide) ?_
  rw [wN_eq (z := 21) _ (by rw [e52]; rfl), show W52.1.length = 21 by rw [e52]; rfl, show wN W52 21 (1, 7) = W53 from rfl]
  refine k_dup (n := 97) dX0_init_96 rfl rfl ?_
  refine nX0_45 (n := 100) dX0_init_97 rfl rfl (Nat.le_of_ble_eq_true rfl) (by decide) (Nat.le_of_ble_eq_true rfl) (Nat.le_of_ble_eq_true rfl) (i_X1_init _ _ _) (fun v M h => ?_)
  obtain ⟨rfl, rfl⟩ := h
  dsimp only [Option.toList, List.nil_append]
  refine k_aast (r := (RX1, TX1, 7)) (kd := 102) (ci := 1) (j := 5) (z := 8) (n := 101) dX0_init_100 rfl (show W53.1[11]? = some (102, 8) by rw [e53]; rfl) (by decide +kernel) rfl (by decide) (by decide) (by decide) rfl (show W53.1[21]? = some (1, 7) by rw [e53]; rfl) ?_
  rw [wP_eq, show wP W53 11 5 (some 21) = W54 from rfl]
  refine ii3 (b := 6) (n := 104) dX0_init_101 rfl (by decide) trivial ?_
  refine k_goto (n := 82) dX0_init_104 (by decide) ?_
  refine il3 (n := 83) dX0_init_82 rfl ?_
  refine k_bipush (a := 8) (n := 85) dX0_init_83 rfl rfl ?_
  refine k_icmp_ge (t := 107) (n := 88) dX0_init_85 (by decide) rfl (fun h => absurd h (by decide)) (fun _ => ?_)
  refine al0 (n := 89) dX0_init_88 rfl ?_
  refine ggX0_23 (q := 11) (n := 92) dX0_init_89 rfl rfl (show W54.1[8]? = some (0, 13) by rw [e54]; rfl) (by decide +kernel) ?_
  refine il3 (n := 93) dX0_init_92 rfl ?_
  refine k_new (n := 96) dX0_init_93 rfl kcX1 (gwi 80 (by decide +kernel) rfl) (gwi 98 (by decide +kernel) rfl) gw8 dfX1 (Nat.le_of_ble_eq_true rfl) (Nat.le_of_ble_eq_true rfl) (by rw [e54]; decide) ?_
  rw [wN_eq (z := 22) _ (by rw [e54]; rfl), show W54.1.length = 22 by rw [e54]; rfl, show wN W54 22 (1, 7) = W55 from rfl]
  refine k_dup (n := 97) dX0_init_96 rfl rfl ?_
  refine nX0_45 (n := 100) dX0_init_97 rfl rfl (Nat.le_of_ble_eq_true rfl) (by decide) (Nat.le_of_ble_eq_true rfl) (Nat.le_of_ble_eq_true rfl) (i_X1_init _ _ _) (fun v M h => ?_)
  obtain ⟨rfl, rfl⟩ := h
  dsimp only [Option.toList, List.nil_append]
  refine k_aast (r := (RX1, TX1, 7)) (kd := 102) (ci := 1) (j := 6) (z := 8) (n := 101) dX0_init_100 rfl (show W55.1[11]? = some (102, 8) by rw [e55]; rfl) (by decide +kernel) rfl (by decide) (by decide) (by decide) rfl (show W55.1[22]? = some (1, 7) by rw [e55]; rfl) ?_
  rw [wP_eq, show wP W55 11 6 (some 22) = W56 from rfl]
  refine ii3 (b := 7) (n := 104) dX0_init_101 rfl (by decide) trivial ?_
  refine k_goto (n := 82) dX0_init_104 (by decide) ?_
  refine il3 (n := 83) dX0_init_82 rfl ?_
  refine k_bipush (a := 8) (n := 85) dX0_init_83 rfl rfl ?_
  refine k_icmp_ge (t := 107) (n := 88) dX0_init_85 (by decide) rfl (fun h => absurd h (by decide)) (fun _ => ?_)
  refine al0 (n := 89) dX0_init_88 rfl ?_
  refine ggX0_23 (q := 11) (n := 92) dX0_init_89 rfl rfl (show W56.1[8]? = some (0, 13) by rw [e56]; rfl) (by decide +kernel) ?_
  refine il3 (n := 93) dX0_init_92 rfl ?_
  refine k_new (n := 96) dX0_init_93 rfl kcX1 (gwi 80 (by decide +kernel) rfl) (gwi 98 (by decide +kernel) rfl) gw8 dfX1 (Nat.le_of_ble_eq_true rfl) (Nat.le_of_ble_eq_true rfl) (by rw [e56]; decide) ?_
  rw [wN_eq (z := 23) _ (by rw [e56]; rfl), show W56.1.length = 23 by rw [e56]; rfl, show wN W56 23 (1, 7) = W57 from rfl]
  refine k_dup (n := 97) dX0_init_96 rfl rfl ?_
  refine nX0_45 (n := 100) dX0_init_97 rfl rfl (Nat.le_of_ble_eq_true rfl) (by decide) (Nat.le_of_ble_eq_true rfl) (Nat.le_of_ble_eq_true rfl) (i_X1_init _ _ _) (fun v M h => ?_)
  obtain ⟨rfl, rfl⟩ := h
  dsimp only [Option.toList, List.nil_append]
  refine k_aast (r := (RX1, TX1, 7)) (kd := 102) (ci := 1) (j := 7) (z := 8) (n := 101) dX0_init_100 rfl (show W57.1[11]? = some (102, 8) by rw [e57]; rfl) (by decide +kernel) rfl (by decide) (by decide) (by decide) rfl (show W57.1[23]? = some (1, 7) by rw [e57]; rfl) ?_
  rw [wP_eq, show wP W57 11 7 (some 23) = W58 from rfl]
  refine ii3 (b := 8) (n := 104) dX0_init_101 rfl (by decide) trivial ?_
  refine k_goto (n := 82) dX0_init_104 (by decide) ?_
  refine il3 (n := 83) dX0_init_82 rfl ?_
  refine k_bipush (a := 8) (n := 85) dX0_init_83 rfl rfl ?_
  refine k_icmp_ge (t := 107) (n := 88) dX0_init_85 (by decide) rfl (fun _ => ?_) (fun h => absurd (by decide) h)
  exact k_return dX0_init_107 rfl (Nat.le_of_ble_eq_true rfl) (Nat.le_of_ble_eq_true rfl) ⟨rfl, rfl⟩
def W59 : kM := wP W58 1 2 (some 8)
theorem e59 : W59.1 = SS.take 24 := e58
def W60 : kM := wN W59 24 (100, 50)
theorem e60 : W60.1 = SS.take 25 := by
  show W59.1 ++ [(100, 50)] = _
  rw [e59]; decide +kernel
def W61 : kM := wP W60 1 3 (some 24)
theorem e61 : W61.1 = SS.take 25 := e60
def W62 : kM := wN W61 25 (100, 20)
theorem e62 : W62.1 = SS.take 26 := by
  show W61.1 ++ [(100, 20)] = _
  rw [e61]; decide +kernel
def W63 : kM := wP W62 1 4 (some 25)
theorem e63 : W63.1 = SS.take 26 := e62
def W64 : kM := wI W63 1 7 1
theorem e64 : W64.1 = SS.take 26 := e63
set_option maxHeartbeats 1000000 in
set_option maxRecDepth 20000 in
theorem i_2_X2_init : Ct E 98 mX2_init 24 377 [.ref 1] W2 (fun v M => v = none ∧ M = W64) := by
  refine Ct.of (L := [some (.ref 1)]) rfl rfl (Nat.le_of_ble_eq_true rfl) ?_
  refine al0 (n := 1) dX2_init_0 rfl ?_
  refine qX2_3 (n := 4) dX2_init_1 rfl rfl (Nat.le_of_ble_eq_true rfl) ?_
  refine al0 (n := 5) dX2_init_4 rfl ?_
  refine k_new (n := 8) dX2_init_5 rfl kcX3 (gwi 33 (by decide +kernel) rfl) (gwi 34 (by decide +kernel) rfl) gw3 dfX3 (Nat.le_of_ble_eq_true rfl) (Nat.le_of_ble_eq_true rfl) (by rw [e2]; decide) ?_
  rw [wN_eq (z := 2) _ (by rw [e2]; rfl), show W2.1.length = 2 by rw [e2]; rfl, show wN W2 2 (3, 5) = W3 from rfl]
  refine k_dup (n := 9) dX2_init_8 rfl rfl ?_
  refine k_iconst (a := 1) (n := 10) dX2_init_9 rfl rfl ?_
  refine k_bipush (a := 9) (n := 12) dX2_init_10 rfl rfl ?_
  refine k_gets (C := "RopeBorder$Law") (nm := "JUMPS_UNWRITTEN") (k := 1002) (n := 15) dX2_init_12 rfl (by decide +kernel) (gwi 35 (by decide +kernel) rfl) ?_
  refine qX2_15 (n := 18) dX2_init_15 rfl rfl (Nat.le_of_ble_eq_true rfl) (by decide) (Nat.le_of_ble_eq_true rfl) (Nat.le_of_ble_eq_true rfl) i_3_X3_init (fun v M h => ?_)
  obtain ⟨rfl, rfl⟩ := h
  dsimp only [Option.toList, List.nil_append]
  refine ppX2_18 (n := 21) dX2_init_18 rfl rfl rfl (show W11.1[1]? = some (2, 8) by rw [e11]; rfl) ?_
  rw [wP_eq, show wP W11 1 0 (some 2) = W12 from rfl]
  refine al0 (n := 22) dX2_init_21 rfl ?_
  refine k_new (n := 25) dX2_init_22 rfl kcX3 (gwi 33 (by decide +kernel) rfl) (gwi 34 (by decide +kernel) rfl) gw3 dfX3 (Nat.le_of_ble_eq_true rfl) (Nat.le_of_ble_eq_true rfl) (by rw [e12]; decide) ?_
  rw [wN_eq (z := 5) _ (by rw [e12]; rfl), show W12.1.length = 5 by rw [e12]; rfl, show wN W12 5 (3, 5) = W13 from rfl]
  refine k_dup (n := 26) dX2_init_25 rfl rfl ?_
  refine k_iconst (a := 0) (n := 27) dX2_init_26 rfl rfl ?_
  refine k_iconst (a := 1) (n := 28) dX2_init_27 rfl rfl ?_
  refine k_gets (C := "RopeBorder$Law") (nm := "JUMPED_UNWRITTEN") (k := 1003) (n := 31) dX2_init_28 rfl (by decide +kernel) (gwi 70 (by decide +kernel) rfl) ?_
  refine qX2_15 (n := 34) dX2_init_31 rfl rfl (Nat.le_of_ble_eq_true rfl) (by decide) (Nat.le_of_ble_eq_true rfl) (Nat.le_of_ble_eq_true rfl) i_5_X3_init (fun v M h => ?_)
  obtain ⟨rfl, rfl⟩ := h
  dsimp only [Option.toList, List.nil_append]
  refine ppX2_27 (n := 37) dX2_init_34 rfl rfl rfl (show W21.1[1]? = some (2, 8) by rw [e21]; rfl) ?_
  rw [wP_eq, show wP W21 1 1 (some 5) = W22 from rfl]
  refine al0 (n := 38) dX2_init_37 rfl ?_
  refine k_new (n := 41) dX2_init_38 rfl kcX0 (gwi 72 (by decide +kernel) rfl) (gwi 73 (by decide +kernel) rfl) gw6 dfX0 (Nat.le_of_ble_eq_true rfl) (Nat.le_of_ble_eq_true rfl) (by rw [e22]; decide) ?_
  rw [wN_eq (z := 8) _ (by rw [e22]; rfl), show W22.1.length = 8 by rw [e22]; rfl, show wN W22 8 (0, 13) = W23 from rfl]
  refine k_dup (n := 42) dX2_init_41 rfl rfl ?_
  refine al0 (n := 43) dX2_init_42 rfl ?_
  refine ggX2_18 (q := 2) (n := 46) dX2_init_43 rfl rfl (show W23.1[1]? = some (2, 8) by rw [e23]; rfl) (by decide +kernel) ?_
  refine al0 (n := 47) dX2_init_46 rfl ?_
  refine ggX2_27 (q := 5) (n := 50) dX2_init_47 rfl rfl (show W23.1[1]? = some (2, 8) by rw [e23]; rfl) (by decide +kernel) ?_
  refine qX2_32 (n := 53) dX2_init_50 rfl rfl (Nat.le_of_ble_eq_true rfl) (by decide) (Nat.le_of_ble_eq_true rfl) (Nat.le_of_ble_eq_true rfl) i_7_X0_init (fun v M h => ?_)
  obtain ⟨rfl, rfl⟩ := h
  dsimp only [Option.toList, List.nil_append]
  refine ppX2_35 (n := 56) dX2_init_53 rfl rfl rfl (show W58.1[1]? = some (2, 8) by rw [e58]; rfl) ?_
  rw [wP_eq, show wP W58 1 2 (some 8) = W59 from rfl]
  refine al0 (n := 57) dX2_init_56 rfl ?_
  refine k_bipush (a := 50) (n := 59) dX2_init_57 rfl rfl ?_
  refine k_newa (z := 50) (n := 61) dX2_init_59 rfl (gwi 69 (by decide +kernel) rfl) rfl (by decide) (Nat.le_of_ble_eq_true rfl) (Nat.le_of_ble_eq_true rfl) (by rw [e59]; decide) ?_
  rw [wN_eq (z := 24) _ (by rw [e59]; rfl), show W59.1.length = 24 by rw [e59]; rfl, show wN W59 24 (100, 50) = W60 from rfl]
  refine ppX2_39 (n := 64) dX2_init_61 rfl rfl rfl (show W60.1[1]? = some (2, 8) by rw [e60]; rfl) ?_
  rw [wP_eq, show wP W60 1 3 (some 24) = W61 from rfl]
  refine al0 (n := 65) dX2_init_64 rfl ?_
  refine k_bipush (a := 20) (n := 67) dX2_init_65 rfl rfl ?_
  refine k_newa (z := 20) (n := 69) dX2_init_67 rfl (gwi 69 (by decide +kernel) rfl) rfl (by decide) (Nat.le_of_ble_eq_true rfl) (Nat.le_of_ble_eq_true rfl) (by rw [e61]; decide) ?_
  rw [wN_eq (z := 25) _ (by rw [e61]; rfl), show W61.1.length = 25 by rw [e61]; rfl, show wN W61 25 (100, 20) = W62 from rfl]
  refine ppX2_42 (n := 72) dX2_init_69 rfl rfl rfl (show W62.1[1]? = some (2, 8) by rw [e62]; rfl) ?_
  rw [wP_eq, show wP W62 1 4 (some 25) = W63 from rfl]
  refine al0 (n := 73) dX2_init_72 rfl ?_
  refine k_iconst (a := 1) (n := 74) dX2_init_73 rfl rfl ?_
  refine ppX2_45 (n := 77) dX2_init_74 rfl rfl (show W63.1[1]? = some (2, 8) by rw [e63]; rfl) ?_
  rw [wI_eq, show wI W63 1 7 1 = W64 from rfl]
  exact k_return dX2_init_77 rfl (Nat.le_of_ble_eq_true rfl) (Nat.le_of_ble_eq_true rfl) ⟨rfl, rfl⟩
def W65 : kM := wP W64 0 0 (some 1)
theorem e65 : W65.1 = SS.take 26 := e64
def W66 : kM := wN W65 26 (2, 8)
theorem e66 : W66.1 = SS.take 27 := by
  show W65.1 ++ [(2, 8)] = _
  rw [e65]; decide +kernel
def W67 : kM := wN W66 27 (3, 5)
theorem e67 : W67.1 = SS.take 28 := by
  show W66.1 ++ [(3, 5)] = _
  rw [e66]; decide +kernel
def W68 : kM := wN W67 28 (100, 50)
theorem e68 : W68.1 = SS.take 29 := by
  show W67.1 ++ [(100, 50)] = _
  rw [e67]; decide +kernel
def W69 : kM := wP W68 27 0 (some 28)
theorem e69 : W69.1 = SS.take 29 := e68
def W70 : kM := wN W69 29 (100, 50)
theorem e70 : W70.1 = SS.take 30 := by
  show W69.1 ++ [(100, 50)] = _
  rw [e69]; decide +kernel
def W71 : kM := wP W70 27 1 (some 29)
theorem e71 : W71.1 = SS.take 30 := e70
def W72 : kM := wI W71 27 2 1
theorem e72 : W72.1 = SS.take 30 := e71
def W73 : kM := wI W72 27 3 9
theorem e73 : W73.1 = SS.take 30 := e72
def W74 : kM := wI W73 27 4 5
theorem e74 : W74.1 = SS.take 30 := e73
def W75 : kM := wC W74 28 (va_cpy fU0 (W74.2.2 28) 0 0 5)
theorem e75 : W75.1 = SS.take 30 := e74
set_option maxHeartbeats 1000000 in
set_option maxRecDepth 20000 in
theorem i_10_X3_takeCode : Ct E 96 mX3_takeCode 0 0 [.ref 27, .ref 1002, .int 5] W73 (fun v M => v = none ∧ M = W75) := by
  refine Ct.of (L := [some (.ref 27), some (.ref 1002), some (.int 5)]) rfl rfl (Nat.le_of_ble_eq_true rfl) ?_
  refine al0 (n := 1) dX3_takeCode_0 rfl ?_
  refine il2 (n := 2) dX3_takeCode_1 rfl ?_
  refine al1 (n := 3) dX3_takeCode_2 rfl ?_
  refine k_alen (n := 4) dX3_takeCode_3 rfl rU0 ?_
  rw [show nI 5 = (5 : Int32) from rfl]
  refine w_min (r := 5) (n := 7) dX3_takeCode_4 rfl rfl (Nat.le_of_ble_eq_true rfl) (Nat.le_of_ble_eq_true rfl) (Nat.le_of_ble_eq_true rfl) (by decide) ?_
  refine al0 (n := 8) dX3_takeCode_7 rfl ?_
  refine ggX3_9 (q := 28) (n := 11) dX3_takeCode_8 rfl rfl (show W73.1[27]? = some (3, 5) by rw [e73]; rfl) (by decide +kernel) ?_
  refine k_alen (z := 50) (n := 12) dX3_takeCode_11 rfl (Or.inl ⟨(show W73.1[28]? = some (100, 50) by rw [e73]; rfl), rfl⟩) ?_
  rw [show nI 50 = (50 : Int32) from rfl]
  refine w_min (r := 5) (n := 15) dX3_takeCode_12 rfl rfl (Nat.le_of_ble_eq_true rfl) (Nat.le_of_ble_eq_true rfl) (Nat.le_of_ble_eq_true rfl) (by decide) ?_
  refine ppX3_35 (n := 18) dX3_takeCode_15 rfl rfl (show W73.1[27]? = some (3, 5) by rw [e73]; rfl) ?_
  rw [wI_eq, show wI W73 27 4 5 = W74 from rfl]
  refine al1 (n := 19) dX3_takeCode_18 rfl ?_
  refine k_iconst (a := 0) (n := 20) dX3_takeCode_19 rfl rfl ?_
  refine al0 (n := 21) dX3_takeCode_20 rfl ?_
  refine ggX3_9 (q := 28) (n := 24) dX3_takeCode_21 rfl rfl (show W74.1[27]? = some (3, 5) by rw [e74]; rfl) (by decide +kernel) ?_
  refine k_iconst (a := 0) (n := 25) dX3_takeCode_24 rfl rfl ?_
  refine al0 (n := 26) dX3_takeCode_25 rfl ?_
  refine ggX3_35 (n := 29) dX3_takeCode_26 rfl rfl (show W74.1[27]? = some (3, 5) by rw [e74]; rfl) ?_
  rw [show W74.2.2 27 4 = 5 by decide +kernel]
  refine qX3_38 (k0 := 1002) (n0 := 5) (n1 := 50) (a := 0) (b := 0) (z := 5) (f := fU0) (n := 32) dX3_takeCode_29 rfl rfl rU0 (show W74.1[28]? = some (100, 50) by rw [e74]; rfl) rfl rfl rfl (by decide) (by decide) (by decide) (by decide) (Nat.le_of_ble_eq_true rfl) ?_
  rw [wC_eq, show wC W74 28 (va_cpy fU0 (W74.2.2 28) 0 0 5) = W75 from rfl]
  exact k_return dX3_takeCode_32 rfl (Nat.le_of_ble_eq_true rfl) (Nat.le_of_ble_eq_true rfl) ⟨rfl, rfl⟩
set_option maxHeartbeats 1000000 in
set_option maxRecDepth 20000 in
theorem i_9_X3_init : Ct E 97 mX3_init 2 100 [.ref 27, .int 1, .int 9, .ref 1002] W67 (fun v M => v = none ∧ M = W75) := by
  refine Ct.of (L := [some (.ref 27), some (.int 1), some (.int 9), some (.ref 1002)]) rfl rfl (Nat.le_of_ble_eq_true rfl) ?_
  refine al0 (n := 1) dX3_init_0 rfl ?_
  refine qX3_3 (n := 4) dX3_init_1 rfl rfl (Nat.le_of_ble_eq_true rfl) ?_
  refine al0 (n := 5) dX3_init_4 rfl ?_
  refine k_bipush (a := 50) (n := 7) dX3_init_5 rfl rfl ?_
  refine k_newa (z := 50) (n := 9) dX3_init_7 rfl (gwi 69 (by decide +kernel) rfl) rfl (by decide) (Nat.le_of_ble_eq_true rfl) (Nat.le_of_ble_eq_true rfl) (by rw [e67]; decide) ?_
  rw [wN_eq (z := 28) _ (by rw [e67]; rfl), show W67.1.length = 28 by rw [e67]; rfl, show wN W67 28 (100, 50) = W68 from rfl]
  refine ppX3_9 (n := 12) dX3_init_9 rfl rfl rfl (show W68.1[27]? = some (3, 5) by rw [e68]; rfl) ?_
  rw [wP_eq, show wP W68 27 0 (some 28) = W69 from rfl]
  refine al0 (n := 13) dX3_init_12 rfl ?_
  refine k_bipush (a := 50) (n := 15) dX3_init_13 rfl rfl ?_
  refine k_newa (z := 50) (n := 17) dX3_init_15 rfl (gwi 69 (by decide +kernel) rfl) rfl (by decide) (Nat.le_of_ble_eq_true rfl) (Nat.le_of_ble_eq_true rfl) (by rw [e69]; decide) ?_
  rw [wN_eq (z := 29) _ (by rw [e69]; rfl), show W69.1.length = 29 by rw [e69]; rfl, show wN W69 29 (100, 50) = W70 from rfl]
  refine ppX3_15 (n := 20) dX3_init_17 rfl rfl rfl (show W70.1[27]? = some (3, 5) by rw [e70]; rfl) ?_
  rw [wP_eq, show wP W70 27 1 (some 29) = W71 from rfl]
  refine al0 (n := 21) dX3_init_20 rfl ?_
  refine il1 (n := 22) dX3_init_21 rfl ?_
  refine ppX3_18 (n := 25) dX3_init_22 rfl rfl rfl (show W71.1[27]? = some (3, 5) by rw [e71]; rfl) ?_
  rw [wI_eq, show wI W71 27 2 1 = W72 from rfl]
  refine al0 (n := 26) dX3_init_25 rfl ?_
  refine il2 (n := 27) dX3_init_26 rfl ?_
  refine ppX3_22 (n := 30) dX3_init_27 rfl rfl rfl (show W72.1[27]? = some (3, 5) by rw [e72]; rfl) ?_
  rw [wI_eq, show wI W72 27 3 9 = W73 from rfl]
  refine al0 (n := 31) dX3_init_30 rfl ?_
  refine al3 (n := 32) dX3_init_31 rfl ?_
  refine al3 (n := 33) dX3_init_32 rfl ?_
  refine k_alen (n := 34) dX3_init_33 rfl rU0 ?_
  rw [show nI 5 = (5 : Int32) from rfl]
  refine qX3_25 (n := 37) dX3_init_34 rfl rfl (Nat.le_of_ble_eq_true rfl) (by decide) (Nat.le_of_ble_eq_true rfl) (Nat.le_of_ble_eq_true rfl) (show W73.1[27]? = some (3, 5) by rw [e73]; rfl) i_10_X3_takeCode (fun v M h => ?_)
  obtain ⟨rfl, rfl⟩ := h
  dsimp only [Option.toList, List.nil_append]
  exact k_return dX3_init_37 rfl (Nat.le_of_ble_eq_true rfl) (Nat.le_of_ble_eq_true rfl) ⟨rfl, rfl⟩
def W76 : kM := wP W75 26 0 (some 27)
theorem e76 : W76.1 = SS.take 30 := e75
def W77 : kM := wN W76 30 (3, 5)
theorem e77 : W77.1 = SS.take 31 := by
  show W76.1 ++ [(3, 5)] = _
  rw [e76]; decide +kernel
def W78 : kM := wN W77 31 (100, 50)
theorem e78 : W78.1 = SS.take 32 := by
  show W77.1 ++ [(100, 50)] = _
  rw [e77]; decide +kernel
def W79 : kM := wP W78 30 0 (some 31)
theorem e79 : W79.1 = SS.take 32 := e78
def W80 : kM := wN W79 32 (100, 50)
theorem e80 : W80.1 = SS.take 33 := by
  show W79.1 ++ [(100, 50)] = _
  rw [e79]; decide +kernel
def W81 : kM := wP W80 30 1 (some 32)
theorem e81 : W81.1 = SS.take 33 := e80
def W82 : kM := wI W81 30 2 0
theorem e82 : W82.1 = SS.take 33 := e81
def W83 : kM := wI W82 30 3 1
theorem e83 : W83.1 = SS.take 33 := e82
def W84 : kM := wI W83 30 4 7
theorem e84 : W84.1 = SS.take 33 := e83
def W85 : kM := wC W84 31 (va_cpy fU1 (W84.2.2 31) 0 0 7)
theorem e85 : W85.1 = SS.take 33 := e84
set_option maxHeartbeats 1000000 in
set_option maxRecDepth 20000 in
theorem i_12_X3_takeCode : Ct E 96 mX3_takeCode 0 0 [.ref 30, .ref 1003, .int 7] W83 (fun v M => v = none ∧ M = W85) := by
  refine Ct.of (L := [some (.ref 30), some (.ref 1003), some (.int 7)]) rfl rfl (Nat.le_of_ble_eq_true rfl) ?_
  refine al0 (n := 1) dX3_takeCode_0 rfl ?_
  refine il2 (n := 2) dX3_takeCode_1 rfl ?_
  refine al1 (n := 3) dX3_takeCode_2 rfl ?_
  refine k_alen (n := 4) dX3_takeCode_3 rfl rU1 ?_
  rw [show nI 7 = (7 : Int32) from rfl]
  refine w_min (r := 7) (n := 7) dX3_takeCode_4 rfl rfl (Nat.le_of_ble_eq_true rfl) (Nat.le_of_ble_eq_true rfl) (Nat.le_of_ble_eq_true rfl) (by decide) ?_
  refine al0 (n := 8) dX3_takeCode_7 rfl ?_
  refine ggX3_9 (q := 31) (n := 11) dX3_takeCode_8 rfl rfl (show W83.1[30]? = some (3, 5) by rw [e83]; rfl) (by decide +kernel) ?_
  refine k_alen (z := 50) (n := 12) dX3_takeCode_11 rfl (Or.inl ⟨(show W83.1[31]? = some (100, 50) by rw [e83]; rfl), rfl⟩) ?_
  rw [show nI 50 = (50 : Int32) from rfl]
  refine w_min (r := 7) (n := 15) dX3_takeCode_12 rfl rfl (Nat.le_of_ble_eq_true rfl) (Nat.le_of_ble_eq_true rfl) (Nat.le_of_ble_eq_true rfl) (by decide) ?_
  refine ppX3_35 (n := 18) dX3_takeCode_15 rfl rfl (show W83.1[30]? = some (3, 5) by rw [e83]; rfl) ?_
  rw [wI_eq, show wI W83 30 4 7 = W84 from rfl]
  refine al1 (n := 19) dX3_takeCode_18 rfl ?_
  refine k_iconst (a := 0) (n := 20) dX3_takeCode_19 rfl rfl ?_
  refine al0 (n := 21) dX3_takeCode_20 rfl ?_
  refine ggX3_9 (q := 31) (n := 24) dX3_takeCode_21 rfl rfl (show W84.1[30]? = some (3, 5) by rw [e84]; rfl) (by decide +kernel) ?_
  refine k_iconst (a := 0) (n := 25) dX3_takeCode_24 rfl rfl ?_
  refine al0 (n := 26) dX3_takeCode_25 rfl ?_
  refine ggX3_35 (n := 29) dX3_takeCode_26 rfl rfl (show W84.1[30]? = some (3, 5) by rw [e84]; rfl) ?_
  rw [show W84.2.2 30 4 = 7 by decide +kernel]
  refine qX3_38 (k0 := 1003) (n0 := 7) (n1 := 50) (a := 0) (b := 0) (z := 7) (f := fU1) (n := 32) dX3_takeCode_29 rfl rfl rU1 (show W84.1[31]? = some (100, 50) by rw [e84]; rfl) rfl rfl rfl (by decide) (by decide) (by decide) (by decide) (Nat.le_of_ble_eq_true rfl) ?_
  rw [wC_eq, show wC W84 31 (va_cpy fU1 (W84.2.2 31) 0 0 7) = W85 from rfl]
  exact k_return dX3_takeCode_32 rfl (Nat.le_of_ble_eq_true rfl) (Nat.le_of_ble_eq_true rfl) ⟨rfl, rfl⟩
set_option maxHeartbeats 1000000 in
set_option maxRecDepth 20000 in
theorem i_11_X3_init : Ct E 97 mX3_init 2 100 [.ref 30, .int 0, .int 1, .ref 1003] W77 (fun v M => v = none ∧ M = W85) := by
  refine Ct.of (L := [some (.ref 30), some (.int 0), some (.int 1), some (.ref 1003)]) rfl rfl (Nat.le_of_ble_eq_true rfl) ?_
  refine al0 (n := 1) dX3_init_0 rfl ?_
  refine qX3_3 (n := 4) dX3_init_1 rfl rfl (Nat.le_of_ble_eq_true rfl) ?_
  refine al0 (n := 5) dX3_init_4 rfl ?_
  refine k_bipush (a := 50) (n := 7) dX3_init_5 rfl rfl ?_
  refine k_newa (z := 50) (n := 9) dX3_init_7 rfl (gwi 69 (by decide +kernel) rfl) rfl (by decide) (Nat.le_of_ble_eq_true rfl) (Nat.le_of_ble_eq_true rfl) (by rw [e77]; decide) ?_
  rw [wN_eq (z := 31) _ (by rw [e77]; rfl), show W77.1.length = 31 by rw [e77]; rfl, show wN W77 31 (100, 50) = W78 from rfl]
  refine ppX3_9 (n := 12) dX3_init_9 rfl rfl rfl (show W78.1[30]? = some (3, 5) by rw [e78]; rfl) ?_
  rw [wP_eq, show wP W78 30 0 (some 31) = W79 from rfl]
  refine al0 (n := 13) dX3_init_12 rfl ?_
  refine k_bipush (a := 50) (n := 15) dX3_init_13 rfl rfl ?_
  refine k_newa (z := 50) (n := 17) dX3_init_15 rfl (gwi 69 (by decide +kernel) rfl) rfl (by decide) (Nat.le_of_ble_eq_true rfl) (Nat.le_of_ble_eq_true rfl) (by rw [e79]; decide) ?_
  rw [wN_eq (z := 32) _ (by rw [e79]; rfl), show W79.1.length = 32 by rw [e79]; rfl, show wN W79 32 (100, 50) = W80 from rfl]
  refine ppX3_15 (n := 20) dX3_init_17 rfl rfl rfl (show W80.1[30]? = some (3, 5) by rw [e80]; rfl) ?_
  rw [wP_eq, show wP W80 30 1 (some 32) = W81 from rfl]
  refine al0 (n := 21) dX3_init_20 rfl ?_
  refine il1 (n := 22) dX3_init_21 rfl ?_
  refine ppX3_18 (n := 25) dX3_init_22 rfl rfl rfl (show W81.1[30]? = some (3, 5) by rw [e81]; rfl) ?_
  rw [wI_eq, show wI W81 30 2 0 = W82 from rfl]
  refine al0 (n := 26) dX3_init_25 rfl ?_
  refine il2 (n := 27) dX3_init_26 rfl ?_
  refine ppX3_22 (n := 30) dX3_init_27 rfl rfl rfl (show W82.1[30]? = some (3, 5) by rw [e82]; rfl) ?_
  rw [wI_eq, show wI W82 30 3 1 = W83 from rfl]
  refine al0 (n := 31) dX3_init_30 rfl ?_
  refine al3 (n := 32) dX3_init_31 rfl ?_
  refine al3 (n := 33) dX3_init_32 rfl ?_
  refine k_alen (n := 34) dX3_init_33 rfl rU1 ?_
  rw [show nI 7 = (7 : Int32) from rfl]
  refine qX3_25 (n := 37) dX3_init_34 rfl rfl (Nat.le_of_ble_eq_true rfl) (by decide) (Nat.le_of_ble_eq_true rfl) (Nat.le_of_ble_eq_true rfl) (show W83.1[30]? = some (3, 5) by rw [e83]; rfl) i_12_X3_takeCode (fun v M h => ?_)
  obtain ⟨rfl, rfl⟩ := h
  dsimp only [Option.toList, List.nil_append]
  exact k_return dX3_init_37 rfl (Nat.le_of_ble_eq_true rfl) (Nat.le_of_ble_eq_true rfl) ⟨rfl, rfl⟩
def W86 : kM := wP W85 26 1 (some 30)
theorem e86 : W86.1 = SS.take 33 := e85
def W87 : kM := wN W86 33 (0, 13)
theorem e87 : W87.1 = SS.take 34 := by
  show W86.1 ++ [(0, 13)] = _
  rw [e86]; decide +kernel
def W88 : kM := wN W87 34 (100, 8)
theorem e88 : W88.1 = SS.take 35 := by
  show W87.1 ++ [(100, 8)] = _
  rw [e87]; decide +kernel
def W89 : kM := wP W88 33 2 (some 34)
theorem e89 : W89.1 = SS.take 35 := e88
def W90 : kM := wN W89 35 (107, 4)
theorem e90 : W90.1 = SS.take 36 := by
  show W89.1 ++ [(107, 4)] = _
  rw [e89]; decide +kernel
def W91 : kM := wP W90 33 3 (some 35)
theorem e91 : W91.1 = SS.take 36 := e90
def W92 : kM := wN W91 36 (102, 8)
theorem e92 : W92.1 = SS.take 37 := by
  show W91.1 ++ [(102, 8)] = _
  rw [e91]; decide +kernel
def W93 : kM := wP W92 33 4 (some 36)
theorem e93 : W93.1 = SS.take 37 := e92
def W94 : kM := wI W93 33 5 4
theorem e94 : W94.1 = SS.take 37 := e93
def W95 : kM := wI W94 33 6 4
theorem e95 : W95.1 = SS.take 37 := e94
def W96 : kM := wI W95 33 7 1
theorem e96 : W96.1 = SS.take 37 := e95
def W97 : kM := wP W96 33 0 (some 27)
theorem e97 : W97.1 = SS.take 37 := e96
def W98 : kM := wP W97 33 1 (some 30)
theorem e98 : W98.1 = SS.take 37 := e97
def W99 : kM := wN W98 37 (6, 2)
theorem e99 : W99.1 = SS.take 38 := by
  show W98.1 ++ [(6, 2)] = _
  rw [e98]; decide +kernel
def W100 : kM := wP W99 35 0 (some 37)
theorem e100 : W100.1 = SS.take 38 := e99
def W101 : kM := wN W100 38 (6, 2)
theorem e101 : W101.1 = SS.take 39 := by
  show W100.1 ++ [(6, 2)] = _
  rw [e100]; decide +kernel
def W102 : kM := wP W101 35 1 (some 38)
theorem e102 : W102.1 = SS.take 39 := e101
def W103 : kM := wN W102 39 (6, 2)
theorem e103 : W103.1 = SS.take 40 := by
  show W102.1 ++ [(6, 2)] = _
  rw [e102]; decide +kernel
def W104 : kM := wP W103 35 2 (some 39)
theorem e104 : W104.1 = SS.take 40 := e103
def W105 : kM := wN W104 40 (6, 2)
theorem e105 : W105.1 = SS.take 41 := by
  show W104.1 ++ [(6, 2)] = _
  rw [e104]; decide +kernel
def W106 : kM := wP W105 35 3 (some 40)
theorem e106 : W106.1 = SS.take 41 := e105
def W107 : kM := wN W106 41 (1, 7)
theorem e107 : W107.1 = SS.take 42 := by
  show W106.1 ++ [(1, 7)] = _
  rw [e106]; decide +kernel
def W108 : kM := wP W107 36 0 (some 41)
theorem e108 : W108.1 = SS.take 42 := e107
def W109 : kM := wN W108 42 (1, 7)
theorem e109 : W109.1 = SS.take 43 := by
  show W108.1 ++ [(1, 7)] = _
  rw [e108]; decide +kernel
def W110 : kM := wP W109 36 1 (some 42)
theorem e110 : W110.1 = SS.take 43 := e109
def W111 : kM := wN W110 43 (1, 7)
theorem e111 : W111.1 = SS.take 44 := by
  show W110.1 ++ [(1, 7)] = _
  rw [e110]; decide +kernel
def W112 : kM := wP W111 36 2 (some 43)
theorem e112 : W112.1 = SS.take 44 := e111
def W113 : kM := wN W112 44 (1, 7)
theorem e113 : W113.1 = SS.take 45 := by
  show W112.1 ++ [(1, 7)] = _
  rw [e112]; decide +kernel
def W114 : kM := wP W113 36 3 (some 44)
theorem e114 : W114.1 = SS.take 45 := e113
def W115 : kM := wN W114 45 (1, 7)
theorem e115 : W115.1 = SS.take 46 := by
  show W114.1 ++ [(1, 7)] = _
  rw [e114]; decide +kernel
def W116 : kM := wP W115 36 4 (some 45)
theorem e116 : W116.1 = SS.take 46 := e115
def W117 : kM := wN W116 46 (1, 7)
theorem e117 : W117.1 = SS.take 47 := by
  show W116.1 ++ [(1, 7)] = _
  rw [e116]; decide +kernel
def W118 : kM := wP W117 36 5 (some 46)
theorem e118 : W118.1 = SS.take 47 := e117
def W119 : kM := wN W118 47 (1, 7)
theorem e119 : W119.1 = SS.take 48 := by
  show W118.1 ++ [(1, 7)] = _
  rw [e118]; decide +kernel
def W120 : kM := wP W119 36 6 (some 47)
theorem e120 : W120.1 = SS.take 48 := e119
def W121 : kM := wN W120 48 (1, 7)
theorem e121 : W121.1 = SS.take 49 := by
  show W120.1 ++ [(1, 7)] = _
  rw [e120]; decide +kernel
def W122 : kM := wP W121 36 7 (some 48)
theorem e122 : W122.1 = SS.take 49 := e121
set_option maxHeartbeats 1000000 in
set_option maxRecDepth 20000 in
theorem i_13_X0_init : Ct E 97 mX0_init 15 84 [.ref 33, .ref 27, .ref 30] W87 (fun v M => v = none ∧ M = W122) := by
  refine Ct.of (L := [some (.ref 33), some (.ref 27), some (.ref 30), none]) rfl rfl (Nat.le_of_ble_eq_true rfl) ?_
  refine al0 (n := 1) dX0_init_0 rfl ?_
  refine qX0_3 (n := 4) dX0_init_1 rfl rfl (Nat.le_of_ble_eq_true rfl) ?_
  refine al0 (n := 5) dX0_init_4 rfl ?_
  refine k_bipush (a := 8) (n := 7) dX0_init_5 rfl rfl ?_
  refine k_newa (z := 8) (n := 9) dX0_init_7 rfl (gwi 69 (by decide +kernel) rfl) rfl (by decide) (Nat.le_of_ble_eq_true rfl) (Nat.le_of_ble_eq_true rfl) (by rw [e87]; decide) ?_
  rw [wN_eq (z := 34) _ (by rw [e87]; rfl), show W87.1.length = 34 by rw [e87]; rfl, show wN W87 34 (100, 8) = W88 from rfl]
  refine ppX0_9 (n := 12) dX0_init_9 rfl rfl rfl (show W88.1[33]? = some (0, 13) by rw [e88]; rfl) ?_
  rw [wP_eq, show wP W88 33 2 (some 34) = W89 from rfl]
  refine al0 (n := 13) dX0_init_12 rfl ?_
  refine k_iconst (a := 4) (n := 14) dX0_init_13 rfl rfl ?_
  refine k_anew (z := 4) (kd := 107) (C := "RopeBorder$Turner") (n := 17) dX0_init_14 rfl (gwi 78 (by decide +kernel) rfl) (by decide +kernel) rfl (by decide) (Nat.le_of_ble_eq_true rfl) (Nat.le_of_ble_eq_true rfl) (by rw [e89]; decide) ?_
  rw [wN_eq (z := 35) _ (by rw [e89]; rfl), show W89.1.length = 35 by rw [e89]; rfl, show wN W89 35 (107, 4) = W90 from rfl]
  refine ppX0_17 (n := 20) dX0_init_17 rfl rfl rfl (show W90.1[33]? = some (0, 13) by rw [e90]; rfl) ?_
  rw [wP_eq, show wP W90 33 3 (some 35) = W91 from rfl]
  refine al0 (n := 21) dX0_init_20 rfl ?_
  refine k_bipush (a := 8) (n := 23) dX0_init_21 rfl rfl ?_
  refine k_anew (z := 8) (kd := 102) (C := "RopeBorder$Crosser") (n := 26) dX0_init_23 rfl (gwi 80 (by decide +kernel) rfl) (by decide +kernel) rfl (by decide) (Nat.le_of_ble_eq_true rfl) (Nat.le_of_ble_eq_true rfl) (by rw [e91]; decide) ?_
  rw [wN_eq (z := 36) _ (by rw [e91]; rfl), show W91.1.length = 36 by rw [e91]; rfl, show wN W91 36 (102, 8) = W92 from rfl]
  refine ppX0_23 (n := 29) dX0_init_26 rfl rfl rfl (show W92.1[33]? = some (0, 13) by rw [e92]; rfl) ?_
  rw [wP_eq, show wP W92 33 4 (some 36) = W93 from rfl]
  refine al0 (n := 30) dX0_init_29 rfl ?_
  refine k_iconst (a := 4) (n := 31) dX0_init_30 rfl rfl ?_
  refine ppX0_27 (n := 34) dX0_init_31 rfl rfl (show W93.1[33]? = some (0, 13) by rw [e93]; rfl) ?_
  rw [wI_eq, show wI W93 33 5 4 = W94 from rfl]
  refine al0 (n := 35) dX0_init_34 rfl ?_
  refine k_iconst (a := 4) (n := 36) dX0_init_35 rfl rfl ?_
  refine ppX0_31 (n := 39) dX0_init_36 rfl rfl (show W94.1[33]? = some (0, 13) by rw [e94]; rfl) ?_
  rw [wI_eq, show wI W94 33 6 4 = W95 from rfl]
  refine al0 (n := 40) dX0_init_39 rfl ?_
  refine k_iconst (a := 1) (n := 41) dX0_init_40 rfl rfl ?_
  refine ppX0_34 (n := 44) dX0_init_41 rfl rfl (show W95.1[33]? = some (0, 13) by rw [e95]; rfl) ?_
  rw [wI_eq, show wI W95 33 7 1 = W96 from rfl]
  refine al0 (n := 45) dX0_init_44 rfl ?_
  refine al1 (n := 46) dX0_init_45 rfl ?_
  refine ppX0_37 (n := 49) dX0_init_46 rfl rfl rfl (show W96.1[33]? = some (0, 13) by rw [e96]; rfl) ?_
  rw [wP_eq, show wP W96 33 0 (some 27) = W97 from rfl]
  refine al0 (n := 50) dX0_init_49 rfl ?_
  refine al2 (n := 51) dX0_init_50 rfl ?_
  refine ppX0_41 (n := 54) dX0_init_51 rfl rfl rfl (show W97.1[33]? = some (0, 13) by rw [e97]; rfl) ?_
  rw [wP_eq, show wP W97 33 1 (some 30) = W98 from rfl]
  refine k_iconst (a := 0) (n := 55) dX0_init_54 rfl rfl ?_
  refine is3 (n := 56) dX0_init_55 rfl trivial ?_
  refine il3 (n := 57) dX0_init_56 rfl ?_
  refine k_iconst (a := 4) (n := 58) dX0_init_57 rfl rfl ?_
  refine k_icmp_ge (t := 80) (n := 61) dX0_init_58 (by decide) rfl (fun h => absurd h (by decide)) (fun _ => ?_)
  refine al0 (n := 62) dX0_init_61 rfl ?_
  refine ggX0_17 (q := 35) (n := 65) dX0_init_62 rfl rfl (show W98.1[33]? = some (0, 13) by rw [e98]; rfl) (by decide +kernel) ?_
  refine il3 (n := 66) dX0_init_65 rfl ?_
  refine k_new (n := 69) dX0_init_66 rfl kcX6 (gwi 78 (by decide +kernel) rfl) (gwi 82 (by decide +kernel) rfl) gw7 dfX6 (Nat.le_of_ble_eq_true rfl) (Nat.le_of_ble_eq_true rfl) (by rw [e98]; decide) ?_
  rw [wN_eq (z := 37) _ (by rw [e98]; rfl), show W98.1.length = 37 by rw [e98]; rfl, show wN W98 37 (6, 2) = W99 from rfl]
  refine k_dup (n := 70) dX0_init_69 rfl rfl ?_
  refine nX0_44 (n := 73) dX0_init_70 rfl rfl (Nat.le_of_ble_eq_true rfl) (by decide) (Nat.le_of_ble_eq_true rfl) (Nat.le_of_ble_eq_true rfl) (i_X6_init _ _ _) (fun v M h => ?_)
  obtain ⟨rfl, rfl⟩ := h
  dsimp only [Option.toList, List.nil_append]
  refine k_aast (r := (RX6, TX6, 2)) (kd := 107) (ci := 6) (j := 0) (z := 4) (n := 74) dX0_init_73 rfl (show W99.1[35]? = some (107, 4) by rw [e99]; rfl) (by decide +kernel) rfl (by decide) (by decide) (by decide) rfl (show W99.1[37]? = some (6, 2) by rw [e99]; rfl) ?_
  rw [wP_eq, show wP W99 35 0 (some 37) = W100 from rfl]
  refine ii3 (b := 1) (n := 77) dX0_init_74 rfl (by decide) trivial ?_
  refine k_goto (n := 56) dX0_init_77 (by decide) ?_
  refine il3 (n := 57) dX0_init_56 rfl ?_
  refine k_iconst (a := 4) (n := 58) dX0_init_57 rfl rfl ?_
  refine k_icmp_ge (t := 80) (n := 61) dX0_init_58 (by decide) rfl (fun h => absurd h (by decide)) (fun _ => ?_)
  refine al0 (n := 62) dX0_init_61 rfl ?_
  refine ggX0_17 (q := 35) (n := 65) dX0_init_62 rfl rfl (show W100.1[33]? = some (0, 13) by rw [e100]; rfl) (by decide +kernel) ?_
  refine il3 (n := 66) dX0_init_65 rfl ?_
  refine k_new (n := 69) dX0_init_66 rfl kcX6 (gwi 78 (by decide +kernel) rfl) (gwi 82 (by decide +kernel) rfl) gw7 dfX6 (Nat.le_of_ble_eq_true rfl) (Nat.le_of_ble_eq_true rfl) (by rw [e100]; decide) ?_
  rw [wN_eq (z := 38) _ (by rw [e100]; rfl), show W100.1.length = 38 by rw [e100]; rfl, show wN W100 38 (6, 2) = W101 from rfl]
  refine k_dup (n := 70) dX0_init_69 rfl rfl ?_
  refine nX0_44 (n := 73) dX0_init_70 rfl rfl (Nat.le_of_ble_eq_true rfl) (by decide) (Nat.le_of_ble_eq_true rfl) (Nat.le_of_ble_eq_true rfl) (i_X6_init _ _ _) (fun v M h => ?_)
  obtain ⟨rfl, rfl⟩ := h
  dsimp only [Option.toList, List.nil_append]
  refine k_aast (r := (RX6, TX6, 2)) (kd := 107) (ci := 6) (j := 1) (z := 4) (n := 74) dX0_init_73 rfl (show W101.1[35]? = some (107, 4) by rw [e101]; rfl) (by decide +kernel) rfl (by decide) (by decide) (by decide) rfl (show W101.1[38]? = some (6, 2) by rw [e101]; rfl) ?_
  rw [wP_eq, show wP W101 35 1 (some 38) = W102 from rfl]
  refine ii3 (b := 2) (n := 77) dX0_init_74 rfl (by decide) trivial ?_
  refine k_goto (n := 56) dX0_init_77 (by decide) ?_
  refine il3 (n := 57) dX0_init_56 rfl ?_
  refine k_iconst (a := 4) (n := 58) dX0_init_57 rfl rfl ?_
  refine k_icmp_ge (t := 80) (n := 61) dX0_init_58 (by decide) rfl (fun h => absurd h (by decide)) (fun _ => ?_)
  refine al0 (n := 62) dX0_init_61 rfl ?_
  refine ggX0_17 (q := 35) (n := 65) dX0_init_62 rfl rfl (show W102.1[33]? = some (0, 13) by rw [e102]; rfl) (by decide +kernel) ?_
  refine il3 (n := 66) dX0_init_65 rfl ?_
  refine k_new (n := 69) dX0_init_66 rfl kcX6 (gwi 78 (by decide +kernel) rfl) (gwi 82 (by decide +kernel) rfl) gw7 dfX6 (Nat.le_of_ble_eq_true rfl) (Nat.le_of_ble_eq_true rfl) (by rw [e102]; decide) ?_
  rw [wN_eq (z := 39) _ (by rw [e102]; rfl), show W102.1.length = 39 by rw [e102]; rfl, show wN W102 39 (6, 2) = W103 from rfl]
  refine k_dup (n := 70) dX0_init_69 rfl rfl ?_
  refine nX0_44 (n := 73) dX0_init_70 rfl rfl (Nat.le_of_ble_eq_true rfl) (by decide) (Nat.le_of_ble_eq_true rfl) (Nat.le_of_ble_eq_true rfl) (i_X6_init _ _ _) (fun v M h => ?_)
  obtain ⟨rfl, rfl⟩ := h
  dsimp only [Option.toList, List.nil_append]
  refine k_aast (r := (RX6, TX6, 2)) (kd := 107) (ci := 6) (j := 2) (z := 4) (n := 74) dX0_init_73 rfl (show W103.1[35]? = some (107, 4) by rw [e103]; rfl) (by decide +kernel) rfl (by decide) (by decide) (by decide) rfl (show W103.1[39]? = some (6, 2) by rw [e103]; rfl) ?_
  rw [wP_eq, show wP W103 35 2 (some 39) = W104 from rfl]
  refine ii3 (b := 3) (n := 77) dX0_init_74 rfl (by decide) trivial ?_
  refine k_goto (n := 56) dX0_init_77 (by decide) ?_
  refine il3 (n := 57) dX0_init_56 rfl ?_
  refine k_iconst (a := 4) (n := 58) dX0_init_57 rfl rfl ?_
  refine k_icmp_ge (t := 80) (n := 61) dX0_init_58 (by decide) rfl (fun h => absurd h (by decide)) (fun _ => ?_)
  refine al0 (n := 62) dX0_init_61 rfl ?_
  refine ggX0_17 (q := 35) (n := 65) dX0_init_62 rfl rfl (show W104.1[33]? = some (0, 13) by rw [e104]; rfl) (by decide +kernel) ?_
  refine il3 (n := 66) dX0_init_65 rfl ?_
  refine k_new (n := 69) dX0_init_66 rfl kcX6 (gwi 78 (by decide +kernel) rfl) (gwi 82 (by decide +kernel) rfl) gw7 dfX6 (Nat.le_of_ble_eq_true rfl) (Nat.le_of_ble_eq_true rfl) (by rw [e104]; decide) ?_
  rw [wN_eq (z := 40) _ (by rw [e104]; rfl), show W104.1.length = 40 by rw [e104]; rfl, show wN W104 40 (6, 2) = W105 from rfl]
  refine k_dup (n := 70) dX0_init_69 rfl rfl ?_
  refine nX0_44 (n := 73) dX0_init_70 rfl rfl (Nat.le_of_ble_eq_true rfl) (by decide) (Nat.le_of_ble_eq_true rfl) (Nat.le_of_ble_eq_true rfl) (i_X6_init _ _ _) (fun v M h => ?_)
  obtain ⟨rfl, rfl⟩ := h
  dsimp only [Option.toList, List.nil_append]
  refine k_aast (r := (RX6, TX6, 2)) (kd := 107) (ci := 6) (j := 3) (z := 4) (n := 74) dX0_init_73 rfl (show W105.1[35]? = some (107, 4) by rw [e105]; rfl) (by decide +kernel) rfl (by decide) (by decide) (by decide) rfl (show W105.1[40]? = some (6, 2) by rw [e105]; rfl) ?_
  rw [wP_eq, show wP W105 35 3 (some 40) = W106 from rfl]
  refine ii3 (b := 4) (n := 77) dX0_init_74 rfl (by decide) trivial ?_
  refine k_goto (n := 56) dX0_init_77 (by decide) ?_
  refine il3 (n := 57) dX0_init_56 rfl ?_
  refine k_iconst (a := 4) (n := 58) dX0_init_57 rfl rfl ?_
  refine k_icmp_ge (t := 80) (n := 61) dX0_init_58 (by decide) rfl (fun _ => ?_) (fun h => absurd (by decide) h)
  refine k_iconst (a := 0) (n := 81) dX0_init_80 rfl rfl ?_
  refine is3 (n := 82) dX0_init_81 rfl trivial ?_
  refine il3 (n := 83) dX0_init_82 rfl ?_
  refine k_bipush (a := 8) (n := 85) dX0_init_83 rfl rfl ?_
  refine k_icmp_ge (t := 107) (n := 88) dX0_init_85 (by decide) rfl (fun h => absurd h (by decide)) (fun _ => ?_)
  refine al0 (n := 89) dX0_init_88 rfl ?_
  refine ggX0_23 (q := 36) (n := 92) dX0_init_89 rfl rfl (show W106.1[33]? = some (0, 13) by rw [e106]; rfl) (by decide +kernel) ?_
  refine il3 (n := 93) dX0_init_92 rfl ?_
  refine k_new (n := 96) dX0_init_93 rfl kcX1 (gwi 80 (by decide +kernel) rfl) (gwi 98 (by decide +kernel) rfl) gw8 dfX1 (Nat.le_of_ble_eq_true rfl) (Nat.le_of_ble_eq_true rfl) (by rw [e106]; decide) ?_
  rw [wN_eq (z := 41) _ (by rw [e106]; rfl), show W106.1.length = 41 by rw [e106]; rfl, show wN W106 41 (1, 7) = W107 from rfl]
  refine k_dup (n := 97) dX0_init_96 rfl rfl ?_
  refine nX0_45 (n := 100) dX0_init_97 rfl rfl (Nat.le_of_ble_eq_true rfl) (by decide) (Nat.le_of_ble_eq_true rfl) (Nat.le_of_ble_eq_true rfl) (i_X1_init _ _ _) (fun v M h => ?_)
  obtain ⟨rfl, rfl⟩ := h
  dsimp only [Option.toList, List.nil_append]
  refine k_aast (r := (RX1, TX1, 7)) (kd := 102) (ci := 1) (j := 0) (z := 8) (n := 101) dX0_init_100 rfl (show W107.1[36]? = some (102, 8) by rw [e107]; rfl) (by decide +kernel) rfl (by decide) (by decide) (by decide) rfl (show W107.1[41]? = some (1, 7) by rw [e107]; rfl) ?_
  rw [wP_eq, show wP W107 36 0 (some 41) = W108 from rfl]
  refine ii3 (b := 1) (n := 104) dX0_init_101 rfl (by decide) trivial ?_
  refine k_goto (n := 82) dX0_init_104 (by decide) ?_
  refine il3 (n := 83) dX0_init_82 rfl ?_
  refine k_bipush (a := 8) (n := 85) dX0_init_83 rfl rfl ?_
  refine k_icmp_ge (t := 107) (n := 88) dX0_init_85 (by decide) rfl (fun h => absurd h (by decide)) (fun _ => ?_)
  refine al0 (n := 89) dX0_init_88 rfl ?_
  refine ggX0_23 (q := 36) (n := 92) dX0_init_89 rfl rfl (show W108.1[33]? = some (0, 13) by rw [e108]; rfl) (by decide +kernel) ?_
  refine il3 (n := 93) dX0_init_92 rfl ?_
  refine k_new (n := 96) dX0_init_93 rfl kcX1 (gwi 80 (by decide +kernel) rfl) (gwi 98 (by decide +kernel) rfl) gw8 dfX1 (Nat.le_of_ble_eq_true rfl) (Nat.le_of_ble_eq_true rfl) (by rw [e108]; decide) ?_
  rw [wN_eq (z := 42) _ (by rw [e108]; rfl), show W108.1.length = 42 by rw [e108]; rfl, show wN W108 42 (1, 7) = W109 from rfl]
  refine k_dup (n := 97) dX0_init_96 rfl rfl ?_
  refine nX0_45 (n := 100) dX0_init_97 rfl rfl (Nat.le_of_ble_eq_true rfl) (by decide) (Nat.le_of_ble_eq_true rfl) (Nat.le_of_ble_eq_true rfl) (i_X1_init _ _ _) (fun v M h => ?_)
  obtain ⟨rfl, rfl⟩ := h
  dsimp only [Option.toList, List.nil_append]
  refine k_aast (r := (RX1, TX1, 7)) (kd := 102) (ci := 1) (j := 1) (z := 8) (n := 101) dX0_init_100 rfl (show W109.1[36]? = some (102, 8) by rw [e109]; rfl) (by decide +kernel) rfl (by decide) (by decide) (by decide) rfl (show W109.1[42]? = some (1, 7) by rw [e109]; rfl) ?_
  rw [wP_eq, show wP W109 36 1 (some 42) = W110 from rfl]
  refine ii3 (b := 2) (n := 104) dX0_init_101 rfl (by decide) trivial ?_
  refine k_goto (n := 82) dX0_init_104 (by decide) ?_
  refine il3 (n := 83) dX0_init_82 rfl ?_
  refine k_bipush (a := 8) (n := 85) dX0_init_83 rfl rfl ?_
  refine k_icmp_ge (t := 107) (n := 88) dX0_init_85 (by decide) rfl (fun h => absurd h (by decide)) (fun _ => ?_)
  refine al0 (n := 89) dX0_init_88 rfl ?_
  refine ggX0_23 (q := 36) (n := 92) dX0_init_89 rfl rfl (show W110.1[33]? = some (0, 13) by rw [e110]; rfl) (by decide +kernel) ?_
  refine il3 (n := 93) dX0_init_92 rfl ?_
  refine k_new (n := 96) dX0_init_93 rfl kcX1 (gwi 80 (by decide +kernel) rfl) (gwi 98 (by decide +kernel) rfl) gw8 dfX1 (Nat.le_of_ble_eq_true rfl) (Nat.le_of_ble_eq_true rfl) (by rw [e110]; decide) ?_
  rw [wN_eq (z := 43) _ (by rw [e110]; rfl), show W110.1.length = 43 by rw [e110]; rfl, show wN W110 43 (1, 7) = W111 from rfl]
  refine k_dup (n := 97) dX0_init_96 rfl rfl ?_
  refine nX0_45 (n := 100) dX0_init_97 rfl rfl (Nat.le_of_ble_eq_true rfl) (by decide) (Nat.le_of_ble_eq_true rfl) (Nat.le_of_ble_eq_true rfl) (i_X1_init _ _ _) (fun v M h => ?_)
  obtain ⟨rfl, rfl⟩ := h
  dsimp only [Option.toList, List.nil_append]
  refine k_aast (r := (RX1, TX1, 7)) (kd := 102) (ci := 1) (j := 2) (z := 8) (n := 101) dX0_init_100 rfl (show W111.1[36]? = some (102, 8) by rw [e111]; rfl) (by decide +kernel) rfl (by decide) (by decide) (by decide) rfl (show W111.1[43]? = some (1, 7) by rw [e111]; rfl) ?_
  rw [wP_eq, show wP W111 36 2 (some 43) = W112 from rfl]
  refine ii3 (b := 3) (n := 104) dX0_init_101 rfl (by decide) trivial ?_
  refine k_goto (n := 82) dX0_init_104 (by decide) ?_
  refine il3 (n := 83) dX0_init_82 rfl ?_
  refine k_bipush (a := 8) (n := 85) dX0_init_83 rfl rfl ?_
  refine k_icmp_ge (t := 107) (n := 88) dX0_init_85 (by decide) rfl (fun h => absurd h (by decide)) (fun _ => ?_)
  refine al0 (n := 89) dX0_init_88 rfl ?_
  refine ggX0_23 (q := 36) (n := 92) dX0_init_89 rfl rfl (show W112.1[33]? = some (0, 13) by rw [e112]; rfl) (by decide +kernel) ?_
  refine il3 (n := 93) dX0_init_92 rfl ?_
  refine k_new (n := 96) dX0_init_93 rfl kcX1 (gwi 80 (by decide +kernel) rfl) (gwi 98 (by decide +kernel) rfl) gw8 dfX1 (Nat.le_of_ble_eq_true rfl) (Nat.le_of_ble_eq_true rfl) (by rw [e112]; decide) ?_
  rw [wN_eq (z := 44) _ (by rw [e112]; rfl), show W112.1.length = 44 by rw [e112]; rfl, show wN W112 44 (1, 7) = W113 from rfl]
  refine k_dup (n := 97) dX0_init_96 rfl rfl ?_
  refine nX0_45 (n := 100) dX0_init_97 rfl rfl (Nat.le_of_ble_eq_true rfl) (by decide) (Nat.le_of_ble_eq_true rfl) (Nat.le_of_ble_eq_true rfl) (i_X1_init _ _ _) (fun v M h => ?_)
  obtain ⟨rfl, rfl⟩ := h
  dsimp only [Option.toList, List.nil_append]
  refine k_aast (r := (RX1, TX1, 7)) (kd := 102) (ci := 1) (j := 3) (z := 8) (n := 101) dX0_init_100 rfl (show W113.1[36]? = some (102, 8) by rw [e113]; rfl) (by decide +kernel) rfl (by decide) (by decide) (by decide) rfl (show W113.1[44]? = some (1, 7) by rw [e113]; rfl) ?_
  rw [wP_eq, show wP W113 36 3 (some 44) = W114 from rfl]
  refine ii3 (b := 4) (n := 104) dX0_init_101 rfl (by decide) trivial ?_
  refine k_goto (n := 82) dX0_init_104 (by decide) ?_
  refine il3 (n := 83) dX0_init_82 rfl ?_
  refine k_bipush (a := 8) (n := 85) dX0_init_83 rfl rfl ?_
  refine k_icmp_ge (t := 107) (n := 88) dX0_init_85 (by decide) rfl (fun h => absurd h (by decide)) (fun _ => ?_)
  refine al0 (n := 89) dX0_init_88 rfl ?_
  refine ggX0_23 (q := 36) (n := 92) dX0_init_89 rfl rfl (show W114.1[33]? = some (0, 13) by rw [e114]; rfl) (by decide +kernel) ?_
  refine il3 (n := 93) dX0_init_92 rfl ?_
  refine k_new (n := 96) dX0_init_93 rfl kcX1 (gwi 80 (by decide +kernel) rfl) (gwi 98 (by decide +kernel) rfl) gw8 dfX1 (Nat.le_of_ble_eq_true rfl) (Nat.le_of_ble_eq_true rfl) (by rw [e114]; decide) ?_
  rw [wN_eq (z := 45) _ (by rw [e114]; rfl), show W114.1.length = 45 by rw [e114]; rfl, show wN W114 45 (1, 7) = W115 from rfl]
  refine k_dup (n := 97) dX0_init_96 rfl rfl ?_
  refine nX0_45 (n := 100) dX0_init_97 rfl rfl (Nat.le_of_ble_eq_true rfl) (by decide) (Nat.le_of_ble_eq_true rfl) (Nat.le_of_ble_eq_true rfl) (i_X1_init _ _ _) (fun v M h => ?_)
  obtain ⟨rfl, rfl⟩ := h
  dsimp only [Option.toList, List.nil_append]
  refine k_aast (r := (RX1, TX1, 7)) (kd := 102) (ci := 1) (j := 4) (z := 8) (n := 101) dX0_init_100 rfl (show W115.1[36]? = some (102, 8) by rw [e115]; rfl) (by decide +kernel) rfl (by decide) (by decide) (by decide) rfl (show W115.1[45]? = some (1, 7) by rw [e115]; rfl) ?_
  rw [wP_eq, show wP W115 36 4 (some 45) = W116 from rfl]
  refine ii3 (b := 5) (n := 104) dX0_init_101 rfl (by decide) trivial ?_
  refine k_goto (n := 82) dX0_init_104 (by decide) ?_
  refine il3 (n := 83) dX0_init_82 rfl ?_
  refine k_bipush (a := 8) (n := 85) dX0_init_83 rfl rfl ?_
  refine k_icmp_ge (t := 107) (n := 88) dX0_init_85 (by decide) rfl (fun h => absurd h (by decide)) (fun _ => ?_)
  refine al0 (n := 89) dX0_init_88 rfl ?_
  refine ggX0_23 (q := 36) (n := 92) dX0_init_89 rfl rfl (show W116.1[33]? = some (0, 13) by rw [e116]; rfl) (by decide +kernel) ?_
  refine il3 (n := 93) dX0_init_92 rfl ?_
  refine k_new (n := 96) dX0_init_93 rfl kcX1 (gwi 80 (by decide +kernel) rfl) (gwi 98 (by decide +kernel) rfl) gw8 dfX1 (Nat.le_of_ble_eq_true rfl) (Nat.le_of_ble_eq_true rfl) (by rw [e116]; decide) ?_
  rw [wN_eq (z := 46) _ (by rw [e116]; rfl), show W116.1.length = 46 by rw [e116]; rfl, show wN W116 46 (1, 7) = W117 from rfl]
  refine k_dup (n := 97) dX0_init_96 rfl rfl ?_
  refine nX0_45 (n := 100) dX0_init_97 rfl rfl (Nat.le_of_ble_eq_true rfl) (by decide) (Nat.le_of_ble_eq_true rfl) (Nat.le_of_ble_eq_true rfl) (i_X1_init _ _ _) (fun v M h => ?_)
  obtain ⟨rfl, rfl⟩ := h
  dsimp only [Option.toList, List.nil_append]
  refine k_aast (r := (RX1, TX1, 7)) (kd := 102) (ci := 1) (j := 5) (z := 8) (n := 101) dX0_init_100 rfl (show W117.1[36]? = some (102, 8) by rw [e117]; rfl) (by decide +kernel) rfl (by decide) (by decide) (by decide) rfl (show W117.1[46]? = some (1, 7) by rw [e117]; rfl) ?_
  rw [wP_eq, show wP W117 36 5 (some 46) = W118 from rfl]
  refine ii3 (b := 6) (n := 104) dX0_init_101 rfl (by decide) trivial ?_
  refine k_goto (n := 82) dX0_init_104 (by decide) ?_
  refine il3 (n := 83) dX0_init_82 rfl ?_
  refine k_bipush (a := 8) (n := 85) dX0_init_83 rfl rfl ?_
  refine k_icmp_ge (t := 107) (n := 88) dX0_init_85 (by decide) rfl (fun h => absurd h (by decide)) (fun _ => ?_)
  refine al0 (n := 89) dX0_init_88 rfl ?_
  refine ggX0_23 (q := 36) (n := 92) dX0_init_89 rfl rfl (show W118.1[33]? = some (0, 13) by rw [e118]; rfl) (by decide +kernel) ?_
  refine il3 (n := 93) dX0_init_92 rfl ?_
  refine k_new (n := 96) dX0_init_93 rfl kcX1 (gwi 80 (by decide +kernel) rfl) (gwi 98 (by decide +kernel) rfl) gw8 dfX1 (Nat.le_of_ble_eq_true rfl) (Nat.le_of_ble_eq_true rfl) (by rw [e118]; decide) ?_
  rw [wN_eq (z := 47) _ (by rw [e118]; rfl), show W118.1.length = 47 by rw [e118]; rfl, show wN W118 47 (1, 7) = W119 from rfl]
  refine k_dup (n := 97) dX0_init_96 rfl rfl ?_
  refine nX0_45 (n := 100) dX0_init_97 rfl rfl (Nat.le_of_ble_eq_true rfl) (by decide) (Nat.le_of_ble_eq_true rfl) (Nat.le_of_ble_eq_true rfl) (i_X1_init _ _ _) (fun v M h => ?_)
  obtain ⟨rfl, rfl⟩ := h
  dsimp only [Option.toList, List.nil_append]
  refine k_aast (r := (RX1, TX1, 7)) (kd := 102) (ci := 1) (j := 6) (z := 8) (n := 101) dX0_init_100 rfl (show W119.1[36]? = some (102, 8) by rw [e119]; rfl) (by decide +kernel) rfl (by decide) (by decide) (by decide) rfl (show W119.1[47]? = some (1, 7) by rw [e119]; rfl) ?_
  rw [wP_eq, show wP W119 36 6 (some 47) = W120 from rfl]
  refine ii3 (b := 7) (n := 104) dX0_init_101 rfl (by decide) trivial ?_
  refine k_goto (n := 82) dX0_init_104 (by decide) ?_
  refine il3 (n := 83) dX0_init_82 rfl ?_
  refine k_bipush (a := 8) (n := 85) dX0_init_83 rfl rfl ?_
  refine k_icmp_ge (t := 107) (n := 88) dX0_init_85 (by decide) rfl (fun h => absurd h (by decide)) (fun _ => ?_)
  refine al0 (n := 89) dX0_init_88 rfl ?_
  refine ggX0_23 (q := 36) (n := 92) dX0_init_89 rfl rfl (show W120.1[33]? = some (0, 13) by rw [e120]; rfl) (by decide +kernel) ?_
  refine il3 (n := 93) dX0_init_92 rfl ?_
  refine k_new (n := 96) dX0_init_93 rfl kcX1 (gwi 80 (by decide +kernel) rfl) (gwi 98 (by decide +kernel) rfl) gw8 dfX1 (Nat.le_of_ble_eq_true rfl) (Nat.le_of_ble_eq_true rfl) (by rw [e120]; decide) ?_
  rw [wN_eq (z := 48) _ (by rw [e120]; rfl), show W120.1.length = 48 by rw [e120]; rfl, show wN W120 48 (1, 7) = W121 from rfl]
  refine k_dup (n := 97) dX0_init_96 rfl rfl ?_
  refine nX0_45 (n := 100) dX0_init_97 rfl rfl (Nat.le_of_ble_eq_true rfl) (by decide) (Nat.le_of_ble_eq_true rfl) (Nat.le_of_ble_eq_true rfl) (i_X1_init _ _ _) (fun v M h => ?_)
  obtain ⟨rfl, rfl⟩ := h
  dsimp only [Option.toList, List.nil_append]
  refine k_aast (r := (RX1, TX1, 7)) (kd := 102) (ci := 1) (j := 7) (z := 8) (n := 101) dX0_init_100 rfl (show W121.1[36]? = some (102, 8) by rw [e121]; rfl) (by decide +kernel) rfl (by decide) (by decide) (by decide) rfl (show W121.1[48]? = some (1, 7) by rw [e121]; rfl) ?_
  rw [wP_eq, show wP W121 36 7 (some 48) = W122 from rfl]
  refine ii3 (b := 8) (n := 104) dX0_init_101 rfl (by decide) trivial ?_
  refine k_goto (n := 82) dX0_init_104 (by decide) ?_
  refine il3 (n := 83) dX0_init_82 rfl ?_
  refine k_bipush (a := 8) (n := 85) dX0_init_83 rfl rfl ?_
  refine k_icmp_ge (t := 107) (n := 88) dX0_init_85 (by decide) rfl (fun _ => ?_) (fun h => absurd (by decide) h)
  exact k_return dX0_init_107 rfl (Nat.le_of_ble_eq_true rfl) (Nat.le_of_ble_eq_true rfl) ⟨rfl, rfl⟩
def W123 : kM := wP W122 26 2 (some 33)
theorem e123 : W123.1 = SS.take 49 := e122
def W124 : kM := wN W123 49 (100, 50)
theorem e124 : W124.1 = SS.take 50 := by
  show W123.1 ++ [(100, 50)] = _
  rw [e123]; decide +kernel
def W125 : kM := wP W124 26 3 (some 49)
theorem e125 : W125.1 = SS.take 50 := e124
def W126 : kM := wN W125 50 (100, 20)
theorem e126 : W126.1 = SS.take 51 := by
  show W125.1 ++ [(100, 20)] = _
  rw [e125]; decide +kernel
def W127 : kM := wP W126 26 4 (some 50)
theorem e127 : W127.1 = SS.take 51 := e126
def W128 : kM := wI W127 26 7 1
theorem e128 : W128.1 = SS.take 51 := e127
set_option maxHeartbeats 1000000 in
set_option maxRecDepth 20000 in
theorem i_8_X2_init : Ct E 98 mX2_init 24 377 [.ref 26] W66 (fun v M => v = none ∧ M = W128) := by
  refine Ct.of (L := [some (.ref 26)]) rfl rfl (Nat.le_of_ble_eq_true rfl) ?_
  refine al0 (n := 1) dX2_init_0 rfl ?_
  refine qX2_3 (n := 4) dX2_init_1 rfl rfl (Nat.le_of_ble_eq_true rfl) ?_
  refine al0 (n := 5) dX2_init_4 rfl ?_
  refine k_new (n := 8) dX2_init_5 rfl kcX3 (gwi 33 (by decide +kernel) rfl) (gwi 34 (by decide +kernel) rfl) gw3 dfX3 (Nat.le_of_ble_eq_true rfl) (Nat.le_of_ble_eq_true rfl) (by rw [e66]; decide) ?_
  rw [wN_eq (z := 27) _ (by rw [e66]; rfl), show W66.1.length = 27 by rw [e66]; rfl, show wN W66 27 (3, 5) = W67 from rfl]
  refine k_dup (n := 9) dX2_init_8 rfl rfl ?_
  refine k_iconst (a := 1) (n := 10) dX2_init_9 rfl rfl ?_
  refine k_bipush (a := 9) (n := 12) dX2_init_10 rfl rfl ?_
  refine k_gets (C := "RopeBorder$Law") (nm := "JUMPS_UNWRITTEN") (k := 1002) (n := 15) dX2_init_12 rfl (by decide +kernel) (gwi 35 (by decide +kernel) rfl) ?_
  refine qX2_15 (n := 18) dX2_init_15 rfl rfl (Nat.le_of_ble_eq_true rfl) (by decide) (Nat.le_of_ble_eq_true rfl) (Nat.le_of_ble_eq_true rfl) i_9_X3_init (fun v M h => ?_)
  obtain ⟨rfl, rfl⟩ := h
  dsimp only [Option.toList, List.nil_append]
  refine ppX2_18 (n := 21) dX2_init_18 rfl rfl rfl (show W75.1[26]? = some (2, 8) by rw [e75]; rfl) ?_
  rw [wP_eq, show wP W75 26 0 (some 27) = W76 from rfl]
  refine al0 (n := 22) dX2_init_21 rfl ?_
  refine k_new (n := 25) dX2_init_22 rfl kcX3 (gwi 33 (by decide +kernel) rfl) (gwi 34 (by decide +kernel) rfl) gw3 dfX3 (Nat.le_of_ble_eq_true rfl) (Nat.le_of_ble_eq_true rfl) (by rw [e76]; decide) ?_
  rw [wN_eq (z := 30) _ (by rw [e76]; rfl), show W76.1.length = 30 by rw [e76]; rfl, show wN W76 30 (3, 5) = W77 from rfl]
  refine k_dup (n := 26) dX2_init_25 rfl rfl ?_
  refine k_iconst (a := 0) (n := 27) dX2_init_26 rfl rfl ?_
  refine k_iconst (a := 1) (n := 28) dX2_init_27 rfl rfl ?_
  refine k_gets (C := "RopeBorder$Law") (nm := "JUMPED_UNWRITTEN") (k := 1003) (n := 31) dX2_init_28 rfl (by decide +kernel) (gwi 70 (by decide +kernel) rfl) ?_
  refine qX2_15 (n := 34) dX2_init_31 rfl rfl (Nat.le_of_ble_eq_true rfl) (by decide) (Nat.le_of_ble_eq_true rfl) (Nat.le_of_ble_eq_true rfl) i_11_X3_init (fun v M h => ?_)
  obtain ⟨rfl, rfl⟩ := h
  dsimp only [Option.toList, List.nil_append]
  refine ppX2_27 (n := 37) dX2_init_34 rfl rfl rfl (show W85.1[26]? = some (2, 8) by rw [e85]; rfl) ?_
  rw [wP_eq, show wP W85 26 1 (some 30) = W86 from rfl]
  refine al0 (n := 38) dX2_init_37 rfl ?_
  refine k_new (n := 41) dX2_init_38 rfl kcX0 (gwi 72 (by decide +kernel) rfl) (gwi 73 (by decide +kernel) rfl) gw6 dfX0 (Nat.le_of_ble_eq_true rfl) (Nat.le_of_ble_eq_true rfl) (by rw [e86]; decide) ?_
  rw [wN_eq (z := 33) _ (by rw [e86]; rfl), show W86.1.length = 33 by rw [e86]; rfl, show wN W86 33 (0, 13) = W87 from rfl]
  refine k_dup (n := 42) dX2_init_41 rfl rfl ?_
  refine al0 (n := 43) dX2_init_42 rfl ?_
  refine ggX2_18 (q := 27) (n := 46) dX2_init_43 rfl rfl (show W87.1[26]? = some (2, 8) by rw [e87]; rfl) (by decide +kernel) ?_
  refine al0 (n := 47) dX2_init_46 rfl ?_
  refine ggX2_27 (q := 30) (n := 50) dX2_init_47 rfl rfl (show W87.1[26]? = some (2, 8) by rw [e87]; rfl) (by decide +kernel) ?_
  refine qX2_32 (n := 53) dX2_init_50 rfl rfl (Nat.le_of_ble_eq_true rfl) (by decide) (Nat.le_of_ble_eq_true rfl) (Nat.le_of_ble_eq_true rfl) i_13_X0_init (fun v M h => ?_)
  obtain ⟨rfl, rfl⟩ := h
  dsimp only [Option.toList, List.nil_append]
  refine ppX2_35 (n := 56) dX2_init_53 rfl rfl rfl (show W122.1[26]? = some (2, 8) by rw [e122]; rfl) ?_
  rw [wP_eq, show wP W122 26 2 (some 33) = W123 from rfl]
  refine al0 (n := 57) dX2_init_56 rfl ?_
  refine k_bipush (a := 50) (n := 59) dX2_init_57 rfl rfl ?_
  refine k_newa (z := 50) (n := 61) dX2_init_59 rfl (gwi 69 (by decide +kernel) rfl) rfl (by decide) (Nat.le_of_ble_eq_true rfl) (Nat.le_of_ble_eq_true rfl) (by rw [e123]; decide) ?_
  rw [wN_eq (z := 49) _ (by rw [e123]; rfl), show W123.1.length = 49 by rw [e123]; rfl, show wN W123 49 (100, 50) = W124 from rfl]
  refine ppX2_39 (n := 64) dX2_init_61 rfl rfl rfl (show W124.1[26]? = some (2, 8) by rw [e124]; rfl) ?_
  rw [wP_eq, show wP W124 26 3 (some 49) = W125 from rfl]
  refine al0 (n := 65) dX2_init_64 rfl ?_
  refine k_bipush (a := 20) (n := 67) dX2_init_65 rfl rfl ?_
  refine k_newa (z := 20) (n := 69) dX2_init_67 rfl (gwi 69 (by decide +kernel) rfl) rfl (by decide) (Nat.le_of_ble_eq_true rfl) (Nat.le_of_ble_eq_true rfl) (by rw [e125]; decide) ?_
  rw [wN_eq (z := 50) _ (by rw [e125]; rfl), show W125.1.length = 50 by rw [e125]; rfl, show wN W125 50 (100, 20) = W126 from rfl]
  refine ppX2_42 (n := 72) dX2_init_69 rfl rfl rfl (show W126.1[26]? = some (2, 8) by rw [e126]; rfl) ?_
  rw [wP_eq, show wP W126 26 4 (some 50) = W127 from rfl]
  refine al0 (n := 73) dX2_init_72 rfl ?_
  refine k_iconst (a := 1) (n := 74) dX2_init_73 rfl rfl ?_
  refine ppX2_45 (n := 77) dX2_init_74 rfl rfl (show W127.1[26]? = some (2, 8) by rw [e127]; rfl) ?_
  rw [wI_eq, show wI W127 26 7 1 = W128 from rfl]
  exact k_return dX2_init_77 rfl (Nat.le_of_ble_eq_true rfl) (Nat.le_of_ble_eq_true rfl) ⟨rfl, rfl⟩
def W129 : kM := wP W128 0 1 (some 26)
theorem e129 : W129.1 = SS.take 51 := e128
def W130 : kM := wN W129 51 (0, 13)
theorem e130 : W130.1 = SS.take 52 := by
  show W129.1 ++ [(0, 13)] = _
  rw [e129]; decide +kernel
def W131 : kM := wN W130 52 (100, 8)
theorem e131 : W131.1 = SS.take 53 := by
  show W130.1 ++ [(100, 8)] = _
  rw [e130]; decide +kernel
def W132 : kM := wP W131 51 2 (some 52)
theorem e132 : W132.1 = SS.take 53 := e131
def W133 : kM := wN W132 53 (107, 4)
theorem e133 : W133.1 = SS.take 54 := by
  show W132.1 ++ [(107, 4)] = _
  rw [e132]; decide +kernel
def W134 : kM := wP W133 51 3 (some 53)
theorem e134 : W134.1 = SS.take 54 := e133
def W135 : kM := wN W134 54 (102, 8)
theorem e135 : W135.1 = SS.take 55 := by
  show W134.1 ++ [(102, 8)] = _
  rw [e134]; decide +kernel
def W136 : kM := wP W135 51 4 (some 54)
theorem e136 : W136.1 = SS.take 55 := e135
def W137 : kM := wI W136 51 5 4
theorem e137 : W137.1 = SS.take 55 := e136
def W138 : kM := wI W137 51 6 4
theorem e138 : W138.1 = SS.take 55 := e137
def W139 : kM := wI W138 51 7 1
theorem e139 : W139.1 = SS.take 55 := e138
def W140 : kM := wP W139 51 0 (some 2)
theorem e140 : W140.1 = SS.take 55 := e139
def W141 : kM := wP W140 51 1 (some 5)
theorem e141 : W141.1 = SS.take 55 := e140
def W142 : kM := wN W141 55 (6, 2)
theorem e142 : W142.1 = SS.take 56 := by
  show W141.1 ++ [(6, 2)] = _
  rw [e141]; decide +kernel
def W143 : kM := wP W142 53 0 (some 55)
theorem e143 : W143.1 = SS.take 56 := e142
def W144 : kM := wN W143 56 (6, 2)
theorem e144 : W144.1 = SS.take 57 := by
  show W143.1 ++ [(6, 2)] = _
  rw [e143]; decide +kernel
def W145 : kM := wP W144 53 1 (some 56)
theorem e145 : W145.1 = SS.take 57 := e144
def W146 : kM := wN W145 57 (6, 2)
theorem e146 : W146.1 = SS.take 58 := by
  show W145.1 ++ [(6, 2)] = _
  rw [e145]; decide +kernel
def W147 : kM := wP W146 53 2 (some 57)
theorem e147 : W147.1 = SS.take 58 := e146
def W148 : kM := wN W147 58 (6, 2)
theorem e148 : W148.1 = SS.take 59 := by
  show W147.1 ++ [(6, 2)] = _
  rw [e147]; decide +kernel
def W149 : kM := wP W148 53 3 (some 58)
theorem e149 : W149.1 = SS.take 59 := e148
def W150 : kM := wN W149 59 (1, 7)
theorem e150 : W150.1 = SS.take 60 := by
  show W149.1 ++ [(1, 7)] = _
  rw [e149]; decide +kernel
def W151 : kM := wP W150 54 0 (some 59)
theorem e151 : W151.1 = SS.take 60 := e150
def W152 : kM := wN W151 60 (1, 7)
theorem e152 : W152.1 = SS.take 61 := by
  show W151.1 ++ [(1, 7)] = _
  rw [e151]; decide +kernel
def W153 : kM := wP W152 54 1 (some 60)
theorem e153 : W153.1 = SS.take 61 := e152
def W154 : kM := wN W153 61 (1, 7)
theorem e154 : W154.1 = SS.take 62 := by
  show W153.1 ++ [(1, 7)] = _
  rw [e153]; decide +kernel
def W155 : kM := wP W154 54 2 (some 61)
theorem e155 : W155.1 = SS.take 62 := e154
def W156 : kM := wN W155 62 (1, 7)
theorem e156 : W156.1 = SS.take 63 := by
  show W155.1 ++ [(1, 7)] = _
  rw [e155]; decide +kernel
def W157 : kM := wP W156 54 3 (some 62)
theorem e157 : W157.1 = SS.take 63 := e156
def W158 : kM := wN W157 63 (1, 7)
theorem e158 : W158.1 = SS.take 64 := by
  show W157.1 ++ [(1, 7)] = _
  rw [e157]; decide +kernel
def W159 : kM := wP W158 54 4 (some 63)
theorem e159 : W159.1 = SS.take 64 := e158
def W160 : kM := wN W159 64 (1, 7)
theorem e160 : W160.1 = SS.take 65 := by
  show W159.1 ++ [(1, 7)] = _
  rw [e159]; decide +kernel
def W161 : kM := wP W160 54 5 (some 64)
theorem e161 : W161.1 = SS.take 65 := e160
def W162 : kM := wN W161 65 (1, 7)
theorem e162 : W162.1 = SS.take 66 := by
  show W161.1 ++ [(1, 7)] = _
  rw [e161]; decide +kernel
def W163 : kM := wP W162 54 6 (some 65)
theorem e163 : W163.1 = SS.take 66 := e162
def W164 : kM := wN W163 66 (1, 7)
theorem e164 : W164.1 = SS.take 67 := by
  show W163.1 ++ [(1, 7)] = _
  rw [e163]; decide +kernel
def W165 : kM := wP W164 54 7 (some 66)
theorem e165 : W165.1 = SS.take 67 := e164
set_option maxHeartbeats 1000000 in
set_option maxRecDepth 20000 in
theorem i_14_X0_init : Ct E 98 mX0_init 15 84 [.ref 51, .ref 2, .ref 5] W130 (fun v M => v = none ∧ M = W165) := by
  refine Ct.of (L := [some (.ref 51), some (.ref 2), some (.ref 5), none]) rfl rfl (Nat.le_of_ble_eq_true rfl) ?_
  refine al0 (n := 1) dX0_init_0 rfl ?_
  refine qX0_3 (n := 4) dX0_init_1 rfl rfl (Nat.le_of_ble_eq_true rfl) ?_
  refine al0 (n := 5) dX0_init_4 rfl ?_
  refine k_bipush (a := 8) (n := 7) dX0_init_5 rfl rfl ?_
  refine k_newa (z := 8) (n := 9) dX0_init_7 rfl (gwi 69 (by decide +kernel) rfl) rfl (by decide) (Nat.le_of_ble_eq_true rfl) (Nat.le_of_ble_eq_true rfl) (by rw [e130]; decide) ?_
  rw [wN_eq (z := 52) _ (by rw [e130]; rfl), show W130.1.length = 52 by rw [e130]; rfl, show wN W130 52 (100, 8) = W131 from rfl]
  refine ppX0_9 (n := 12) dX0_init_9 rfl rfl rfl (show W131.1[51]? = some (0, 13) by rw [e131]; rfl) ?_
  rw [wP_eq, show wP W131 51 2 (some 52) = W132 from rfl]
  refine al0 (n := 13) dX0_init_12 rfl ?_
  refine k_iconst (a := 4) (n := 14) dX0_init_13 rfl rfl ?_
  refine k_anew (z := 4) (kd := 107) (C := "RopeBorder$Turner") (n := 17) dX0_init_14 rfl (gwi 78 (by decide +kernel) rfl) (by decide +kernel) rfl (by decide) (Nat.le_of_ble_eq_true rfl) (Nat.le_of_ble_eq_true rfl) (by rw [e132]; decide) ?_
  rw [wN_eq (z := 53) _ (by rw [e132]; rfl), show W132.1.length = 53 by rw [e132]; rfl, show wN W132 53 (107, 4) = W133 from rfl]
  refine ppX0_17 (n := 20) dX0_init_17 rfl rfl rfl (show W133.1[51]? = some (0, 13) by rw [e133]; rfl) ?_
  rw [wP_eq, show wP W133 51 3 (some 53) = W134 from rfl]
  refine al0 (n := 21) dX0_init_20 rfl ?_
  refine k_bipush (a := 8) (n := 23) dX0_init_21 rfl rfl ?_
  refine k_anew (z := 8) (kd := 102) (C := "RopeBorder$Crosser") (n := 26) dX0_init_23 rfl (gwi 80 (by decide +kernel) rfl) (by decide +kernel) rfl (by decide) (Nat.le_of_ble_eq_true rfl) (Nat.le_of_ble_eq_true rfl) (by rw [e134]; decide) ?_
  rw [wN_eq (z := 54) _ (by rw [e134]; rfl), show W134.1.length = 54 by rw [e134]; rfl, show wN W134 54 (102, 8) = W135 from rfl]
  refine ppX0_23 (n := 29) dX0_init_26 rfl rfl rfl (show W135.1[51]? = some (0, 13) by rw [e135]; rfl) ?_
  rw [wP_eq, show wP W135 51 4 (some 54) = W136 from rfl]
  refine al0 (n := 30) dX0_init_29 rfl ?_
  refine k_iconst (a := 4) (n := 31) dX0_init_30 rfl rfl ?_
  refine ppX0_27 (n := 34) dX0_init_31 rfl rfl (show W136.1[51]? = some (0, 13) by rw [e136]; rfl) ?_
  rw [wI_eq, show wI W136 51 5 4 = W137 from rfl]
  refine al0 (n := 35) dX0_init_34 rfl ?_
  refine k_iconst (a := 4) (n := 36) dX0_init_35 rfl rfl ?_
  refine ppX0_31 (n := 39) dX0_init_36 rfl rfl (show W137.1[51]? = some (0, 13) by rw [e137]; rfl) ?_
  rw [wI_eq, show wI W137 51 6 4 = W138 from rfl]
  refine al0 (n := 40) dX0_init_39 rfl ?_
  refine k_iconst (a := 1) (n := 41) dX0_init_40 rfl rfl ?_
  refine ppX0_34 (n := 44) dX0_init_41 rfl rfl (show W138.1[51]? = some (0, 13) by rw [e138]; rfl) ?_
  rw [wI_eq, show wI W138 51 7 1 = W139 from rfl]
  refine al0 (n := 45) dX0_init_44 rfl ?_
  refine al1 (n := 46) dX0_init_45 rfl ?_
  refine ppX0_37 (n := 49) dX0_init_46 rfl rfl rfl (show W139.1[51]? = some (0, 13) by rw [e139]; rfl) ?_
  rw [wP_eq, show wP W139 51 0 (some 2) = W140 from rfl]
  refine al0 (n := 50) dX0_init_49 rfl ?_
  refine al2 (n := 51) dX0_init_50 rfl ?_
  refine ppX0_41 (n := 54) dX0_init_51 rfl rfl rfl (show W140.1[51]? = some (0, 13) by rw [e140]; rfl) ?_
  rw [wP_eq, show wP W140 51 1 (some 5) = W141 from rfl]
  refine k_iconst (a := 0) (n := 55) dX0_init_54 rfl rfl ?_
  refine is3 (n := 56) dX0_init_55 rfl trivial ?_
  refine il3 (n := 57) dX0_init_56 rfl ?_
  refine k_iconst (a := 4) (n := 58) dX0_init_57 rfl rfl ?_
  refine k_icmp_ge (t := 80) (n := 61) dX0_init_58 (by decide) rfl (fun h => absurd h (by decide)) (fun _ => ?_)
  refine al0 (n := 62) dX0_init_61 rfl ?_
  refine ggX0_17 (q := 53) (n := 65) dX0_init_62 rfl rfl (show W141.1[51]? = some (0, 13) by rw [e141]; rfl) (by decide +kernel) ?_
  refine il3 (n := 66) dX0_init_65 rfl ?_
  refine k_new (n := 69) dX0_init_66 rfl kcX6 (gwi 78 (by decide +kernel) rfl) (gwi 82 (by decide +kernel) rfl) gw7 dfX6 (Nat.le_of_ble_eq_true rfl) (Nat.le_of_ble_eq_true rfl) (by rw [e141]; decide) ?_
  rw [wN_eq (z := 55) _ (by rw [e141]; rfl), show W141.1.length = 55 by rw [e141]; rfl, show wN W141 55 (6, 2) = W142 from rfl]
  refine k_dup (n := 70) dX0_init_69 rfl rfl ?_
  refine nX0_44 (n := 73) dX0_init_70 rfl rfl (Nat.le_of_ble_eq_true rfl) (by decide) (Nat.le_of_ble_eq_true rfl) (Nat.le_of_ble_eq_true rfl) (i_X6_init _ _ _) (fun v M h => ?_)
  obtain ⟨rfl, rfl⟩ := h
  dsimp only [Option.toList, List.nil_append]
  refine k_aast (r := (RX6, TX6, 2)) (kd := 107) (ci := 6) (j := 0) (z := 4) (n := 74) dX0_init_73 rfl (show W142.1[53]? = some (107, 4) by rw [e142]; rfl) (by decide +kernel) rfl (by decide) (by decide) (by decide) rfl (show W142.1[55]? = some (6, 2) by rw [e142]; rfl) ?_
  rw [wP_eq, show wP W142 53 0 (some 55) = W143 from rfl]
  refine ii3 (b := 1) (n := 77) dX0_init_74 rfl (by decide) trivial ?_
  refine k_goto (n := 56) dX0_init_77 (by decide) ?_
  refine il3 (n := 57) dX0_init_56 rfl ?_
  refine k_iconst (a := 4) (n := 58) dX0_init_57 rfl rfl ?_
  refine k_icmp_ge (t := 80) (n := 61) dX0_init_58 (by decide) rfl (fun h => absurd h (by decide)) (fun _ => ?_)
  refine al0 (n := 62) dX0_init_61 rfl ?_
  refine ggX0_17 (q := 53) (n := 65) dX0_init_62 rfl rfl (show W143.1[51]? = some (0, 13) by rw [e143]; rfl) (by decide +kernel) ?_
  refine il3 (n := 66) dX0_init_65 rfl ?_
  refine k_new (n := 69) dX0_init_66 rfl kcX6 (gwi 78 (by decide +kernel) rfl) (gwi 82 (by decide +kernel) rfl) gw7 dfX6 (Nat.le_of_ble_eq_true rfl) (Nat.le_of_ble_eq_true rfl) (by rw [e143]; decide) ?_
  rw [wN_eq (z := 56) _ (by rw [e143]; rfl), show W143.1.length = 56 by rw [e143]; rfl, show wN W143 56 (6, 2) = W144 from rfl]
  refine k_dup (n := 70) dX0_init_69 rfl rfl ?_
  refine nX0_44 (n := 73) dX0_init_70 rfl rfl (Nat.le_of_ble_eq_true rfl) (by decide) (Nat.le_of_ble_eq_true rfl) (Nat.le_of_ble_eq_true rfl) (i_X6_init _ _ _) (fun v M h => ?_)
  obtain ⟨rfl, rfl⟩ := h
  dsimp only [Option.toList, List.nil_append]
  refine k_aast (r := (RX6, TX6, 2)) (kd := 107) (ci := 6) (j := 1) (z := 4) (n := 74) dX0_init_73 rfl (show W144.1[53]? = some (107, 4) by rw [e144]; rfl) (by decide +kernel) rfl (by decide) (by decide) (by decide) rfl (show W144.1[56]? = some (6, 2) by rw [e144]; rfl) ?_
  rw [wP_eq, show wP W144 53 1 (some 56) = W145 from rfl]
  refine ii3 (b := 2) (n := 77) dX0_init_74 rfl (by decide) trivial ?_
  refine k_goto (n := 56) dX0_init_77 (by decide) ?_
  refine il3 (n := 57) dX0_init_56 rfl ?_
  refine k_iconst (a := 4) (n := 58) dX0_init_57 rfl rfl ?_
  refine k_icmp_ge (t := 80) (n := 61) dX0_init_58 (by decide) rfl (fun h => absurd h (by decide)) (fun _ => ?_)
  refine al0 (n := 62) dX0_init_61 rfl ?_
  refine ggX0_17 (q := 53) (n := 65) dX0_init_62 rfl rfl (show W145.1[51]? = some (0, 13) by rw [e145]; rfl) (by decide +kernel) ?_
  refine il3 (n := 66) dX0_init_65 rfl ?_
  refine k_new (n := 69) dX0_init_66 rfl kcX6 (gwi 78 (by decide +kernel) rfl) (gwi 82 (by decide +kernel) rfl) gw7 dfX6 (Nat.le_of_ble_eq_true rfl) (Nat.le_of_ble_eq_true rfl) (by rw [e145]; decide) ?_
  rw [wN_eq (z := 57) _ (by rw [e145]; rfl), show W145.1.length = 57 by rw [e145]; rfl, show wN W145 57 (6, 2) = W146 from rfl]
  refine k_dup (n := 70) dX0_init_69 rfl rfl ?_
  refine nX0_44 (n := 73) dX0_init_70 rfl rfl (Nat.le_of_ble_eq_true rfl) (by decide) (Nat.le_of_ble_eq_true rfl) (Nat.le_of_ble_eq_true rfl) (i_X6_init _ _ _) (fun v M h => ?_)
  obtain ⟨rfl, rfl⟩ := h
  dsimp only [Option.toList, List.nil_append]
  refine k_aast (r := (RX6, TX6, 2)) (kd := 107) (ci := 6) (j := 2) (z := 4) (n := 74) dX0_init_73 rfl (show W146.1[53]? = some (107, 4) by rw [e146]; rfl) (by decide +kernel) rfl (by decide) (by decide) (by decide) rfl (show W146.1[57]? = some (6, 2) by rw [e146]; rfl) ?_
  rw [wP_eq, show wP W146 53 2 (some 57) = W147 from rfl]
  refine ii3 (b := 3) (n := 77) dX0_init_74 rfl (by decide) trivial ?_
  refine k_goto (n := 56) dX0_init_77 (by decide) ?_
  refine il3 (n := 57) dX0_init_56 rfl ?_
  refine k_iconst (a := 4) (n := 58) dX0_init_57 rfl rfl ?_
  refine k_icmp_ge (t := 80) (n := 61) dX0_init_58 (by decide) rfl (fun h => absurd h (by decide)) (fun _ => ?_)
  refine al0 (n := 62) dX0_init_61 rfl ?_
  refine ggX0_17 (q := 53) (n := 65) dX0_init_62 rfl rfl (show W147.1[51]? = some (0, 13) by rw [e147]; rfl) (by decide +kernel) ?_
  refine il3 (n := 66) dX0_init_65 rfl ?_
  refine k_new (n := 69) dX0_init_66 rfl kcX6 (gwi 78 (by decide +kernel) rfl) (gwi 82 (by decide +kernel) rfl) gw7 dfX6 (Nat.le_of_ble_eq_true rfl) (Nat.le_of_ble_eq_true rfl) (by rw [e147]; decide) ?_
  rw [wN_eq (z := 58) _ (by rw [e147]; rfl), show W147.1.length = 58 by rw [e147]; rfl, show wN W147 58 (6, 2) = W148 from rfl]
  refine k_dup (n := 70) dX0_init_69 rfl rfl ?_
  refine nX0_44 (n := 73) dX0_init_70 rfl rfl (Nat.le_of_ble_eq_true rfl) (by decide) (Nat.le_of_ble_eq_true rfl) (Nat.le_of_ble_eq_true rfl) (i_X6_init _ _ _) (fun v M h => ?_)
  obtain ⟨rfl, rfl⟩ := h
  dsimp only [Option.toList, List.nil_append]
  refine k_aast (r := (RX6, TX6, 2)) (kd := 107) (ci := 6) (j := 3) (z := 4) (n := 74) dX0_init_73 rfl (show W148.1[53]? = some (107, 4) by rw [e148]; rfl) (by decide +kernel) rfl (by decide) (by decide) (by decide) rfl (show W148.1[58]? = some (6, 2) by rw [e148]; rfl) ?_
  rw [wP_eq, show wP W148 53 3 (some 58) = W149 from rfl]
  refine ii3 (b := 4) (n := 77) dX0_init_74 rfl (by decide) trivial ?_
  refine k_goto (n := 56) dX0_init_77 (by decide) ?_
  refine il3 (n := 57) dX0_init_56 rfl ?_
  refine k_iconst (a := 4) (n := 58) dX0_init_57 rfl rfl ?_
  refine k_icmp_ge (t := 80) (n := 61) dX0_init_58 (by decide) rfl (fun _ => ?_) (fun h => absurd (by decide) h)
  refine k_iconst (a := 0) (n := 81) dX0_init_80 rfl rfl ?_
  refine is3 (n := 82) dX0_init_81 rfl trivial ?_
  refine il3 (n := 83) dX0_init_82 rfl ?_
  refine k_bipush (a := 8) (n := 85) dX0_init_83 rfl rfl ?_
  refine k_icmp_ge (t := 107) (n := 88) dX0_init_85 (by decide) rfl (fun h => absurd h (by decide)) (fun _ => ?_)
  refine al0 (n := 89) dX0_init_88 rfl ?_
  refine ggX0_23 (q := 54) (n := 92) dX0_init_89 rfl rfl (show W149.1[51]? = some (0, 13) by rw [e149]; rfl) (by decide +kernel) ?_
  refine il3 (n := 93) dX0_init_92 rfl ?_
  refine k_new (n := 96) dX0_init_93 rfl kcX1 (gwi 80 (by decide +kernel) rfl) (gwi 98 (by decide +kernel) rfl) gw8 dfX1 (Nat.le_of_ble_eq_true rfl) (Nat.le_of_ble_eq_true rfl) (by rw [e149]; decide) ?_
  rw [wN_eq (z := 59) _ (by rw [e149]; rfl), show W149.1.length = 59 by rw [e149]; rfl, show wN W149 59 (1, 7) = W150 from rfl]
  refine k_dup (n := 97) dX0_init_96 rfl rfl ?_
  refine nX0_45 (n := 100) dX0_init_97 rfl rfl (Nat.le_of_ble_eq_true rfl) (by decide) (Nat.le_of_ble_eq_true rfl) (Nat.le_of_ble_eq_true rfl) (i_X1_init _ _ _) (fun v M h => ?_)
  obtain ⟨rfl, rfl⟩ := h
  dsimp only [Option.toList, List.nil_append]
  refine k_aast (r := (RX1, TX1, 7)) (kd := 102) (ci := 1) (j := 0) (z := 8) (n := 101) dX0_init_100 rfl (show W150.1[54]? = some (102, 8) by rw [e150]; rfl) (by decide +kernel) rfl (by decide) (by decide) (by decide) rfl (show W150.1[59]? = some (1, 7) by rw [e150]; rfl) ?_
  rw [wP_eq, show wP W150 54 0 (some 59) = W151 from rfl]
  refine ii3 (b := 1) (n := 104) dX0_init_101 rfl (by decide) trivial ?_
  refine k_goto (n := 82) dX0_init_104 (by decide) ?_
  refine il3 (n := 83) dX0_init_82 rfl ?_
  refine k_bipush (a := 8) (n := 85) dX0_init_83 rfl rfl ?_
  refine k_icmp_ge (t := 107) (n := 88) dX0_init_85 (by decide) rfl (fun h => absurd h (by decide)) (fun _ => ?_)
  refine al0 (n := 89) dX0_init_88 rfl ?_
  refine ggX0_23 (q := 54) (n := 92) dX0_init_89 rfl rfl (show W151.1[51]? = some (0, 13) by rw [e151]; rfl) (by decide +kernel) ?_
  refine il3 (n := 93) dX0_init_92 rfl ?_
  refine k_new (n := 96) dX0_init_93 rfl kcX1 (gwi 80 (by decide +kernel) rfl) (gwi 98 (by decide +kernel) rfl) gw8 dfX1 (Nat.le_of_ble_eq_true rfl) (Nat.le_of_ble_eq_true rfl) (by rw [e151]; decide) ?_
  rw [wN_eq (z := 60) _ (by rw [e151]; rfl), show W151.1.length = 60 by rw [e151]; rfl, show wN W151 60 (1, 7) = W152 from rfl]
  refine k_dup (n := 97) dX0_init_96 rfl rfl ?_
  refine nX0_45 (n := 100) dX0_init_97 rfl rfl (Nat.le_of_ble_eq_true rfl) (by decide) (Nat.le_of_ble_eq_true rfl) (Nat.le_of_ble_eq_true rfl) (i_X1_init _ _ _) (fun v M h => ?_)
  obtain ⟨rfl, rfl⟩ := h
  dsimp only [Option.toList, List.nil_append]
  refine k_aast (r := (RX1, TX1, 7)) (kd := 102) (ci := 1) (j := 1) (z := 8) (n := 101) dX0_init_100 rfl (show W152.1[54]? = some (102, 8) by rw [e152]; rfl) (by decide +kernel) rfl (by decide) (by decide) (by decide) rfl (show W152.1[60]? = some (1, 7) by rw [e152]; rfl) ?_
  rw [wP_eq, show wP W152 54 1 (some 60) = W153 from rfl]
  refine ii3 (b := 2) (n := 104) dX0_init_101 rfl (by decide) trivial ?_
  refine k_goto (n := 82) dX0_init_104 (by decide) ?_
  refine il3 (n := 83) dX0_init_82 rfl ?_
  refine k_bipush (a := 8) (n := 85) dX0_init_83 rfl rfl ?_
  refine k_icmp_ge (t := 107) (n := 88) dX0_init_85 (by decide) rfl (fun h => absurd h (by decide)) (fun _ => ?_)
  refine al0 (n := 89) dX0_init_88 rfl ?_
  refine ggX0_23 (q := 54) (n := 92) dX0_init_89 rfl rfl (show W153.1[51]? = some (0, 13) by rw [e153]; rfl) (by decide +kernel) ?_
  refine il3 (n := 93) dX0_init_92 rfl ?_
  refine k_new (n := 96) dX0_init_93 rfl kcX1 (gwi 80 (by decide +kernel) rfl) (gwi 98 (by decide +kernel) rfl) gw8 dfX1 (Nat.le_of_ble_eq_true rfl) (Nat.le_of_ble_eq_true rfl) (by rw [e153]; decide) ?_
  rw [wN_eq (z := 61) _ (by rw [e153]; rfl), show W153.1.length = 61 by rw [e153]; rfl, show wN W153 61 (1, 7) = W154 from rfl]
  refine k_dup (n := 97) dX0_init_96 rfl rfl ?_
  refine nX0_45 (n := 100) dX0_init_97 rfl rfl (Nat.le_of_ble_eq_true rfl) (by decide) (Nat.le_of_ble_eq_true rfl) (Nat.le_of_ble_eq_true rfl) (i_X1_init _ _ _) (fun v M h => ?_)
  obtain ⟨rfl, rfl⟩ := h
  dsimp only [Option.toList, List.nil_append]
  refine k_aast (r := (RX1, TX1, 7)) (kd := 102) (ci := 1) (j := 2) (z := 8) (n := 101) dX0_init_100 rfl (show W154.1[54]? = some (102, 8) by rw [e154]; rfl) (by decide +kernel) rfl (by decide) (by decide) (by decide) rfl (show W154.1[61]? = some (1, 7) by rw [e154]; rfl) ?_
  rw [wP_eq, show wP W154 54 2 (some 61) = W155 from rfl]
  refine ii3 (b := 3) (n := 104) dX0_init_101 rfl (by decide) trivial ?_
  refine k_goto (n := 82) dX0_init_104 (by decide) ?_
  refine il3 (n := 83) dX0_init_82 rfl ?_
  refine k_bipush (a := 8) (n := 85) dX0_init_83 rfl rfl ?_
  refine k_icmp_ge (t := 107) (n := 88) dX0_init_85 (by decide) rfl (fun h => absurd h (by decide)) (fun _ => ?_)
  refine al0 (n := 89) dX0_init_88 rfl ?_
  refine ggX0_23 (q := 54) (n := 92) dX0_init_89 rfl rfl (show W155.1[51]? = some (0, 13) by rw [e155]; rfl) (by decide +kernel) ?_
  refine il3 (n := 93) dX0_init_92 rfl ?_
  refine k_new (n := 96) dX0_init_93 rfl kcX1 (gwi 80 (by decide +kernel) rfl) (gwi 98 (by decide +kernel) rfl) gw8 dfX1 (Nat.le_of_ble_eq_true rfl) (Nat.le_of_ble_eq_true rfl) (by rw [e155]; decide) ?_
  rw [wN_eq (z := 62) _ (by rw [e155]; rfl), show W155.1.length = 62 by rw [e155]; rfl, show wN W155 62 (1, 7) = W156 from rfl]
  refine k_dup (n := 97) dX0_init_96 rfl rfl ?_
  refine nX0_45 (n := 100) dX0_init_97 rfl rfl (Nat.le_of_ble_eq_true rfl) (by decide) (Nat.le_of_ble_eq_true rfl) (Nat.le_of_ble_eq_true rfl) (i_X1_init _ _ _) (fun v M h => ?_)
  obtain ⟨rfl, rfl⟩ := h
  dsimp only [Option.toList, List.nil_append]
  refine k_aast (r := (RX1, TX1, 7)) (kd := 102) (ci := 1) (j := 3) (z := 8) (n := 101) dX0_init_100 rfl (show W156.1[54]? = some (102, 8) by rw [e156]; rfl) (by decide +kernel) rfl (by decide) (by decide) (by decide) rfl (show W156.1[62]? = some (1, 7) by rw [e156]; rfl) ?_
  rw [wP_eq, show wP W156 54 3 (some 62) = W157 from rfl]
  refine ii3 (b := 4) (n := 104) dX0_init_101 rfl (by decide) trivial ?_
  refine k_goto (n := 82) dX0_init_104 (by decide) ?_
  refine il3 (n := 83) dX0_init_82 rfl ?_
  refine k_bipush (a := 8) (n := 85) dX0_init_83 rfl rfl ?_
  refine k_icmp_ge (t := 107) (n := 88) dX0_init_85 (by decide) rfl (fun h => absurd h (by decide)) (fun _ => ?_)
  refine al0 (n := 89) dX0_init_88 rfl ?_
  refine ggX0_23 (q := 54) (n := 92) dX0_init_89 rfl rfl (show W157.1[51]? = some (0, 13) by rw [e157]; rfl) (by decide +kernel) ?_
  refine il3 (n := 93) dX0_init_92 rfl ?_
  refine k_new (n := 96) dX0_init_93 rfl kcX1 (gwi 80 (by decide +kernel) rfl) (gwi 98 (by decide +kernel) rfl) gw8 dfX1 (Nat.le_of_ble_eq_true rfl) (Nat.le_of_ble_eq_true rfl) (by rw [e157]; decide) ?_
  rw [wN_eq (z := 63) _ (by rw [e157]; rfl), show W157.1.length = 63 by rw [e157]; rfl, show wN W157 63 (1, 7) = W158 from rfl]
  refine k_dup (n := 97) dX0_init_96 rfl rfl ?_
  refine nX0_45 (n := 100) dX0_init_97 rfl rfl (Nat.le_of_ble_eq_true rfl) (by decide) (Nat.le_of_ble_eq_true rfl) (Nat.le_of_ble_eq_true rfl) (i_X1_init _ _ _) (fun v M h => ?_)
  obtain ⟨rfl, rfl⟩ := h
  dsimp only [Option.toList, List.nil_append]
  refine k_aast (r := (RX1, TX1, 7)) (kd := 102) (ci := 1) (j := 4) (z := 8) (n := 101) dX0_init_100 rfl (show W158.1[54]? = some (102, 8) by rw [e158]; rfl) (by decide +kernel) rfl (by decide) (by decide) (by decide) rfl (show W158.1[63]? = some (1, 7) by rw [e158]; rfl) ?_
  rw [wP_eq, show wP W158 54 4 (some 63) = W159 from rfl]
  refine ii3 (b := 5) (n := 104) dX0_init_101 rfl (by decide) trivial ?_
  refine k_goto (n := 82) dX0_init_104 (by decide) ?_
  refine il3 (n := 83) dX0_init_82 rfl ?_
  refine k_bipush (a := 8) (n := 85) dX0_init_83 rfl rfl ?_
  refine k_icmp_ge (t := 107) (n := 88) dX0_init_85 (by decide) rfl (fun h => absurd h (by decide)) (fun _ => ?_)
  refine al0 (n := 89) dX0_init_88 rfl ?_
  refine ggX0_23 (q := 54) (n := 92) dX0_init_89 rfl rfl (show W159.1[51]? = some (0, 13) by rw [e159]; rfl) (by decide +kernel) ?_
  refine il3 (n := 93) dX0_init_92 rfl ?_
  refine k_new (n := 96) dX0_init_93 rfl kcX1 (gwi 80 (by decide +kernel) rfl) (gwi 98 (by decide +kernel) rfl) gw8 dfX1 (Nat.le_of_ble_eq_true rfl) (Nat.le_of_ble_eq_true rfl) (by rw [e159]; decide) ?_
  rw [wN_eq (z := 64) _ (by rw [e159]; rfl), show W159.1.length = 64 by rw [e159]; rfl, show wN W159 64 (1, 7) = W160 from rfl]
  refine k_dup (n := 97) dX0_init_96 rfl rfl ?_
  refine nX0_45 (n := 100) dX0_init_97 rfl rfl (Nat.le_of_ble_eq_true rfl) (by decide) (Nat.le_of_ble_eq_true rfl) (Nat.le_of_ble_eq_true rfl) (i_X1_init _ _ _) (fun v M h => ?_)
  obtain ⟨rfl, rfl⟩ := h
  dsimp only [Option.toList, List.nil_append]
  refine k_aast (r := (RX1, TX1, 7)) (kd := 102) (ci := 1) (j := 5) (z := 8) (n := 101) dX0_init_100 rfl (show W160.1[54]? = some (102, 8) by rw [e160]; rfl) (by decide +kernel) rfl (by decide) (by decide) (by decide) rfl (show W160.1[64]? = some (1, 7) by rw [e160]; rfl) ?_
  rw [wP_eq, show wP W160 54 5 (some 64) = W161 from rfl]
  refine ii3 (b := 6) (n := 104) dX0_init_101 rfl (by decide) trivial ?_
  refine k_goto (n := 82) dX0_init_104 (by decide) ?_
  refine il3 (n := 83) dX0_init_82 rfl ?_
  refine k_bipush (a := 8) (n := 85) dX0_init_83 rfl rfl ?_
  refine k_icmp_ge (t := 107) (n := 88) dX0_init_85 (by decide) rfl (fun h => absurd h (by decide)) (fun _ => ?_)
  refine al0 (n := 89) dX0_init_88 rfl ?_
  refine ggX0_23 (q := 54) (n := 92) dX0_init_89 rfl rfl (show W161.1[51]? = some (0, 13) by rw [e161]; rfl) (by decide +kernel) ?_
  refine il3 (n := 93) dX0_init_92 rfl ?_
  refine k_new (n := 96) dX0_init_93 rfl kcX1 (gwi 80 (by decide +kernel) rfl) (gwi 98 (by decide +kernel) rfl) gw8 dfX1 (Nat.le_of_ble_eq_true rfl) (Nat.le_of_ble_eq_true rfl) (by rw [e161]; decide) ?_
  rw [wN_eq (z := 65) _ (by rw [e161]; rfl), show W161.1.length = 65 by rw [e161]; rfl, show wN W161 65 (1, 7) = W162 from rfl]
  refine k_dup (n := 97) dX0_init_96 rfl rfl ?_
  refine nX0_45 (n := 100) dX0_init_97 rfl rfl (Nat.le_of_ble_eq_true rfl) (by decide) (Nat.le_of_ble_eq_true rfl) (Nat.le_of_ble_eq_true rfl) (i_X1_init _ _ _) (fun v M h => ?_)
  obtain ⟨rfl, rfl⟩ := h
  dsimp only [Option.toList, List.nil_append]
  refine k_aast (r := (RX1, TX1, 7)) (kd := 102) (ci := 1) (j := 6) (z := 8) (n := 101) dX0_init_100 rfl (show W162.1[54]? = some (102, 8) by rw [e162]; rfl) (by decide +kernel) rfl (by decide) (by decide) (by decide) rfl (show W162.1[65]? = some (1, 7) by rw [e162]; rfl) ?_
  rw [wP_eq, show wP W162 54 6 (some 65) = W163 from rfl]
  refine ii3 (b := 7) (n := 104) dX0_init_101 rfl (by decide) trivial ?_
  refine k_goto (n := 82) dX0_init_104 (by decide) ?_
  refine il3 (n := 83) dX0_init_82 rfl ?_
  refine k_bipush (a := 8) (n := 85) dX0_init_83 rfl rfl ?_
  refine k_icmp_ge (t := 107) (n := 88) dX0_init_85 (by decide) rfl (fun h => absurd h (by decide)) (fun _ => ?_)
  refine al0 (n := 89) dX0_init_88 rfl ?_
  refine ggX0_23 (q := 54) (n := 92) dX0_init_89 rfl rfl (show W163.1[51]? = some (0, 13) by rw [e163]; rfl) (by decide +kernel) ?_
  refine il3 (n := 93) dX0_init_92 rfl ?_
  refine k_new (n := 96) dX0_init_93 rfl kcX1 (gwi 80 (by decide +kernel) rfl) (gwi 98 (by decide +kernel) rfl) gw8 dfX1 (Nat.le_of_ble_eq_true rfl) (Nat.le_of_ble_eq_true rfl) (by rw [e163]; decide) ?_
  rw [wN_eq (z := 66) _ (by rw [e163]; rfl), show W163.1.length = 66 by rw [e163]; rfl, show wN W163 66 (1, 7) = W164 from rfl]
  refine k_dup (n := 97) dX0_init_96 rfl rfl ?_
  refine nX0_45 (n := 100) dX0_init_97 rfl rfl (Nat.le_of_ble_eq_true rfl) (by decide) (Nat.le_of_ble_eq_true rfl) (Nat.le_of_ble_eq_true rfl) (i_X1_init _ _ _) (fun v M h => ?_)
  obtain ⟨rfl, rfl⟩ := h
  dsimp only [Option.toList, List.nil_append]
  refine k_aast (r := (RX1, TX1, 7)) (kd := 102) (ci := 1) (j := 7) (z := 8) (n := 101) dX0_init_100 rfl (show W164.1[54]? = some (102, 8) by rw [e164]; rfl) (by decide +kernel) rfl (by decide) (by decide) (by decide) rfl (show W164.1[66]? = some (1, 7) by rw [e164]; rfl) ?_
  rw [wP_eq, show wP W164 54 7 (some 66) = W165 from rfl]
  refine ii3 (b := 8) (n := 104) dX0_init_101 rfl (by decide) trivial ?_
  refine k_goto (n := 82) dX0_init_104 (by decide) ?_
  refine il3 (n := 83) dX0_init_82 rfl ?_
  refine k_bipush (a := 8) (n := 85) dX0_init_83 rfl rfl ?_
  refine k_icmp_ge (t := 107) (n := 88) dX0_init_85 (by decide) rfl (fun _ => ?_) (fun h => absurd (by decide) h)
  exact k_return dX0_init_107 rfl (Nat.le_of_ble_eq_true rfl) (Nat.le_of_ble_eq_true rfl) ⟨rfl, rfl⟩
def W166 : kM := wP W165 0 2 (some 51)
theorem e166 : W166.1 = SS.take 67 := e165
def W167 : kM := wN W166 67 (4, 6)
theorem e167 : W167.1 = SS.take 68 := by
  show W166.1 ++ [(4, 6)] = _
  rw [e166]; decide +kernel
def W168 : kM := wN W167 68 (100, 50)
theorem e168 : W168.1 = SS.take 69 := by
  show W167.1 ++ [(100, 50)] = _
  rw [e167]; decide +kernel
def W169 : kM := wP W168 67 1 (some 68)
theorem e169 : W169.1 = SS.take 69 := e168
def W170 : kM := wI W169 67 5 1
theorem e170 : W170.1 = SS.take 69 := e169
def W171 : kM := wP W170 67 0 (some 24)
theorem e171 : W171.1 = SS.take 69 := e170
set_option maxHeartbeats 1000000 in
set_option maxRecDepth 20000 in
theorem i_15_X4_init : Ct E 98 mX4_init 1 50 [.ref 67, .ref 24] W167 (fun v M => v = none ∧ M = W171) := by
  refine Ct.of (L := [some (.ref 67), some (.ref 24)]) rfl rfl (Nat.le_of_ble_eq_true rfl) ?_
  refine al0 (n := 1) dX4_init_0 rfl ?_
  refine qX4_3 (n := 4) dX4_init_1 rfl rfl (Nat.le_of_ble_eq_true rfl) ?_
  refine al0 (n := 5) dX4_init_4 rfl ?_
  refine k_bipush (a := 50) (n := 7) dX4_init_5 rfl rfl ?_
  refine k_newa (z := 50) (n := 9) dX4_init_7 rfl (gwi 69 (by decide +kernel) rfl) rfl (by decide) (Nat.le_of_ble_eq_true rfl) (Nat.le_of_ble_eq_true rfl) (by rw [e167]; decide) ?_
  rw [wN_eq (z := 68) _ (by rw [e167]; rfl), show W167.1.length = 68 by rw [e167]; rfl, show wN W167 68 (100, 50) = W168 from rfl]
  refine ppX4_9 (n := 12) dX4_init_9 rfl rfl rfl (show W168.1[67]? = some (4, 6) by rw [e168]; rfl) ?_
  rw [wP_eq, show wP W168 67 1 (some 68) = W169 from rfl]
  refine al0 (n := 13) dX4_init_12 rfl ?_
  refine k_ldcS (j := 1005) (n := 15) dX4_init_13 rfl rfl (Or.inl ⟨rfl, rfl⟩) ?_
  refine ppX4_17 (a := 1) (n := 18) dX4_init_15 rfl rfl (show W169.1[67]? = some (4, 6) by rw [e169]; rfl) (Or.inl ⟨rfl, rfl⟩) ?_
  rw [wI_eq, show wI W169 67 5 1 = W170 from rfl]
  refine al0 (n := 19) dX4_init_18 rfl ?_
  refine al1 (n := 20) dX4_init_19 rfl ?_
  refine ppX4_21 (n := 23) dX4_init_20 rfl rfl rfl (show W170.1[67]? = some (4, 6) by rw [e170]; rfl) ?_
  rw [wP_eq, show wP W170 67 0 (some 24) = W171 from rfl]
  exact k_return dX4_init_23 rfl (Nat.le_of_ble_eq_true rfl) (Nat.le_of_ble_eq_true rfl) ⟨rfl, rfl⟩
def W172 : kM := wP W171 0 3 (some 67)
theorem e172 : W172.1 = SS.take 69 := e171
def W173 : kM := wN W172 69 (7, 5)
theorem e173 : W173.1 = SS.take 70 := by
  show W172.1 ++ [(7, 5)] = _
  rw [e172]; decide +kernel
def W174 : kM := wN W173 70 (100, 40)
theorem e174 : W174.1 = SS.take 71 := by
  show W173.1 ++ [(100, 40)] = _
  rw [e173]; decide +kernel
def W175 : kM := wP W174 69 0 (some 70)
theorem e175 : W175.1 = SS.take 71 := e174
set_option maxHeartbeats 1000000 in
set_option maxRecDepth 20000 in
theorem i_16_X7_init : Ct E 98 mX7_init 1 40 [.ref 69] W173 (fun v M => v = none ∧ M = W175) := by
  refine Ct.of (L := [some (.ref 69)]) rfl rfl (Nat.le_of_ble_eq_true rfl) ?_
  refine al0 (n := 1) dX7_init_0 rfl ?_
  refine qX7_3 (n := 4) dX7_init_1 rfl rfl (Nat.le_of_ble_eq_true rfl) ?_
  refine al0 (n := 5) dX7_init_4 rfl ?_
  refine k_bipush (a := 40) (n := 7) dX7_init_5 rfl rfl ?_
  refine k_newa (z := 40) (n := 9) dX7_init_7 rfl (gwi 69 (by decide +kernel) rfl) rfl (by decide) (Nat.le_of_ble_eq_true rfl) (Nat.le_of_ble_eq_true rfl) (by rw [e173]; decide) ?_
  rw [wN_eq (z := 70) _ (by rw [e173]; rfl), show W173.1.length = 70 by rw [e173]; rfl, show wN W173 70 (100, 40) = W174 from rfl]
  refine ppX7_11 (n := 12) dX7_init_9 rfl rfl rfl (show W174.1[69]? = some (7, 5) by rw [e174]; rfl) ?_
  rw [wP_eq, show wP W174 69 0 (some 70) = W175 from rfl]
  exact k_return dX7_init_12 rfl (Nat.le_of_ble_eq_true rfl) (Nat.le_of_ble_eq_true rfl) ⟨rfl, rfl⟩
def W176 : kM := wP W175 0 4 (some 69)
theorem e176 : W176.1 = SS.take 71 := e175
def W177 : kM := wN W176 71 (106, 4)
theorem e177 : W177.1 = SS.take 72 := by
  show W176.1 ++ [(106, 4)] = _
  rw [e176]; decide +kernel
def W178 : kM := wP W177 0 5 (some 71)
theorem e178 : W178.1 = SS.take 72 := e177
def W179 : kM := wN W178 72 (100, 6)
theorem e179 : W179.1 = SS.take 73 := by
  show W178.1 ++ [(100, 6)] = _
  rw [e178]; decide +kernel
def W180 : kM := wP W179 0 6 (some 72)
theorem e180 : W180.1 = SS.take 73 := e179
def W181 : kM := wN W180 73 (5, 3)
theorem e181 : W181.1 = SS.take 74 := by
  show W180.1 ++ [(5, 3)] = _
  rw [e180]; decide +kernel
def W182 : kM := wN W181 74 (100, 40)
theorem e182 : W182.1 = SS.take 75 := by
  show W181.1 ++ [(100, 40)] = _
  rw [e181]; decide +kernel
def W183 : kM := wP W182 73 0 (some 74)
theorem e183 : W183.1 = SS.take 75 := e182
set_option maxHeartbeats 1000000 in
set_option maxRecDepth 20000 in
theorem i_17_X5_init : Ct E 98 mX5_init 1 40 [.ref 73] W181 (fun v M => v = none ∧ M = W183) := by
  refine Ct.of (L := [some (.ref 73)]) rfl rfl (Nat.le_of_ble_eq_true rfl) ?_
  refine al0 (n := 1) dX5_init_0 rfl ?_
  refine qX5_3 (n := 4) dX5_init_1 rfl rfl (Nat.le_of_ble_eq_true rfl) ?_
  refine al0 (n := 5) dX5_init_4 rfl ?_
  refine k_bipush (a := 40) (n := 7) dX5_init_5 rfl rfl ?_
  refine k_newa (z := 40) (n := 9) dX5_init_7 rfl (gwi 69 (by decide +kernel) rfl) rfl (by decide) (Nat.le_of_ble_eq_true rfl) (Nat.le_of_ble_eq_true rfl) (by rw [e181]; decide) ?_
  rw [wN_eq (z := 74) _ (by rw [e181]; rfl), show W181.1.length = 74 by rw [e181]; rfl, show wN W181 74 (100, 40) = W182 from rfl]
  refine ppX5_9 (n := 12) dX5_init_9 rfl rfl rfl (show W182.1[73]? = some (5, 3) by rw [e182]; rfl) ?_
  rw [wP_eq, show wP W182 73 0 (some 74) = W183 from rfl]
  exact k_return dX5_init_12 rfl (Nat.le_of_ble_eq_true rfl) (Nat.le_of_ble_eq_true rfl) ⟨rfl, rfl⟩
def W184 : kM := wP W183 71 0 (some 73)
theorem e184 : W184.1 = SS.take 75 := e183
def W185 : kM := wN W184 75 (5, 3)
theorem e185 : W185.1 = SS.take 76 := by
  show W184.1 ++ [(5, 3)] = _
  rw [e184]; decide +kernel
def W186 : kM := wN W185 76 (100, 40)
theorem e186 : W186.1 = SS.take 77 := by
  show W185.1 ++ [(100, 40)] = _
  rw [e185]; decide +kernel
def W187 : kM := wP W186 75 0 (some 76)
theorem e187 : W187.1 = SS.take 77 := e186
set_option maxHeartbeats 1000000 in
set_option maxRecDepth 20000 in
theorem i_18_X5_init : Ct E 98 mX5_init 1 40 [.ref 75] W185 (fun v M => v = none ∧ M = W187) := by
  refine Ct.of (L := [some (.ref 75)]) rfl rfl (Nat.le_of_ble_eq_true rfl) ?_
  refine al0 (n := 1) dX5_init_0 rfl ?_
  refine qX5_3 (n := 4) dX5_init_1 rfl rfl (Nat.le_of_ble_eq_true rfl) ?_
  refine al0 (n := 5) dX5_init_4 rfl ?_
  refine k_bipush (a := 40) (n := 7) dX5_init_5 rfl rfl ?_
  refine k_newa (z := 40) (n := 9) dX5_init_7 rfl (gwi 69 (by decide +kernel) rfl) rfl (by decide) (Nat.le_of_ble_eq_true rfl) (Nat.le_of_ble_eq_true rfl) (by rw [e185]; decide) ?_
  rw [wN_eq (z := 76) _ (by rw [e185]; rfl), show W185.1.length = 76 by rw [e185]; rfl, show wN W185 76 (100, 40) = W186 from rfl]
  refine ppX5_9 (n := 12) dX5_init_9 rfl rfl rfl (show W186.1[75]? = some (5, 3) by rw [e186]; rfl) ?_
  rw [wP_eq, show wP W186 75 0 (some 76) = W187 from rfl]
  exact k_return dX5_init_12 rfl (Nat.le_of_ble_eq_true rfl) (Nat.le_of_ble_eq_true rfl) ⟨rfl, rfl⟩
def W188 : kM := wP W187 71 1 (some 75)
theorem e188 : W188.1 = SS.take 77 := e187
def W189 : kM := wN W188 77 (5, 3)
theorem e189 : W189.1 = SS.take 78 := by
  show W188.1 ++ [(5, 3)] = _
  rw [e188]; decide +kernel
def W190 : kM := wN W189 78 (100, 40)
theorem e190 : W190.1 = SS.take 79 := by
  show W189.1 ++ [(100, 40)] = _
  rw [e189]; decide +kernel
def W191 : kM := wP W190 77 0 (some 78)
theorem e191 : W191.1 = SS.take 79 := e190
set_option maxHeartbeats 1000000 in
set_option maxRecDepth 20000 in
theorem i_19_X5_init : Ct E 98 mX5_init 1 40 [.ref 77] W189 (fun v M => v = none ∧ M = W191) := by
  refine Ct.of (L := [some (.ref 77)]) rfl rfl (Nat.le_of_ble_eq_true rfl) ?_
  refine al0 (n := 1) dX5_init_0 rfl ?_
  refine qX5_3 (n := 4) dX5_init_1 rfl rfl (Nat.le_of_ble_eq_true rfl) ?_
  refine al0 (n := 5) dX5_init_4 rfl ?_
  refine k_bipush (a := 40) (n := 7) dX5_init_5 rfl rfl ?_
  refine k_newa (z := 40) (n := 9) dX5_init_7 rfl (gwi 69 (by decide +kernel) rfl) rfl (by decide) (Nat.le_of_ble_eq_true rfl) (Nat.le_of_ble_eq_true rfl) (by rw [e189]; decide) ?_
  rw [wN_eq (z := 78) _ (by rw [e189]; rfl), show W189.1.length = 78 by rw [e189]; rfl, show wN W189 78 (100, 40) = W190 from rfl]
  refine ppX5_9 (n := 12) dX5_init_9 rfl rfl rfl (show W190.1[77]? = some (5, 3) by rw [e190]; rfl) ?_
  rw [wP_eq, show wP W190 77 0 (some 78) = W191 from rfl]
  exact k_return dX5_init_12 rfl (Nat.le_of_ble_eq_true rfl) (Nat.le_of_ble_eq_true rfl) ⟨rfl, rfl⟩
def W192 : kM := wP W191 71 2 (some 77)
theorem e192 : W192.1 = SS.take 79 := e191
def W193 : kM := wN W192 79 (5, 3)
theorem e193 : W193.1 = SS.take 80 := by
  show W192.1 ++ [(5, 3)] = _
  rw [e192]; decide +kernel
def W194 : kM := wN W193 80 (100, 40)
theorem e194 : W194.1 = SS.take 81 := by
  show W193.1 ++ [(100, 40)] = _
  rw [e193]; decide +kernel
def W195 : kM := wP W194 79 0 (some 80)
theorem e195 : W195.1 = SS.take 81 := e194
set_option maxHeartbeats 1000000 in
set_option maxRecDepth 20000 in
theorem i_20_X5_init : Ct E 98 mX5_init 1 40 [.ref 79] W193 (fun v M => v = none ∧ M = W195) := by
  refine Ct.of (L := [some (.ref 79)]) rfl rfl (Nat.le_of_ble_eq_true rfl) ?_
  refine al0 (n := 1) dX5_init_0 rfl ?_
  refine qX5_3 (n := 4) dX5_init_1 rfl rfl (Nat.le_of_ble_eq_true rfl) ?_
  refine al0 (n := 5) dX5_init_4 rfl ?_
  refine k_bipush (a := 40) (n := 7) dX5_init_5 rfl rfl ?_
  refine k_newa (z := 40) (n := 9) dX5_init_7 rfl (gwi 69 (by decide +kernel) rfl) rfl (by decide) (Nat.le_of_ble_eq_true rfl) (Nat.le_of_ble_eq_true rfl) (by rw [e193]; decide) ?_
  rw [wN_eq (z := 80) _ (by rw [e193]; rfl), show W193.1.length = 80 by rw [e193]; rfl, show wN W193 80 (100, 40) = W194 from rfl]
  refine ppX5_9 (n := 12) dX5_init_9 rfl rfl rfl (show W194.1[79]? = some (5, 3) by rw [e194]; rfl) ?_
  rw [wP_eq, show wP W194 79 0 (some 80) = W195 from rfl]
  exact k_return dX5_init_12 rfl (Nat.le_of_ble_eq_true rfl) (Nat.le_of_ble_eq_true rfl) ⟨rfl, rfl⟩
def W196 : kM := wP W195 71 3 (some 79)
theorem e196 : W196.1 = SS.take 81 := e195
set_option maxHeartbeats 1000000 in
set_option maxRecDepth 20000 in
theorem i_1_X8_init : Ct E 99 mX8_init 80 1150 [.ref 0] W1 (fun v M => v = none ∧ M = W196) := by
  refine Ct.of (L := [some (.ref 0), none]) rfl rfl (Nat.le_of_ble_eq_true rfl) ?_
  refine al0 (n := 1) dX8_init_0 rfl ?_
  refine qX8_1 (n := 4) dX8_init_1 rfl rfl (Nat.le_of_ble_eq_true rfl) ?_
  refine al0 (n := 5) dX8_init_4 rfl ?_
  refine k_new (n := 8) dX8_init_5 rfl kcX2 (gwi 27 (by decide +kernel) rfl) (gwi 28 (by decide +kernel) rfl) gw2 dfX2 (Nat.le_of_ble_eq_true rfl) (Nat.le_of_ble_eq_true rfl) (by rw [e1]; decide) ?_
  rw [wN_eq (z := 1) _ (by rw [e1]; rfl), show W1.1.length = 1 by rw [e1]; rfl, show wN W1 1 (2, 8) = W2 from rfl]
  refine k_dup (n := 9) dX8_init_8 rfl rfl ?_
  refine nX8_9 (n := 12) dX8_init_9 rfl rfl (Nat.le_of_ble_eq_true rfl) (by decide) (Nat.le_of_ble_eq_true rfl) (Nat.le_of_ble_eq_true rfl) i_2_X2_init (fun v M h => ?_)
  obtain ⟨rfl, rfl⟩ := h
  dsimp only [Option.toList, List.nil_append]
  refine ppX8_10 (n := 15) dX8_init_12 rfl rfl rfl (show W64.1[0]? = some (8, 8) by rw [e64]; rfl) ?_
  rw [wP_eq, show wP W64 0 0 (some 1) = W65 from rfl]
  refine al0 (n := 16) dX8_init_15 rfl ?_
  refine k_new (n := 19) dX8_init_16 rfl kcX2 (gwi 27 (by decide +kernel) rfl) (gwi 28 (by decide +kernel) rfl) gw2 dfX2 (Nat.le_of_ble_eq_true rfl) (Nat.le_of_ble_eq_true rfl) (by rw [e65]; decide) ?_
  rw [wN_eq (z := 26) _ (by rw [e65]; rfl), show W65.1.length = 26 by rw [e65]; rfl, show wN W65 26 (2, 8) = W66 from rfl]
  refine k_dup (n := 20) dX8_init_19 rfl rfl ?_
  refine nX8_9 (n := 23) dX8_init_20 rfl rfl (Nat.le_of_ble_eq_true rfl) (by decide) (Nat.le_of_ble_eq_true rfl) (Nat.le_of_ble_eq_true rfl) i_8_X2_init (fun v M h => ?_)
  obtain ⟨rfl, rfl⟩ := h
  dsimp only [Option.toList, List.nil_append]
  refine ppX8_16 (n := 26) dX8_init_23 rfl rfl rfl (show W128.1[0]? = some (8, 8) by rw [e128]; rfl) ?_
  rw [wP_eq, show wP W128 0 1 (some 26) = W129 from rfl]
  refine al0 (n := 27) dX8_init_26 rfl ?_
  refine k_new (n := 30) dX8_init_27 rfl kcX0 (gwi 221 (by decide +kernel) rfl) (gwi 73 (by decide +kernel) rfl) gw6 dfX0 (Nat.le_of_ble_eq_true rfl) (Nat.le_of_ble_eq_true rfl) (by rw [e129]; decide) ?_
  rw [wN_eq (z := 51) _ (by rw [e129]; rfl), show W129.1.length = 51 by rw [e129]; rfl, show wN W129 51 (0, 13) = W130 from rfl]
  refine k_dup (n := 31) dX8_init_30 rfl rfl ?_
  refine al0 (n := 32) dX8_init_31 rfl ?_
  refine ggX8_10 (q := 1) (n := 35) dX8_init_32 rfl rfl (show W130.1[0]? = some (8, 8) by rw [e130]; rfl) (by decide +kernel) ?_
  refine ggX8_21 (q := 2) (n := 38) dX8_init_35 rfl rfl (show W130.1[1]? = some (2, 8) by rw [e130]; rfl) (by decide +kernel) ?_
  refine al0 (n := 39) dX8_init_38 rfl ?_
  refine ggX8_10 (q := 1) (n := 42) dX8_init_39 rfl rfl (show W130.1[0]? = some (8, 8) by rw [e130]; rfl) (by decide +kernel) ?_
  refine ggX8_25 (q := 5) (n := 45) dX8_init_42 rfl rfl (show W130.1[1]? = some (2, 8) by rw [e130]; rfl) (by decide +kernel) ?_
  refine qX8_28 (n := 48) dX8_init_45 rfl rfl (Nat.le_of_ble_eq_true rfl) (by decide) (Nat.le_of_ble_eq_true rfl) (Nat.le_of_ble_eq_true rfl) i_14_X0_init (fun v M h => ?_)
  obtain ⟨rfl, rfl⟩ := h
  dsimp only [Option.toList, List.nil_append]
  refine ppX8_31 (n := 51) dX8_init_48 rfl rfl rfl (show W165.1[0]? = some (8, 8) by rw [e165]; rfl) ?_
  rw [wP_eq, show wP W165 0 2 (some 51) = W166 from rfl]
  refine al0 (n := 52) dX8_init_51 rfl ?_
  refine k_new (n := 55) dX8_init_52 rfl kcX4 (gwi 223 (by decide +kernel) rfl) (gwi 224 (by decide +kernel) rfl) gw9 dfX4 (Nat.le_of_ble_eq_true rfl) (Nat.le_of_ble_eq_true rfl) (by rw [e166]; decide) ?_
  rw [wN_eq (z := 67) _ (by rw [e166]; rfl), show W166.1.length = 67 by rw [e166]; rfl, show wN W166 67 (4, 6) = W167 from rfl]
  refine k_dup (n := 56) dX8_init_55 rfl rfl ?_
  refine al0 (n := 57) dX8_init_56 rfl ?_
  refine ggX8_10 (q := 1) (n := 60) dX8_init_57 rfl rfl (show W167.1[0]? = some (8, 8) by rw [e167]; rfl) (by decide +kernel) ?_
  refine ggX8_37 (q := 24) (n := 63) dX8_init_60 rfl rfl (show W167.1[1]? = some (2, 8) by rw [e167]; rfl) (by decide +kernel) ?_
  refine qX8_41 (n := 66) dX8_init_63 rfl rfl (Nat.le_of_ble_eq_true rfl) (by decide) (Nat.le_of_ble_eq_true rfl) (Nat.le_of_ble_eq_true rfl) i_15_X4_init (fun v M h => ?_)
  obtain ⟨rfl, rfl⟩ := h
  dsimp only [Option.toList, List.nil_append]
  refine ppX8_44 (n := 69) dX8_init_66 rfl rfl rfl (show W171.1[0]? = some (8, 8) by rw [e171]; rfl) ?_
  rw [wP_eq, show wP W171 0 3 (some 67) = W172 from rfl]
  refine al0 (n := 70) dX8_init_69 rfl ?_
  refine k_new (n := 73) dX8_init_70 rfl kcX7 (gwi 253 (by decide +kernel) rfl) (gwi 254 (by decide +kernel) rfl) gw10 dfX7 (Nat.le_of_ble_eq_true rfl) (Nat.le_of_ble_eq_true rfl) (by rw [e172]; decide) ?_
  rw [wN_eq (z := 69) _ (by rw [e172]; rfl), show W172.1.length = 69 by rw [e172]; rfl, show wN W172 69 (7, 5) = W173 from rfl]
  refine k_dup (n := 74) dX8_init_73 rfl rfl ?_
  refine nX8_50 (n := 77) dX8_init_74 rfl rfl (Nat.le_of_ble_eq_true rfl) (by decide) (Nat.le_of_ble_eq_true rfl) (Nat.le_of_ble_eq_true rfl) i_16_X7_init (fun v M h => ?_)
  obtain ⟨rfl, rfl⟩ := h
  dsimp only [Option.toList, List.nil_append]
  refine ppX8_51 (n := 80) dX8_init_77 rfl rfl rfl (show W175.1[0]? = some (8, 8) by rw [e175]; rfl) ?_
  rw [wP_eq, show wP W175 0 4 (some 69) = W176 from rfl]
  refine al0 (n := 81) dX8_init_80 rfl ?_
  refine k_iconst (a := 4) (n := 82) dX8_init_81 rfl rfl ?_
  refine k_anew (z := 4) (kd := 106) (C := "RopeBorder$Sheet") (n := 85) dX8_init_82 rfl (gwi 277 (by decide +kernel) rfl) (by decide +kernel) rfl (by decide) (Nat.le_of_ble_eq_true rfl) (Nat.le_of_ble_eq_true rfl) (by rw [e176]; decide) ?_
  rw [wN_eq (z := 71) _ (by rw [e176]; rfl), show W176.1.length = 71 by rw [e176]; rfl, show wN W176 71 (106, 4) = W177 from rfl]
  refine ppX8_57 (n := 88) dX8_init_85 rfl rfl rfl (show W177.1[0]? = some (8, 8) by rw [e177]; rfl) ?_
  rw [wP_eq, show wP W177 0 5 (some 71) = W178 from rfl]
  refine al0 (n := 89) dX8_init_88 rfl ?_
  refine k_bipush (a := 6) (n := 91) dX8_init_89 rfl rfl ?_
  refine k_newa (z := 6) (n := 93) dX8_init_91 rfl (gwi 69 (by decide +kernel) rfl) rfl (by decide) (Nat.le_of_ble_eq_true rfl) (Nat.le_of_ble_eq_true rfl) (by rw [e178]; decide) ?_
  rw [wN_eq (z := 72) _ (by rw [e178]; rfl), show W178.1.length = 72 by rw [e178]; rfl, show wN W178 72 (100, 6) = W179 from rfl]
  refine ppX8_61 (n := 96) dX8_init_93 rfl rfl rfl (show W179.1[0]? = some (8, 8) by rw [e179]; rfl) ?_
  rw [wP_eq, show wP W179 0 6 (some 72) = W180 from rfl]
  refine k_iconst (a := 0) (n := 97) dX8_init_96 rfl rfl ?_
  refine is1 (n := 98) dX8_init_97 rfl trivial ?_
  refine il1 (n := 99) dX8_init_98 rfl ?_
  refine k_iconst (a := 4) (n := 100) dX8_init_99 rfl rfl ?_
  refine k_icmp_ge (t := 122) (n := 103) dX8_init_100 (by decide) rfl (fun h => absurd h (by decide)) (fun _ => ?_)
  refine al0 (n := 104) dX8_init_103 rfl ?_
  refine ggX8_57 (q := 71) (n := 107) dX8_init_104 rfl rfl (show W180.1[0]? = some (8, 8) by rw [e180]; rfl) (by decide +kernel) ?_
  refine il1 (n := 108) dX8_init_107 rfl ?_
  refine k_new (n := 111) dX8_init_108 rfl kcX5 (gwi 277 (by decide +kernel) rfl) (gwi 279 (by decide +kernel) rfl) gw11 dfX5 (Nat.le_of_ble_eq_true rfl) (Nat.le_of_ble_eq_true rfl) (by rw [e180]; decide) ?_
  rw [wN_eq (z := 73) _ (by rw [e180]; rfl), show W180.1.length = 73 by rw [e180]; rfl, show wN W180 73 (5, 3) = W181 from rfl]
  refine k_dup (n := 112) dX8_init_111 rfl rfl ?_
  refine nX8_64 (n := 115) dX8_init_112 rfl rfl (Nat.le_of_ble_eq_true rfl) (by decide) (Nat.le_of_ble_eq_true rfl) (Nat.le_of_ble_eq_true rfl) i_17_X5_init (fun v M h => ?_)
  obtain ⟨rfl, rfl⟩ := h
  dsimp only [Option.toList, List.nil_append]
  refine k_aast (r := (RX5, TX5, 3)) (kd := 106) (ci := 5) (j := 0) (z := 4) (n := 116) dX8_init_115 rfl (show W183.1[71]? = some (106, 4) by rw [e183]; rfl) (by decide +kernel) rfl (by decide) (by decide) (by decide) rfl (show W183.1[73]? = some (5, 3) by rw [e183]; rfl) ?_
  rw [wP_eq, show wP W183 71 0 (some 73) = W184 from rfl]
  refine ii1 (b := 1) (n := 119) dX8_init_116 rfl (by decide) trivial ?_
  refine k_goto (n := 98) dX8_init_119 (by decide) ?_
  refine il1 (n := 99) dX8_init_98 rfl ?_
  refine k_iconst (a := 4) (n := 100) dX8_init_99 rfl rfl ?_
  refine k_icmp_ge (t := 122) (n := 103) dX8_init_100 (by decide) rfl (fun h => absurd h (by decide)) (fun _ => ?_)
  refine al0 (n := 104) dX8_init_103 rfl ?_
  refine ggX8_57 (q := 71) (n := 107) dX8_init_104 rfl rfl (show W184.1[0]? = some (8, 8) by rw [e184]; rfl) (by decide +kernel) ?_
  refine il1 (n := 108) dX8_init_107 rfl ?_
  refine k_new (n := 111) dX8_init_108 rfl kcX5 (gwi 277 (by decide +kernel) rfl) (gwi 279 (by decide +kernel) rfl) gw11 dfX5 (Nat.le_of_ble_eq_true rfl) (Nat.le_of_ble_eq_true rfl) (by rw [e184]; decide) ?_
  rw [wN_eq (z := 75) _ (by rw [e184]; rfl), show W184.1.length = 75 by rw [e184]; rfl, show wN W184 75 (5, 3) = W185 from rfl]
  refine k_dup (n := 112) dX8_init_111 rfl rfl ?_
  refine nX8_64 (n := 115) dX8_init_112 rfl rfl (Nat.le_of_ble_eq_true rfl) (by decide) (Nat.le_of_ble_eq_true rfl) (Nat.le_of_ble_eq_true rfl) i_18_X5_init (fun v M h => ?_)
  obtain ⟨rfl, rfl⟩ := h
  dsimp only [Option.toList, List.nil_append]
  refine k_aast (r := (RX5, TX5, 3)) (kd := 106) (ci := 5) (j := 1) (z := 4) (n := 116) dX8_init_115 rfl (show W187.1[71]? = some (106, 4) by rw [e187]; rfl) (by decide +kernel) rfl (by decide) (by decide) (by decide) rfl (show W187.1[75]? = some (5, 3) by rw [e187]; rfl) ?_
  rw [wP_eq, show wP W187 71 1 (some 75) = W188 from rfl]
  refine ii1 (b := 2) (n := 119) dX8_init_116 rfl (by decide) trivial ?_
  refine k_goto (n := 98) dX8_init_119 (by decide) ?_
  refine il1 (n := 99) dX8_init_98 rfl ?_
  refine k_iconst (a := 4) (n := 100) dX8_init_99 rfl rfl ?_
  refine k_icmp_ge (t := 122) (n := 103) dX8_init_100 (by decide) rfl (fun h => absurd h (by decide)) (fun _ => ?_)
  refine al0 (n := 104) dX8_init_103 rfl ?_
  refine ggX8_57 (q := 71) (n := 107) dX8_init_104 rfl rfl (show W188.1[0]? = some (8, 8) by rw [e188]; rfl) (by decide +kernel) ?_
  refine il1 (n := 108) dX8_init_107 rfl ?_
  refine k_new (n := 111) dX8_init_108 rfl kcX5 (gwi 277 (by decide +kernel) rfl) (gwi 279 (by decide +kernel) rfl) gw11 dfX5 (Nat.le_of_ble_eq_true rfl) (Nat.le_of_ble_eq_true rfl) (by rw [e188]; decide) ?_
  rw [wN_eq (z := 77) _ (by rw [e188]; rfl), show W188.1.length = 77 by rw [e188]; rfl, show wN W188 77 (5, 3) = W189 from rfl]
  refine k_dup (n := 112) dX8_init_111 rfl rfl ?_
  refine nX8_64 (n := 115) dX8_init_112 rfl rfl (Nat.le_of_ble_eq_true rfl) (by decide) (Nat.le_of_ble_eq_true rfl) (Nat.le_of_ble_eq_true rfl) i_19_X5_init (fun v M h => ?_)
  obtain ⟨rfl, rfl⟩ := h
  dsimp only [Option.toList, List.nil_append]
  refine k_aast (r := (RX5, TX5, 3)) (kd := 106) (ci := 5) (j := 2) (z := 4) (n := 116) dX8_init_115 rfl (show W191.1[71]? = some (106, 4) by rw [e191]; rfl) (by decide +kernel) rfl (by decide) (by decide) (by decide) rfl (show W191.1[77]? = some (5, 3) by rw [e191]; rfl) ?_
  rw [wP_eq, show wP W191 71 2 (some 77) = W192 from rfl]
  refine ii1 (b := 3) (n := 119) dX8_init_116 rfl (by decide) trivial ?_
  refine k_goto (n := 98) dX8_init_119 (by decide) ?_
  refine il1 (n := 99) dX8_init_98 rfl ?_
  refine k_iconst (a := 4) (n := 100) dX8_init_99 rfl rfl ?_
  refine k_icmp_ge (t := 122) (n := 103) dX8_init_100 (by decide) rfl (fun h => absurd h (by decide)) (fun _ => ?_)
  refine al0 (n := 104) dX8_init_103 rfl ?_
  refine ggX8_57 (q := 71) (n := 107) dX8_init_104 rfl rfl (show W192.1[0]? = some (8, 8) by rw [e192]; rfl) (by decide +kernel) ?_
  refine il1 (n := 108) dX8_init_107 rfl ?_
  refine k_new (n := 111) dX8_init_108 rfl kcX5 (gwi 277 (by decide +kernel) rfl) (gwi 279 (by decide +kernel) rfl) gw11 dfX5 (Nat.le_of_ble_eq_true rfl) (Nat.le_of_ble_eq_true rfl) (by rw [e192]; decide) ?_
  rw [wN_eq (z := 79) _ (by rw [e192]; rfl), show W192.1.length = 79 by rw [e192]; rfl, show wN W192 79 (5, 3) = W193 from rfl]
  refine k_dup (n := 112) dX8_init_111 rfl rfl ?_
  refine nX8_64 (n := 115) dX8_init_112 rfl rfl (Nat.le_of_ble_eq_true rfl) (by decide) (Nat.le_of_ble_eq_true rfl) (Nat.le_of_ble_eq_true rfl) i_20_X5_init (fun v M h => ?_)
  obtain ⟨rfl, rfl⟩ := h
  dsimp only [Option.toList, List.nil_append]
  refine k_aast (r := (RX5, TX5, 3)) (kd := 106) (ci := 5) (j := 3) (z := 4) (n := 116) dX8_init_115 rfl (show W195.1[71]? = some (106, 4) by rw [e195]; rfl) (by decide +kernel) rfl (by decide) (by decide) (by decide) rfl (show W195.1[79]? = some (5, 3) by rw [e195]; rfl) ?_
  rw [wP_eq, show wP W195 71 3 (some 79) = W196 from rfl]
  refine ii1 (b := 4) (n := 119) dX8_init_116 rfl (by decide) trivial ?_
  refine k_goto (n := 98) dX8_init_119 (by decide) ?_
  refine il1 (n := 99) dX8_init_98 rfl ?_
  refine k_iconst (a := 4) (n := 100) dX8_init_99 rfl rfl ?_
  refine k_icmp_ge (t := 122) (n := 103) dX8_init_100 (by decide) rfl (fun _ => ?_) (fun h => absurd (by decide) h)
  exact k_return dX8_init_122 rfl (Nat.le_of_ble_eq_true rfl) (Nat.le_of_ble_eq_true rfl) ⟨rfl, rfl⟩
def W197 : kM := wN W196 81 (9, 24)
theorem e197 : W197.1 = SS.take 82 := by
  show W196.1 ++ [(9, 24)] = _
  rw [e196]; decide +kernel
def W198 : kM := wN W197 82 (100, 255)
theorem e198 : W198.1 = SS.take 83 := by
  show W197.1 ++ [(100, 255)] = _
  rw [e197]; decide +kernel
def W199 : kM := wP W198 81 0 (some 82)
theorem e199 : W199.1 = SS.take 83 := e198
def W200 : kM := wN W199 83 (100, 255)
theorem e200 : W200.1 = SS.take 84 := by
  show W199.1 ++ [(100, 255)] = _
  rw [e199]; decide +kernel
def W201 : kM := wP W200 81 1 (some 83)
theorem e201 : W201.1 = SS.take 84 := e200
def W202 : kM := wN W201 84 (100, 255)
theorem e202 : W202.1 = SS.take 85 := by
  show W201.1 ++ [(100, 255)] = _
  rw [e201]; decide +kernel
def W203 : kM := wP W202 81 2 (some 84)
theorem e203 : W203.1 = SS.take 85 := e202
def W204 : kM := wN W203 85 (100, 255)
theorem e204 : W204.1 = SS.take 86 := by
  show W203.1 ++ [(100, 255)] = _
  rw [e203]; decide +kernel
def W205 : kM := wP W204 81 3 (some 85)
theorem e205 : W205.1 = SS.take 86 := e204
def W206 : kM := wN W205 86 (100, 6)
theorem e206 : W206.1 = SS.take 87 := by
  show W205.1 ++ [(100, 6)] = _
  rw [e205]; decide +kernel
def W207 : kM := wP W206 81 6 (some 86)
theorem e207 : W207.1 = SS.take 87 := e206
def W208 : kM := wN W207 87 (100, 4)
theorem e208 : W208.1 = SS.take 88 := by
  show W207.1 ++ [(100, 4)] = _
  rw [e207]; decide +kernel
def W209 : kM := wP W208 81 15 (some 87)
theorem e209 : W209.1 = SS.take 88 := e208
def W210 : kM := wN W209 88 (100, 4)
theorem e210 : W210.1 = SS.take 89 := by
  show W209.1 ++ [(100, 4)] = _
  rw [e209]; decide +kernel
def W211 : kM := wP W210 81 16 (some 88)
theorem e211 : W211.1 = SS.take 89 := e210
def W212 : kM := wN W211 89 (100, 160)
theorem e212 : W212.1 = SS.take 90 := by
  show W211.1 ++ [(100, 160)] = _
  rw [e211]; decide +kernel
def W213 : kM := wP W212 81 17 (some 89)
theorem e213 : W213.1 = SS.take 90 := e212
def W214 : kM := wN W213 90 (100, 40)
theorem e214 : W214.1 = SS.take 91 := by
  show W213.1 ++ [(100, 40)] = _
  rw [e213]; decide +kernel
def W215 : kM := wP W214 81 18 (some 90)
theorem e215 : W215.1 = SS.take 91 := e214
def W216 : kM := wN W215 91 (100, 40)
theorem e216 : W216.1 = SS.take 92 := by
  show W215.1 ++ [(100, 40)] = _
  rw [e215]; decide +kernel
def W217 : kM := wP W216 81 19 (some 91)
theorem e217 : W217.1 = SS.take 92 := e216
def W218 : kM := wI W217 82 2 1
theorem e218 : W218.1 = SS.take 92 := e217
def W219 : kM := wI W218 82 3 4
theorem e219 : W219.1 = SS.take 92 := e218
def W220 : kM := wI W219 82 1 4
theorem e220 : W220.1 = SS.take 92 := e219
def W221 : kM := wI W220 82 10 1
theorem e221 : W221.1 = SS.take 92 := e220
def W222 : kM := wI W221 82 6 (-1)
theorem e222 : W222.1 = SS.take 92 := e221
def W223 : kM := wI W222 82 7 (-1)
theorem e223 : W223.1 = SS.take 92 := e222
set_option maxHeartbeats 1000000 in
set_option maxRecDepth 20000 in
theorem i_21_X9_init : Ct E 99 mX9_init 10 1274 [.ref 81] W197 (fun v M => v = none ∧ M = W223) := by
  refine Ct.of (L := [some (.ref 81)]) rfl rfl (Nat.le_of_ble_eq_true rfl) ?_
  refine al0 (n := 1) dX9_init_0 rfl ?_
  refine qX9_1 (n := 4) dX9_init_1 rfl rfl (Nat.le_of_ble_eq_true rfl) ?_
  refine al0 (n := 5) dX9_init_4 rfl ?_
  refine k_sipush (a := 255) (n := 8) dX9_init_5 rfl rfl ?_
  refine k_newa (z := 255) (n := 10) dX9_init_8 rfl (gwi 69 (by decide +kernel) rfl) rfl (by decide) (Nat.le_of_ble_eq_true rfl) (Nat.le_of_ble_eq_true rfl) (by rw [e197]; decide) ?_
  rw [wN_eq (z := 82) _ (by rw [e197]; rfl), show W197.1.length = 82 by rw [e197]; rfl, show wN W197 82 (100, 255) = W198 from rfl]
  refine ppX9_7 (n := 13) dX9_init_10 rfl rfl rfl (show W198.1[81]? = some (9, 24) by rw [e198]; rfl) ?_
  rw [wP_eq, show wP W198 81 0 (some 82) = W199 from rfl]
  refine al0 (n := 14) dX9_init_13 rfl ?_
  refine k_sipush (a := 255) (n := 17) dX9_init_14 rfl rfl ?_
  refine k_newa (z := 255) (n := 19) dX9_init_17 rfl (gwi 69 (by decide +kernel) rfl) rfl (by decide) (Nat.le_of_ble_eq_true rfl) (Nat.le_of_ble_eq_true rfl) (by rw [e199]; decide) ?_
  rw [wN_eq (z := 83) _ (by rw [e199]; rfl), show W199.1.length = 83 by rw [e199]; rfl, show wN W199 83 (100, 255) = W200 from rfl]
  refine ppX9_13 (n := 22) dX9_init_19 rfl rfl rfl (show W200.1[81]? = some (9, 24) by rw [e200]; rfl) ?_
  rw [wP_eq, show wP W200 81 1 (some 83) = W201 from rfl]
  refine al0 (n := 23) dX9_init_22 rfl ?_
  refine k_sipush (a := 255) (n := 26) dX9_init_23 rfl rfl ?_
  refine k_newa (z := 255) (n := 28) dX9_init_26 rfl (gwi 69 (by decide +kernel) rfl) rfl (by decide) (Nat.le_of_ble_eq_true rfl) (Nat.le_of_ble_eq_true rfl) (by rw [e201]; decide) ?_
  rw [wN_eq (z := 84) _ (by rw [e201]; rfl), show W201.1.length = 84 by rw [e201]; rfl, show wN W201 84 (100, 255) = W202 from rfl]
  refine ppX9_16 (n := 31) dX9_init_28 rfl rfl rfl (show W202.1[81]? = some (9, 24) by rw [e202]; rfl) ?_
  rw [wP_eq, show wP W202 81 2 (some 84) = W203 from rfl]
  refine al0 (n := 32) dX9_init_31 rfl ?_
  refine k_sipush (a := 255) (n := 35) dX9_init_32 rfl rfl ?_
  refine k_newa (z := 255) (n := 37) dX9_init_35 rfl (gwi 69 (by decide +kernel) rfl) rfl (by decide) (Nat.le_of_ble_eq_true rfl) (Nat.le_of_ble_eq_true rfl) (by rw [e203]; decide) ?_
  rw [wN_eq (z := 85) _ (by rw [e203]; rfl), show W203.1.length = 85 by rw [e203]; rfl, show wN W203 85 (100, 255) = W204 from rfl]
  refine ppX9_19 (n := 40) dX9_init_37 rfl rfl rfl (show W204.1[81]? = some (9, 24) by rw [e204]; rfl) ?_
  rw [wP_eq, show wP W204 81 3 (some 85) = W205 from rfl]
  refine al0 (n := 41) dX9_init_40 rfl ?_
  refine k_bipush (a := 6) (n := 43) dX9_init_41 rfl rfl ?_
  refine k_newa (z := 6) (n := 45) dX9_init_43 rfl (gwi 69 (by decide +kernel) rfl) rfl (by decide) (Nat.le_of_ble_eq_true rfl) (Nat.le_of_ble_eq_true rfl) (by rw [e205]; decide) ?_
  rw [wN_eq (z := 86) _ (by rw [e205]; rfl), show W205.1.length = 86 by rw [e205]; rfl, show wN W205 86 (100, 6) = W206 from rfl]
  refine ppX9_22 (n := 48) dX9_init_45 rfl rfl rfl (show W206.1[81]? = some (9, 24) by rw [e206]; rfl) ?_
  rw [wP_eq, show wP W206 81 6 (some 86) = W207 from rfl]
  refine al0 (n := 49) dX9_init_48 rfl ?_
  refine k_iconst (a := 4) (n := 50) dX9_init_49 rfl rfl ?_
  refine k_newa (z := 4) (n := 52) dX9_init_50 rfl (gwi 69 (by decide +kernel) rfl) rfl (by decide) (Nat.le_of_ble_eq_true rfl) (Nat.le_of_ble_eq_true rfl) (by rw [e207]; decide) ?_
  rw [wN_eq (z := 87) _ (by rw [e207]; rfl), show W207.1.length = 87 by rw [e207]; rfl, show wN W207 87 (100, 4) = W208 from rfl]
  refine ppX9_25 (n := 55) dX9_init_52 rfl rfl rfl (show W208.1[81]? = some (9, 24) by rw [e208]; rfl) ?_
  rw [wP_eq, show wP W208 81 15 (some 87) = W209 from rfl]
  refine al0 (n := 56) dX9_init_55 rfl ?_
  refine k_iconst (a := 4) (n := 57) dX9_init_56 rfl rfl ?_
  refine k_newa (z := 4) (n := 59) dX9_init_57 rfl (gwi 69 (by decide +kernel) rfl) rfl (by decide) (Nat.le_of_ble_eq_true rfl) (Nat.le_of_ble_eq_true rfl) (by rw [e209]; decide) ?_
  rw [wN_eq (z := 88) _ (by rw [e209]; rfl), show W209.1.length = 88 by rw [e209]; rfl, show wN W209 88 (100, 4) = W210 from rfl]
  refine ppX9_28 (n := 62) dX9_init_59 rfl rfl rfl (show W210.1[81]? = some (9, 24) by rw [e210]; rfl) ?_
  rw [wP_eq, show wP W210 81 16 (some 88) = W211 from rfl]
  refine al0 (n := 63) dX9_init_62 rfl ?_
  refine k_sipush (a := 160) (n := 66) dX9_init_63 rfl rfl ?_
  refine k_newa (z := 160) (n := 68) dX9_init_66 rfl (gwi 69 (by decide +kernel) rfl) rfl (by decide) (Nat.le_of_ble_eq_true rfl) (Nat.le_of_ble_eq_true rfl) (by rw [e211]; decide) ?_
  rw [wN_eq (z := 89) _ (by rw [e211]; rfl), show W211.1.length = 89 by rw [e211]; rfl, show wN W211 89 (100, 160) = W212 from rfl]
  refine ppX9_31 (n := 71) dX9_init_68 rfl rfl rfl (show W212.1[81]? = some (9, 24) by rw [e212]; rfl) ?_
  rw [wP_eq, show wP W212 81 17 (some 89) = W213 from rfl]
  refine al0 (n := 72) dX9_init_71 rfl ?_
  refine k_bipush (a := 40) (n := 74) dX9_init_72 rfl rfl ?_
  refine k_newa (z := 40) (n := 76) dX9_init_74 rfl (gwi 69 (by decide +kernel) rfl) rfl (by decide) (Nat.le_of_ble_eq_true rfl) (Nat.le_of_ble_eq_true rfl) (by rw [e213]; decide) ?_
  rw [wN_eq (z := 90) _ (by rw [e213]; rfl), show W213.1.length = 90 by rw [e213]; rfl, show wN W213 90 (100, 40) = W214 from rfl]
  refine ppX9_34 (n := 79) dX9_init_76 rfl rfl rfl (show W214.1[81]? = some (9, 24) by rw [e214]; rfl) ?_
  rw [wP_eq, show wP W214 81 18 (some 90) = W215 from rfl]
  refine al0 (n := 80) dX9_init_79 rfl ?_
  refine k_bipush (a := 40) (n := 82) dX9_init_80 rfl rfl ?_
  refine k_newa (z := 40) (n := 84) dX9_init_82 rfl (gwi 69 (by decide +kernel) rfl) rfl (by decide) (Nat.le_of_ble_eq_true rfl) (Nat.le_of_ble_eq_true rfl) (by rw [e215]; decide) ?_
  rw [wN_eq (z := 91) _ (by rw [e215]; rfl), show W215.1.length = 91 by rw [e215]; rfl, show wN W215 91 (100, 40) = W216 from rfl]
  refine ppX9_37 (n := 87) dX9_init_84 rfl rfl rfl (show W216.1[81]? = some (9, 24) by rw [e216]; rfl) ?_
  rw [wP_eq, show wP W216 81 19 (some 91) = W217 from rfl]
  refine al0 (n := 88) dX9_init_87 rfl ?_
  refine ggX9_7 (q := 82) (n := 91) dX9_init_88 rfl rfl (show W217.1[81]? = some (9, 24) by rw [e217]; rfl) (by decide +kernel) ?_
  refine k_iconst (a := 2) (n := 92) dX9_init_91 rfl rfl ?_
  refine k_iconst (a := 1) (n := 93) dX9_init_92 rfl rfl ?_
  refine k_iast (j := 2) (z := 255) (n := 94) dX9_init_93 rfl (show W217.1[82]? = some (100, 255) by rw [e217]; rfl) rfl (by decide) (by decide) ?_
  rw [wI_eq, show wI W217 82 2 1 = W218 from rfl]
  refine al0 (n := 95) dX9_init_94 rfl ?_
  refine ggX9_7 (q := 82) (n := 98) dX9_init_95 rfl rfl (show W218.1[81]? = some (9, 24) by rw [e218]; rfl) (by decide +kernel) ?_
  refine k_iconst (a := 3) (n := 99) dX9_init_98 rfl rfl ?_
  refine k_iconst (a := 4) (n := 100) dX9_init_99 rfl rfl ?_
  refine k_iast (j := 3) (z := 255) (n := 101) dX9_init_100 rfl (show W218.1[82]? = some (100, 255) by rw [e218]; rfl) rfl (by decide) (by decide) ?_
  rw [wI_eq, show wI W218 82 3 4 = W219 from rfl]
  refine al0 (n := 102) dX9_init_101 rfl ?_
  refine ggX9_7 (q := 82) (n := 105) dX9_init_102 rfl rfl (show W219.1[81]? = some (9, 24) by rw [e219]; rfl) (by decide +kernel) ?_
  refine k_iconst (a := 1) (n := 106) dX9_init_105 rfl rfl ?_
  refine k_iconst (a := 4) (n := 107) dX9_init_106 rfl rfl ?_
  refine k_iast (j := 1) (z := 255) (n := 108) dX9_init_107 rfl (show W219.1[82]? = some (100, 255) by rw [e219]; rfl) rfl (by decide) (by decide) ?_
  rw [wI_eq, show wI W219 82 1 4 = W220 from rfl]
  refine al0 (n := 109) dX9_init_108 rfl ?_
  refine ggX9_7 (q := 82) (n := 112) dX9_init_109 rfl rfl (show W220.1[81]? = some (9, 24) by rw [e220]; rfl) (by decide +kernel) ?_
  refine k_bipush (a := 10) (n := 114) dX9_init_112 rfl rfl ?_
  refine k_iconst (a := 1) (n := 115) dX9_init_114 rfl rfl ?_
  refine k_iast (j := 10) (z := 255) (n := 116) dX9_init_115 rfl (show W220.1[82]? = some (100, 255) by rw [e220]; rfl) rfl (by decide) (by decide) ?_
  rw [wI_eq, show wI W220 82 10 1 = W221 from rfl]
  refine al0 (n := 117) dX9_init_116 rfl ?_
  refine ggX9_7 (q := 82) (n := 120) dX9_init_117 rfl rfl (show W221.1[81]? = some (9, 24) by rw [e221]; rfl) (by decide +kernel) ?_
  refine k_bipush (a := 6) (n := 122) dX9_init_120 rfl rfl ?_
  refine k_iconst (a := (-1)) (n := 123) dX9_init_122 rfl rfl ?_
  refine k_iast (j := 6) (z := 255) (n := 124) dX9_init_123 rfl (show W221.1[82]? = some (100, 255) by rw [e221]; rfl) rfl (by decide) (by decide) ?_
  rw [wI_eq, show wI W221 82 6 (-1) = W222 from rfl]
  refine al0 (n := 125) dX9_init_124 rfl ?_
  refine ggX9_7 (q := 82) (n := 128) dX9_init_125 rfl rfl (show W222.1[81]? = some (9, 24) by rw [e222]; rfl) (by decide +kernel) ?_
  refine k_bipush (a := 7) (n := 130) dX9_init_128 rfl rfl ?_
  refine k_iconst (a := (-1)) (n := 131) dX9_init_130 rfl rfl ?_
  refine k_iast (j := 7) (z := 255) (n := 132) dX9_init_131 rfl (show W222.1[82]? = some (100, 255) by rw [e222]; rfl) rfl (by decide) (by decide) ?_
  rw [wI_eq, show wI W222 82 7 (-1) = W223 from rfl]
  exact k_return dX9_init_132 rfl (Nat.le_of_ble_eq_true rfl) (Nat.le_of_ble_eq_true rfl) ⟨rfl, rfl⟩
set_option maxHeartbeats 1000000 in
set_option maxRecDepth 20000 in
theorem law_0 (kk : Wd E 100 mL_law 92 2456 92 2456 18 [some (.ref 1000), some (.ref 0), some (.ref 81), some (.int 0)] [] W223 Q) : Wd E 100 mL_law 0 0 92 2456 0 [some (.ref 1000), none, none, none] [] W0 Q := by
  refine k_new (n := 3) dL_law_0 rfl kcX8 (gwi 19 (by decide +kernel) rfl) (gwi 20 (by decide +kernel) rfl) gw1 dfX8 (Nat.le_of_ble_eq_true rfl) (Nat.le_of_ble_eq_true rfl) (by rw [e0]; decide) ?_
  rw [wN_eq (z := 0) _ (by rw [e0]; rfl), show W0.1.length = 0 by rw [e0]; rfl, show wN W0 0 (8, 8) = W1 from rfl]
  refine k_dup (n := 4) dL_law_3 rfl rfl ?_
  refine qL_9 (n := 7) dL_law_4 rfl rfl (Nat.le_of_ble_eq_true rfl) (by decide) (Nat.le_of_ble_eq_true rfl) (Nat.le_of_ble_eq_true rfl) i_1_X8_init (fun v M h => ?_)
  obtain ⟨rfl, rfl⟩ := h
  dsimp only [Option.toList, List.nil_append]
  refine as1 (n := 8) dL_law_7 rfl trivial ?_
  refine k_new (n := 11) dL_law_8 rfl kcX9 (gwi 870 (by decide +kernel) rfl) (gwi 871 (by decide +kernel) rfl) gw12 dfX9 (Nat.le_of_ble_eq_true rfl) (Nat.le_of_ble_eq_true rfl) (by rw [e196]; decide) ?_
  rw [wN_eq (z := 81) _ (by rw [e196]; rfl), show W196.1.length = 81 by rw [e196]; rfl, show wN W196 81 (9, 24) = W197 from rfl]
  refine k_dup (n := 12) dL_law_11 rfl rfl ?_
  refine qL_12 (n := 15) dL_law_12 rfl rfl (Nat.le_of_ble_eq_true rfl) (by decide) (Nat.le_of_ble_eq_true rfl) (Nat.le_of_ble_eq_true rfl) i_21_X9_init (fun v M h => ?_)
  obtain ⟨rfl, rfl⟩ := h
  dsimp only [Option.toList, List.nil_append]
  refine as2 (n := 16) dL_law_15 rfl trivial ?_
  refine k_iconst (a := 0) (n := 17) dL_law_16 rfl rfl ?_
  refine is3 (n := 18) dL_law_17 rfl trivial ?_
  exact kk
end C25

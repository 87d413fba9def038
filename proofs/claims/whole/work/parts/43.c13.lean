section C13
variable {E : kE} {d c t : Nat} {I J : Nat → Nat → Int32} {r : Nat → Int32}
def uA (I : Nat → Nat → Int32) (n : Nat) (b : Int32) : Nat → Nat → Int32 := kset (kset I 70 (upd (I 70) n b)) 69 (upd (I 69) 1 (nI n + 1))
def uL : (Nat → Nat → Int32) → Nat → List Int32 → (Nat → Nat → Int32)
  | I, _, [] => I
  | I, n, b :: l => uL (uA I n b) (n + 1) l
theorem uL_app : ∀ (l1 l2 : List Int32) (I : Nat → Nat → Int32) (n : Nat), uL (uL I n l1) (n + l1.length) l2 = uL I n (l1 ++ l2)
  | [], l2, I, n => rfl
  | b :: l1, l2, I, n => by
    show uL (uL (uA I n b) (n + 1) l1) (n + (l1.length + 1)) l2 = uL (uA I n b) (n + 1) (l1 ++ l2)
    rw [← uL_app l1 l2 (uA I n b) (n + 1), show n + 1 + l1.length = n + (l1.length + 1) by omega]
theorem uA_1 (I : Nat → Nat → Int32) (n : Nat) (b : Int32) : uA I n b 69 1 = nI (n + 1) := by
  unfold uA; rw [kset_same, pk_us, nI_1]
theorem uA_ne (I : Nat → Nat → Int32) (n : Nat) (b : Int32) {j : Nat} (h : j ≠ 1) : uA I n b 69 j = I 69 j := by
  unfold uA; rw [kset_same, pk_un h]
theorem uL_1 : ∀ (l : List Int32) (I : Nat → Nat → Int32) (n : Nat), I 69 1 = nI n → uL I n l 69 1 = nI (n + l.length)
  | [], I, n, h => h
  | b :: l, I, n, h => by
    show uL (uA I n b) (n + 1) l 69 1 = _
    rw [uL_1 l _ _ (uA_1 I n b)]
    congr 1
    simp only [List.length_cons]; omega
theorem uL_ne {j : Nat} (hj : j ≠ 1) : ∀ (l : List Int32) (I : Nat → Nat → Int32) (n : Nat), uL I n l 69 j = I 69 j
  | [], I, n => rfl
  | b :: l, I, n => by
    show uL (uA I n b) (n + 1) l 69 j = _
    rw [uL_ne hj l, uA_ne I n b hj]
theorem uL_k {k : Nat} (h1 : k ≠ 69) (h2 : k ≠ 70) : ∀ (l : List Int32) (I : Nat → Nat → Int32) (n : Nat), uL I n l k = I k
  | [], I, n => rfl
  | b :: l, I, n => by
    show uL (uA I n b) (n + 1) l k = _
    rw [uL_k h1 h2 l]
    unfold uA
    rw [kset_ne _ _ h1, kset_ne _ _ h2]
def bdL : List Int32 := [10, 11, 12, 13, 20, 0, 0, 0, 0, 30, 0, 0, 0, 0, 40, 0, 0, 0, 0, 50, 0, 60, 0, 0, 0, 0, 70, 71]
def bdF (at_ a : Nat) : Int32 := bdL.getD (at_ * 4 + a) 0
def abN (k : Nat) : Nat := ([0, 0, 0, 0, 1, 2, 3] : List Nat).getD k 0
def fdF : Nat → Nat → Nat → Option Nat
  | 0, _, _ => none
  | m + 1, at_, a => if bdF at_ a = 0 then fdF m (abN at_) a else some at_
theorem fd_up : ∀ k, k < 7 → ∀ a, a < 4 → bdF k a = 0 → abV k = nI (abN k) ∧ abN k < 7 := by decide +kernel
theorem n_m1 : ∀ k, k < 7 → ¬ nI k = -1 := by decide +kernel
theorem k_getsB {y : kY} {cl sl mc ms pc n : Nat} {L : List (Option Value)} {st : List Value} {M : kM} {Q : Option Value → kM → Prop} (hd : decode y.2.1 pc = .ok (.getstatic 35, 3)) (hn : pc + 3 = n) (hy : RX7 = y.1.cls) (kk : Wd E d y cl sl mc ms n L (.ref 1004 :: st) M Q) : Wd E d y cl sl mc ms pc L st M Q := k_gets hd hn (C := "RopeBorder$Voices") (nm := "BODIES") (List.Mem.tail _ (List.Mem.tail _ (List.Mem.tail _ (List.Mem.head _)))) (hy ▸ gwi 795 (by decide +kernel) rfl) kk
set_option maxHeartbeats 2000000 in
set_option maxRecDepth 20000 in
theorem c_say_l (c0 : Int32) (a e z : Nat) (x : Int32) (ha : a < 4) (he : e < 40) (hd : 1 ≤ d) (q : Int32) (I' : Nat → Nat → Int32) (hW : Ct E (d - 1) mX7_work 0 0 [.ref 69, .int (bdF z a), .int (abV z), .int x, .int (nI (e + 1))] (kJ I) (kR q I')) (m : Nat) : ∀ (i at_ : Nat) (x7 : Option Value), i + m = 7 → at_ < 7 → fdF m at_ a = some z → Wd E d mX7_say 0 0 0 0 6 [some (.ref 69), some (.int c0), some (.int (nI a)), some (.int x), some (.int (nI e)), some (.int (nI at_)), some (.int (nI i)), x7] [] (kJ I) (kR q I') := by
  induction m with
  | zero =>
    intro i at_ x7 hi hat hr
    exact absurd hr (by simp [fdF])
  | succ m ih =>
    intro i at_ x7 hi hat hr
    have hne : ¬ nI at_ = -1 := n_m1 at_ (by omega)
    refine il6 (n := 8) dX7_say_6 rfl ?_
    refine k_getsN (n := 11) dX7_say_8 rfl (List.Mem.tail _ (List.Mem.head _)) ?_
    refine k_alen (n := 12) dX7_say_11 rfl (xR (z := 7) (f := fun j => ([-1, 0, 0, 0, 1, 2, 3] : List Int32).getD j 0) (by decide) (by decide) rfl rfl) ?_
    refine k_icmp_ge (t := 81) (n := 15) dX7_say_12 (by decide) rfl (fun h12 => ?_) (fun h12 => ?_)
    · exact absurd h12 (nI_ge (by omega) (by decide))
    · refine il5 (n := 17) dX7_say_15 rfl ?_
      refine k_iconst (a := (-1)) (n := 18) dX7_say_17 rfl rfl ?_
      refine k_icmp_eq (t := 81) (n := 21) dX7_say_18 (by decide) rfl (fun h18 => ?_) (fun h18 => ?_)
      · exact absurd h18 hne
      · refine k_getsB (n := 24) dX7_say_21 rfl rfl ?_
        refine il5 (n := 26) dX7_say_24 rfl ?_
        refine k_iconst (a := 4) (n := 27) dX7_say_26 rfl rfl ?_
        refine k_imul (n := 28) dX7_say_27 rfl ?_
        refine il2 (n := 29) dX7_say_28 rfl ?_
        refine k_iadd (n := 30) dX7_say_29 rfl ?_
        rw [show nI at_ * 4 + nI a = nI (at_ * 4 + a) from by rw [show (4 : Int32) = nI 4 from rfl, pk_mul, nI_add]]
        refine k_iald (j := at_ * 4 + a) (n := 31) dX7_say_30 rfl (xR (z := 28) (f := fun j => bdL.getD j 0) (by decide) (by decide) rfl rfl) rfl (by omega) (by decide) ?_
        refine k_top (b := bdF at_ a) rfl ?_
        refine is7 (n := 33) dX7_say_31 rfl trivial ?_
        refine il7 (n := 35) dX7_say_33 rfl ?_
        refine k_if_eq (t := 67) (n := 38) dX7_say_35 (by decide) rfl (fun h35 => ?_) (fun h35 => ?_)
        · have hup := fd_up at_ hat a ha h35
          refine k_getsN (n := 70) dX7_say_67 rfl (List.Mem.tail _ (List.Mem.head _)) ?_
          refine il5 (n := 72) dX7_say_70 rfl ?_
          refine k_iald (j := at_) (n := 73) dX7_say_72 rfl (xR (z := 7) (f := fun j => ([-1, 0, 0, 0, 1, 2, 3] : List Int32).getD j 0) (by decide) (by decide) rfl rfl) rfl (by omega) (by decide) ?_
          refine k_top (b := abV at_) rfl ?_
          rw [hup.1]
          refine is5 (n := 75) dX7_say_73 rfl trivial ?_
          refine ii6 (n := 78) dX7_say_75 rfl (ki1 _) trivial ?_
          rw [nI_1]
          refine k_goto (n := 6) dX7_say_78 (by decide) ?_
          exact ih (i + 1) (abN at_) _ (by omega) hup.2 (by rw [← hr, fdF, if_pos h35])
        · have ez : at_ = z := by rw [fdF, if_neg h35] at hr; exact Option.some.inj hr
          refine il4 (n := 40) dX7_say_38 rfl ?_
          refine k_bipush (a := 40) (n := 42) dX7_say_40 rfl rfl ?_
          refine k_icmp_ge (t := 65) (n := 45) dX7_say_42 (by decide) rfl (fun h42 => ?_) (fun h42 => ?_)
          · exact absurd h42 (nI_ge (by omega) (by decide))
          · refine al0 (n := 46) dX7_say_45 rfl ?_
            refine il7 (n := 48) dX7_say_46 rfl ?_
            refine k_getsN (n := 51) dX7_say_48 rfl (List.Mem.tail _ (List.Mem.head _)) ?_
            refine il5 (n := 53) dX7_say_51 rfl ?_
            refine k_iald (j := at_) (n := 54) dX7_say_53 rfl (xR (z := 7) (f := fun j => ([-1, 0, 0, 0, 1, 2, 3] : List Int32).getD j 0) (by decide) (by decide) rfl rfl) rfl (by omega) (by decide) ?_
            refine k_top (b := abV at_) rfl ?_
            refine il3 (n := 55) dX7_say_54 rfl ?_
            refine il4 (n := 57) dX7_say_55 rfl ?_
            refine k_iconst (a := 1) (n := 58) dX7_say_57 rfl rfl ?_
            refine k_iadd (n := 59) dX7_say_58 rfl ?_
            rw [nI_1, ez]
            refine qiX7_38 (n := 62) dX7_say_59 rfl rfl (Nat.le_of_ble_eq_true rfl) (by omega) rfl hW (Nat.le_refl _) (Nat.le_refl _) ?_
            refine k_goto (n := 66) dX7_say_62 (by decide) ?_
            refine k_ireturn (ty := .int) dX7_say_66 rfl rfl (Nat.le_refl _) (Nat.le_refl _) ?_
            exact ⟨rfl, rfl⟩
set_option maxHeartbeats 2000000 in
set_option maxRecDepth 20000 in
theorem c_say (c0 a e z : Nat) (x : Int32) (hc : c0 < 7) (ha : a < 4) (he : e < 40) (hd : 1 ≤ d) {q : Int32} {I' : Nat → Nat → Int32} (hf : fdF 7 c0 a = some z) (hW : Ct E (d - 1) mX7_work 0 0 [.ref 69, .int (bdF z a), .int (abV z), .int x, .int (nI (e + 1))] (kJ I) (kR q I')) : Ct E d mX7_say 0 0 [.ref 69, .int (nI c0), .int (nI a), .int x, .int (nI e)] (kJ I) (kR q I') := by
  refine Ct.of (L := [some (.ref 69), some (.int (nI c0)), some (.int (nI a)), some (.int x), some (.int (nI e)), none, none, none]) rfl rfl (Nat.le_of_ble_eq_true rfl) ?_
  refine il1 (n := 1) dX7_say_0 rfl ?_
  refine is5 (n := 3) dX7_say_1 rfl trivial ?_
  refine k_iconst (a := 0) (n := 4) dX7_say_3 rfl rfl ?_
  refine is6 (n := 6) dX7_say_4 rfl trivial ?_
  exact c_say_l (nI c0) a e z x ha he hd q _ hW 7 0 c0 none (by omega) hc hf
set_option maxHeartbeats 2000000 in
set_option maxRecDepth 20000 in
theorem c_wpre (n e : Nat) (hn : n < 40) (h1 : I 69 1 = nI n) (b u x : Int32) (Q : Option Value → kM → Prop) (k : Wd E d mX7_work 0 0 0 0 29 [some (.ref 69), some (.int b), some (.int u), some (.int x), some (.int (nI e))] [] (kJ (uA I n b)) Q) : Wd E d mX7_work 0 0 0 0 0 [some (.ref 69), some (.int b), some (.int u), some (.int x), some (.int (nI e))] [] (kJ I) Q := by
  refine al0 (n := 1) dX7_work_0 rfl ?_
  refine gX7_25 (n := 4) dX7_work_1 rfl rfl rfl ?_
  refine k_top h1 ?_
  refine k_bipush (a := 40) (n := 6) dX7_work_4 rfl rfl ?_
  refine k_icmp_ge (t := 29) (n := 9) dX7_work_6 (by decide) rfl (fun h6 => ?_) (fun h6 => ?_)
  · exact absurd h6 (nI_ge (show n < 40 by omega) (by decide))
  · refine al0 (n := 10) dX7_work_9 rfl ?_
    refine gX7_11 (n := 13) dX7_work_10 rfl rfl rfl rfl ?_
    refine al0 (n := 14) dX7_work_13 rfl ?_
    refine gX7_25 (n := 17) dX7_work_14 rfl rfl rfl ?_
    refine k_top h1 ?_
    refine il1 (n := 18) dX7_work_17 rfl ?_
    refine j_iast (j := n) (n := 19) dX7_work_18 rfl rfl rfl hn (by decide) ?_
    refine k_gen (fun I1 e1 => ?_)
    refine al0 (n := 20) dX7_work_19 rfl ?_
    refine k_dup (n := 21) dX7_work_20 rfl rfl ?_
    refine gX7_25 (n := 24) dX7_work_21 rfl rfl rfl ?_
    refine k_top (show I1 69 1 = nI n by rw [← e1, kset_ne _ _ (by decide)]; exact h1) ?_
    refine k_iconst (a := 1) (n := 25) dX7_work_24 rfl rfl ?_
    refine k_iadd (n := 26) dX7_work_25 rfl ?_
    refine pX7_25 (n := 29) dX7_work_26 rfl rfl rfl ?_
    refine k_gen (fun I2 e2 => ?_)
    have ev : I2 = uA I n b := by rw [← e2, ← e1]; unfold uA; rw [kset_ne _ _ (show (69 : Nat) ≠ 70 by decide)]
    rw [ev]
    exact k
set_option maxHeartbeats 2000000 in
set_option maxRecDepth 20000 in
theorem c_w10 (hd : 1 ≤ d) (n e : Nat) (h1 : I 69 1 = nI n) (hn : n + 1 ≤ 40) (he : e + 1 ≤ 40)  (x : Int32) : Ct E d mX7_work 0 0 [.ref 69, .int 10, .int (-1), .int x, .int (nI e)] (kJ I) (kR (vC 0 (I 69 3) x).1 (uL I n (vC 0 (I 69 3) x).2)) := by
  refine Ct.of (L := [some (.ref 69), some (.int 10), some (.int (-1)), some (.int x), some (.int (nI e))]) rfl rfl (Nat.le_of_ble_eq_true rfl) ?_
  refine c_wpre n e (by omega) h1 10 (-1) x _ ?_
  refine il1 (n := 30) dX7_work_29 rfl ?_
  refine k_lookup (t := 128) (off := 98) dX7_work_30 (by decide) (by decide) (by decide) ?_
  refine il3 (n := 129) dX7_work_128 rfl ?_
  refine al0 (n := 130) dX7_work_129 rfl ?_
  refine gX7_19 (n := 133) dX7_work_130 rfl rfl rfl ?_
  refine k_iadd (n := 134) dX7_work_133 rfl ?_
  refine k_ireturn (ty := .int) dX7_work_134 rfl rfl (Nat.le_refl _) (Nat.le_refl _) ?_
  exact ⟨by rw [uA_ne _ _ _ (by decide)]; rfl, rfl⟩
theorem c_s0_0 (hd : 3 ≤ d) (n e : Nat) (h1 : I 69 1 = nI n) (hn : n + 1 ≤ 40) (he : e + 2 ≤ 40)  (x : Int32) : Ct E d mX7_say 0 0 [.ref 69, .int 0, .int 0, .int x, .int (nI e)] (kJ I) (kR (vC 0 (I 69 3) x).1 (uL I n (vC 0 (I 69 3) x).2)) := c_say 0 0 e 0 x (by decide) (by decide) (by omega) (by omega) (by decide) (c_w10 (by omega) n (e + 1) h1 (by omega) (by omega) x)
set_option maxHeartbeats 2000000 in
set_option maxRecDepth 20000 in
theorem c_w20 (hd : 4 ≤ d) (n e : Nat) (h1 : I 69 1 = nI n) (hn : n + 2 ≤ 40) (he : e + 4 ≤ 40)  (x : Int32) : Ct E d mX7_work 0 0 [.ref 69, .int 20, .int 0, .int x, .int (nI e)] (kJ I) (kR (vC 1 (I 69 3) x).1 (uL I n (vC 1 (I 69 3) x).2)) := by
  refine Ct.of (L := [some (.ref 69), some (.int 20), some (.int 0), some (.int x), some (.int (nI e))]) rfl rfl (Nat.le_of_ble_eq_true rfl) ?_
  refine c_wpre n e (by omega) h1 20 0 x _ ?_
  refine il1 (n := 30) dX7_work_29 rfl ?_
  refine k_lookup (t := 183) (off := 153) dX7_work_30 (by decide) (by decide) (by decide) ?_
  refine al0 (n := 184) dX7_work_183 rfl ?_
  refine il2 (n := 185) dX7_work_184 rfl ?_
  refine k_iconst (a := 0) (n := 186) dX7_work_185 rfl rfl ?_
  refine il3 (n := 187) dX7_work_186 rfl ?_
  refine il4 (n := 189) dX7_work_187 rfl ?_
  refine qiX7_28 (n := 192) dX7_work_189 rfl rfl (Nat.le_of_ble_eq_true rfl) (by omega) rfl (c_s0_0 (by omega) (n + 1) e (uA_1 I n 20) (by omega) (by omega) x) (Nat.le_refl _) (Nat.le_refl _) ?_
  refine k_iconst (a := 3) (n := 193) dX7_work_192 rfl rfl ?_
  refine k_imul (n := 194) dX7_work_193 rfl ?_
  refine k_ireturn (ty := .int) dX7_work_194 rfl rfl (Nat.le_refl _) (Nat.le_refl _) ?_
  exact ⟨by simp only [uA_ne _ _ _ (show (2 : Nat) ≠ 1 by decide), uA_ne _ _ _ (show (3 : Nat) ≠ 1 by decide), uA_ne _ _ _ (show (4 : Nat) ≠ 1 by decide), uL_ne (show (2 : Nat) ≠ 1 by decide), uL_ne (show (3 : Nat) ≠ 1 by decide), uL_ne (show (4 : Nat) ≠ 1 by decide)]; rfl, by simp only [uA_ne _ _ _ (show (2 : Nat) ≠ 1 by decide), uA_ne _ _ _ (show (3 : Nat) ≠ 1 by decide), uA_ne _ _ _ (show (4 : Nat) ≠ 1 by decide), uL_ne (show (2 : Nat) ≠ 1 by decide), uL_ne (show (3 : Nat) ≠ 1 by decide), uL_ne (show (4 : Nat) ≠ 1 by decide)]; rfl⟩
theorem c_s0_1 (hd : 6 ≤ d) (n e : Nat) (h1 : I 69 1 = nI n) (hn : n + 2 ≤ 40) (he : e + 6 ≤ 40)  (x : Int32) : Ct E d mX7_say 0 0 [.ref 69, .int 1, .int 0, .int x, .int (nI e)] (kJ I) (kR (vC 1 (I 69 3) x).1 (uL I n (vC 1 (I 69 3) x).2)) := c_say 1 0 e 1 x (by decide) (by decide) (by omega) (by omega) (by decide) (c_w20 (by omega) n (e + 1) h1 (by omega) (by omega) x)
theorem c_s0_2 (hd : 6 ≤ d) (n e : Nat) (h1 : I 69 1 = nI n) (hn : n + 2 ≤ 40) (he : e + 6 ≤ 40)  (x : Int32) : Ct E d mX7_say 0 0 [.ref 69, .int 2, .int 0, .int x, .int (nI e)] (kJ I) (kR (vC 2 (I 69 3) x).1 (uL I n (vC 2 (I 69 3) x).2)) := c_say 2 0 e 0 x (by decide) (by decide) (by omega) (by omega) (by decide) (c_w10 (by omega) n (e + 1) h1 (by omega) (by omega) x)
theorem c_s0_3 (hd : 6 ≤ d) (n e : Nat) (h1 : I 69 1 = nI n) (hn : n + 2 ≤ 40) (he : e + 6 ≤ 40)  (x : Int32) : Ct E d mX7_say 0 0 [.ref 69, .int 3, .int 0, .int x, .int (nI e)] (kJ I) (kR (vC 3 (I 69 3) x).1 (uL I n (vC 3 (I 69 3) x).2)) := c_say 3 0 e 0 x (by decide) (by decide) (by omega) (by omega) (by decide) (c_w10 (by omega) n (e + 1) h1 (by omega) (by omega) x)
theorem c_s0_4 (hd : 6 ≤ d) (n e : Nat) (h1 : I 69 1 = nI n) (hn : n + 2 ≤ 40) (he : e + 6 ≤ 40)  (x : Int32) : Ct E d mX7_say 0 0 [.ref 69, .int 4, .int 0, .int x, .int (nI e)] (kJ I) (kR (vC 4 (I 69 3) x).1 (uL I n (vC 4 (I 69 3) x).2)) := c_say 4 0 e 1 x (by decide) (by decide) (by omega) (by omega) (by decide) (c_w20 (by omega) n (e + 1) h1 (by omega) (by omega) x)
theorem c_s0_5 (hd : 6 ≤ d) (n e : Nat) (h1 : I 69 1 = nI n) (hn : n + 2 ≤ 40) (he : e + 6 ≤ 40)  (x : Int32) : Ct E d mX7_say 0 0 [.ref 69, .int 5, .int 0, .int x, .int (nI e)] (kJ I) (kR (vC 5 (I 69 3) x).1 (uL I n (vC 5 (I 69 3) x).2)) := c_say 5 0 e 0 x (by decide) (by decide) (by omega) (by omega) (by decide) (c_w10 (by omega) n (e + 1) h1 (by omega) (by omega) x)
theorem c_s0_6 (hd : 6 ≤ d) (n e : Nat) (h1 : I 69 1 = nI n) (hn : n + 2 ≤ 40) (he : e + 6 ≤ 40)  (x : Int32) : Ct E d mX7_say 0 0 [.ref 69, .int 6, .int 0, .int x, .int (nI e)] (kJ I) (kR (vC 6 (I 69 3) x).1 (uL I n (vC 6 (I 69 3) x).2)) := c_say 6 0 e 0 x (by decide) (by decide) (by omega) (by omega) (by decide) (c_w10 (by omega) n (e + 1) h1 (by omega) (by omega) x)
theorem c_s0 (hd : 6 ≤ d) (n e : Nat) (h1 : I 69 1 = nI n) (hn : n + 2 ≤ 40) (he : e + 6 ≤ 40)  (c : Nat) (hc : c < 7) (x : Int32) : Ct E d mX7_say 0 0 [.ref 69, .int (nI c), .int 0, .int x, .int (nI e)] (kJ I) (kR (vC c (I 69 3) x).1 (uL I n (vC c (I 69 3) x).2)) := by
  rcases (show c = 0 ∨ c = 1 ∨ c = 2 ∨ c = 3 ∨ c = 4 ∨ c = 5 ∨ c = 6 by omega) with rfl | rfl | rfl | rfl | rfl | rfl | rfl
  · exact c_s0_0 (by omega) n e h1 (by omega) (by omega) x
  · exact c_s0_1 (by omega) n e h1 (by omega) (by omega) x
  · exact c_s0_2 (by omega) n e h1 (by omega) (by omega) x
  · exact c_s0_3 (by omega) n e h1 (by omega) (by omega) x
  · exact c_s0_4 (by omega) n e h1 (by omega) (by omega) x
  · exact c_s0_5 (by omega) n e h1 (by omega) (by omega) x
  · exact c_s0_6 (by omega) n e h1 (by omega) (by omega) x
set_option maxHeartbeats 2000000 in
set_option maxRecDepth 20000 in
theorem c_w12 (hd : 1 ≤ d) (n e : Nat) (h1 : I 69 1 = nI n) (hn : n + 1 ≤ 40) (he : e + 1 ≤ 40)  (x : Int32) : Ct E d mX7_work 0 0 [.ref 69, .int 12, .int (-1), .int x, .int (nI e)] (kJ I) (kR (vT 0 (I 69 3) (I 69 4) x).1 (uL I n (vT 0 (I 69 3) (I 69 4) x).2)) := by
  refine Ct.of (L := [some (.ref 69), some (.int 12), some (.int (-1)), some (.int x), some (.int (nI e))]) rfl rfl (Nat.le_of_ble_eq_true rfl) ?_
  refine c_wpre n e (by omega) h1 12 (-1) x _ ?_
  refine il1 (n := 30) dX7_work_29 rfl ?_
  refine k_lookup (t := 150) (off := 120) dX7_work_30 (by decide) (by decide) (by decide) ?_
  refine il3 (n := 151) dX7_work_150 rfl ?_
  refine al0 (n := 152) dX7_work_151 rfl ?_
  refine gX7_22 (n := 155) dX7_work_152 rfl rfl rfl ?_
  refine k_isub (n := 156) dX7_work_155 rfl ?_
  refine k_ireturn (ty := .int) dX7_work_156 rfl rfl (Nat.le_refl _) (Nat.le_refl _) ?_
  exact ⟨by rw [uA_ne _ _ _ (by decide)]; rfl, rfl⟩
theorem c_s2_0 (hd : 3 ≤ d) (n e : Nat) (h1 : I 69 1 = nI n) (hn : n + 1 ≤ 40) (he : e + 2 ≤ 40)  (x : Int32) : Ct E d mX7_say 0 0 [.ref 69, .int 0, .int 2, .int x, .int (nI e)] (kJ I) (kR (vT 0 (I 69 3) (I 69 4) x).1 (uL I n (vT 0 (I 69 3) (I 69 4) x).2)) := c_say 0 2 e 0 x (by decide) (by decide) (by omega) (by omega) (by decide) (c_w12 (by omega) n (e + 1) h1 (by omega) (by omega) x)
set_option maxHeartbeats 2000000 in
set_option maxRecDepth 20000 in
theorem c_w40 (hd : 4 ≤ d) (n e : Nat) (h1 : I 69 1 = nI n) (hn : n + 2 ≤ 40) (he : e + 4 ≤ 40)  (x : Int32) : Ct E d mX7_work 0 0 [.ref 69, .int 40, .int 0, .int x, .int (nI e)] (kJ I) (kR (vT 3 (I 69 3) (I 69 4) x).1 (uL I n (vT 3 (I 69 3) (I 69 4) x).2)) := by
  refine Ct.of (L := [some (.ref 69), some (.int 40), some (.int 0), some (.int x), some (.int (nI e))]) rfl rfl (Nat.le_of_ble_eq_true rfl) ?_
  refine c_wpre n e (by omega) h1 40 0 x _ ?_
  refine il1 (n := 30) dX7_work_29 rfl ?_
  refine k_lookup (t := 218) (off := 188) dX7_work_30 (by decide) (by decide) (by decide) ?_
  refine al0 (n := 219) dX7_work_218 rfl ?_
  refine il2 (n := 220) dX7_work_219 rfl ?_
  refine k_iconst (a := 2) (n := 221) dX7_work_220 rfl rfl ?_
  refine il3 (n := 222) dX7_work_221 rfl ?_
  refine il4 (n := 224) dX7_work_222 rfl ?_
  refine qiX7_28 (n := 227) dX7_work_224 rfl rfl (Nat.le_of_ble_eq_true rfl) (by omega) rfl (c_s2_0 (by omega) (n + 1) e (uA_1 I n 40) (by omega) (by omega) x) (Nat.le_refl _) (Nat.le_refl _) ?_
  refine k_ineg (n := 228) dX7_work_227 rfl ?_
  refine k_ireturn (ty := .int) dX7_work_228 rfl rfl (Nat.le_refl _) (Nat.le_refl _) ?_
  exact ⟨by simp only [uA_ne _ _ _ (show (2 : Nat) ≠ 1 by decide), uA_ne _ _ _ (show (3 : Nat) ≠ 1 by decide), uA_ne _ _ _ (show (4 : Nat) ≠ 1 by decide), uL_ne (show (2 : Nat) ≠ 1 by decide), uL_ne (show (3 : Nat) ≠ 1 by decide), uL_ne (show (4 : Nat) ≠ 1 by decide)]; rfl, by simp only [uA_ne _ _ _ (show (2 : Nat) ≠ 1 by decide), uA_ne _ _ _ (show (3 : Nat) ≠ 1 by decide), uA_ne _ _ _ (show (4 : Nat) ≠ 1 by decide), uL_ne (show (2 : Nat) ≠ 1 by decide), uL_ne (show (3 : Nat) ≠ 1 by decide), uL_ne (show (4 : Nat) ≠ 1 by decide)]; rfl⟩
theorem c_s2_3 (hd : 6 ≤ d) (n e : Nat) (h1 : I 69 1 = nI n) (hn : n + 2 ≤ 40) (he : e + 6 ≤ 40)  (x : Int32) : Ct E d mX7_say 0 0 [.ref 69, .int 3, .int 2, .int x, .int (nI e)] (kJ I) (kR (vT 3 (I 69 3) (I 69 4) x).1 (uL I n (vT 3 (I 69 3) (I 69 4) x).2)) := c_say 3 2 e 3 x (by decide) (by decide) (by omega) (by omega) (by decide) (c_w40 (by omega) n (e + 1) h1 (by omega) (by omega) x)
set_option maxHeartbeats 2000000 in
set_option maxRecDepth 20000 in
theorem c_w70 (hd : 7 ≤ d) (n e : Nat) (h1 : I 69 1 = nI n) (hn : n + 3 ≤ 40) (he : e + 8 ≤ 40)  (x : Int32) : Ct E d mX7_work 0 0 [.ref 69, .int 70, .int 3, .int x, .int (nI e)] (kJ I) (kR (vT 6 (I 69 3) (I 69 4) x).1 (uL I n (vT 6 (I 69 3) (I 69 4) x).2)) := by
  refine Ct.of (L := [some (.ref 69), some (.int 70), some (.int 3), some (.int x), some (.int (nI e))]) rfl rfl (Nat.le_of_ble_eq_true rfl) ?_
  refine c_wpre n e (by omega) h1 70 3 x _ ?_
  refine il1 (n := 30) dX7_work_29 rfl ?_
  refine k_lookup (t := 264) (off := 234) dX7_work_30 (by decide) (by decide) (by decide) ?_
  refine al0 (n := 265) dX7_work_264 rfl ?_
  refine il2 (n := 266) dX7_work_265 rfl ?_
  refine k_iconst (a := 2) (n := 267) dX7_work_266 rfl rfl ?_
  refine il3 (n := 268) dX7_work_267 rfl ?_
  refine il4 (n := 270) dX7_work_268 rfl ?_
  refine qiX7_28 (n := 273) dX7_work_270 rfl rfl (Nat.le_of_ble_eq_true rfl) (by omega) rfl (c_s2_3 (by omega) (n + 1) e (uA_1 I n 70) (by omega) (by omega) x) (Nat.le_refl _) (Nat.le_refl _) ?_
  refine al0 (n := 274) dX7_work_273 rfl ?_
  refine gX7_19 (n := 277) dX7_work_274 rfl rfl rfl ?_
  refine k_ixor (n := 278) dX7_work_277 rfl ?_
  refine k_ireturn (ty := .int) dX7_work_278 rfl rfl (Nat.le_refl _) (Nat.le_refl _) ?_
  exact ⟨by simp only [uA_ne _ _ _ (show (2 : Nat) ≠ 1 by decide), uA_ne _ _ _ (show (3 : Nat) ≠ 1 by decide), uA_ne _ _ _ (show (4 : Nat) ≠ 1 by decide), uL_ne (show (2 : Nat) ≠ 1 by decide), uL_ne (show (3 : Nat) ≠ 1 by decide), uL_ne (show (4 : Nat) ≠ 1 by decide)]; rfl, by simp only [uA_ne _ _ _ (show (2 : Nat) ≠ 1 by decide), uA_ne _ _ _ (show (3 : Nat) ≠ 1 by decide), uA_ne _ _ _ (show (4 : Nat) ≠ 1 by decide), uL_ne (show (2 : Nat) ≠ 1 by decide), uL_ne (show (3 : Nat) ≠ 1 by decide), uL_ne (show (4 : Nat) ≠ 1 by decide)]; rfl⟩
theorem c_s2_1 (hd : 9 ≤ d) (n e : Nat) (h1 : I 69 1 = nI n) (hn : n + 3 ≤ 40) (he : e + 10 ≤ 40)  (x : Int32) : Ct E d mX7_say 0 0 [.ref 69, .int 1, .int 2, .int x, .int (nI e)] (kJ I) (kR (vT 1 (I 69 3) (I 69 4) x).1 (uL I n (vT 1 (I 69 3) (I 69 4) x).2)) := c_say 1 2 e 0 x (by decide) (by decide) (by omega) (by omega) (by decide) (c_w12 (by omega) n (e + 1) h1 (by omega) (by omega) x)
theorem c_s2_2 (hd : 9 ≤ d) (n e : Nat) (h1 : I 69 1 = nI n) (hn : n + 3 ≤ 40) (he : e + 10 ≤ 40)  (x : Int32) : Ct E d mX7_say 0 0 [.ref 69, .int 2, .int 2, .int x, .int (nI e)] (kJ I) (kR (vT 2 (I 69 3) (I 69 4) x).1 (uL I n (vT 2 (I 69 3) (I 69 4) x).2)) := c_say 2 2 e 0 x (by decide) (by decide) (by omega) (by omega) (by decide) (c_w12 (by omega) n (e + 1) h1 (by omega) (by omega) x)
theorem c_s2_4 (hd : 9 ≤ d) (n e : Nat) (h1 : I 69 1 = nI n) (hn : n + 3 ≤ 40) (he : e + 10 ≤ 40)  (x : Int32) : Ct E d mX7_say 0 0 [.ref 69, .int 4, .int 2, .int x, .int (nI e)] (kJ I) (kR (vT 4 (I 69 3) (I 69 4) x).1 (uL I n (vT 4 (I 69 3) (I 69 4) x).2)) := c_say 4 2 e 0 x (by decide) (by decide) (by omega) (by omega) (by decide) (c_w12 (by omega) n (e + 1) h1 (by omega) (by omega) x)
theorem c_s2_5 (hd : 9 ≤ d) (n e : Nat) (h1 : I 69 1 = nI n) (hn : n + 3 ≤ 40) (he : e + 10 ≤ 40)  (x : Int32) : Ct E d mX7_say 0 0 [.ref 69, .int 5, .int 2, .int x, .int (nI e)] (kJ I) (kR (vT 5 (I 69 3) (I 69 4) x).1 (uL I n (vT 5 (I 69 3) (I 69 4) x).2)) := c_say 5 2 e 0 x (by decide) (by decide) (by omega) (by omega) (by decide) (c_w12 (by omega) n (e + 1) h1 (by omega) (by omega) x)
theorem c_s2_6 (hd : 9 ≤ d) (n e : Nat) (h1 : I 69 1 = nI n) (hn : n + 3 ≤ 40) (he : e + 10 ≤ 40)  (x : Int32) : Ct E d mX7_say 0 0 [.ref 69, .int 6, .int 2, .int x, .int (nI e)] (kJ I) (kR (vT 6 (I 69 3) (I 69 4) x).1 (uL I n (vT 6 (I 69 3) (I 69 4) x).2)) := c_say 6 2 e 6 x (by decide) (by decide) (by omega) (by omega) (by decide) (c_w70 (by omega) n (e + 1) h1 (by omega) (by omega) x)
theorem c_s2 (hd : 9 ≤ d) (n e : Nat) (h1 : I 69 1 = nI n) (hn : n + 3 ≤ 40) (he : e + 10 ≤ 40)  (c : Nat) (hc : c < 7) (x : Int32) : Ct E d mX7_say 0 0 [.ref 69, .int (nI c), .int 2, .int x, .int (nI e)] (kJ I) (kR (vT c (I 69 3) (I 69 4) x).1 (uL I n (vT c (I 69 3) (I 69 4) x).2)) := by
  rcases (show c = 0 ∨ c = 1 ∨ c = 2 ∨ c = 3 ∨ c = 4 ∨ c = 5 ∨ c = 6 by omega) with rfl | rfl | rfl | rfl | rfl | rfl | rfl
  · exact c_s2_0 (by omega) n e h1 (by omega) (by omega) x
  · exact c_s2_1 (by omega) n e h1 (by omega) (by omega) x
  · exact c_s2_2 (by omega) n e h1 (by omega) (by omega) x
  · exact c_s2_3 (by omega) n e h1 (by omega) (by omega) x
  · exact c_s2_4 (by omega) n e h1 (by omega) (by omega) x
  · exact c_s2_5 (by omega) n e h1 (by omega) (by omega) x
  · exact c_s2_6 (by omega) n e h1 (by omega) (by omega) x
set_option maxHeartbeats 2000000 in
set_option maxRecDepth 20000 in
theorem c_w11 (hd : 7 ≤ d) (n e : Nat) (h1 : I 69 1 = nI n) (hn : n + 3 ≤ 40) (he : e + 8 ≤ 40) (k : Nat) (hk : k < 7) (h2 : I 69 2 = nI k) (x : Int32) : Ct E d mX7_work 0 0 [.ref 69, .int 11, .int (-1), .int x, .int (nI e)] (kJ I) (kR (vJ0 k (I 69 3) x).1 (uL I n (vJ0 k (I 69 3) x).2)) := by
  refine Ct.of (L := [some (.ref 69), some (.int 11), some (.int (-1)), some (.int x), some (.int (nI e))]) rfl rfl (Nat.le_of_ble_eq_true rfl) ?_
  refine c_wpre n e (by omega) h1 11 (-1) x _ ?_
  refine il1 (n := 30) dX7_work_29 rfl ?_
  refine k_lookup (t := 135) (off := 105) dX7_work_30 (by decide) (by decide) (by decide) ?_
  refine al0 (n := 136) dX7_work_135 rfl ?_
  refine al0 (n := 137) dX7_work_136 rfl ?_
  refine gX7_15 (n := 140) dX7_work_137 rfl rfl rfl ?_
  refine k_top ((uA_ne I n 11 (show (2 : Nat) ≠ 1 by decide)).trans h2) ?_
  refine k_iconst (a := 0) (n := 141) dX7_work_140 rfl rfl ?_
  refine il3 (n := 142) dX7_work_141 rfl ?_
  refine il4 (n := 144) dX7_work_142 rfl ?_
  refine qiX7_28 (n := 147) dX7_work_144 rfl rfl (Nat.le_of_ble_eq_true rfl) (by omega) rfl (c_s0 (by omega) (n + 1) e (uA_1 I n 11) (by omega) (by omega) k hk x) (Nat.le_refl _) (Nat.le_refl _) ?_
  refine k_iconst (a := 2) (n := 148) dX7_work_147 rfl rfl ?_
  refine k_imul (n := 149) dX7_work_148 rfl ?_
  refine k_ireturn (ty := .int) dX7_work_149 rfl rfl (Nat.le_refl _) (Nat.le_refl _) ?_
  exact ⟨by simp only [vJ0, uA_ne _ _ _ (show (2 : Nat) ≠ 1 by decide), uA_ne _ _ _ (show (3 : Nat) ≠ 1 by decide), uA_ne _ _ _ (show (4 : Nat) ≠ 1 by decide), uL_ne (show (2 : Nat) ≠ 1 by decide), uL_ne (show (3 : Nat) ≠ 1 by decide), uL_ne (show (4 : Nat) ≠ 1 by decide)], by simp only [vJ0, uA_ne _ _ _ (show (2 : Nat) ≠ 1 by decide), uA_ne _ _ _ (show (3 : Nat) ≠ 1 by decide), uA_ne _ _ _ (show (4 : Nat) ≠ 1 by decide), uL_ne (show (2 : Nat) ≠ 1 by decide), uL_ne (show (3 : Nat) ≠ 1 by decide), uL_ne (show (4 : Nat) ≠ 1 by decide)]; rfl⟩
theorem c_s1_0 (hd : 9 ≤ d) (n e : Nat) (h1 : I 69 1 = nI n) (hn : n + 3 ≤ 40) (he : e + 10 ≤ 40) (k : Nat) (hk : k < 7) (h2 : I 69 2 = nI k) (x : Int32) : Ct E d mX7_say 0 0 [.ref 69, .int 0, .int 1, .int x, .int (nI e)] (kJ I) (kR (vJ0 k (I 69 3) x).1 (uL I n (vJ0 k (I 69 3) x).2)) := c_say 0 1 e 0 x (by decide) (by decide) (by omega) (by omega) (by decide) (c_w11 (by omega) n (e + 1) h1 (by omega) (by omega) k hk h2 x)
set_option maxHeartbeats 2000000 in
set_option maxRecDepth 20000 in
theorem c_w30 (hd : 10 ≤ d) (n e : Nat) (h1 : I 69 1 = nI n) (hn : n + 7 ≤ 40) (he : e + 12 ≤ 40) (k : Nat) (hk : k < 7) (h2 : I 69 2 = nI k) (x : Int32) : Ct E d mX7_work 0 0 [.ref 69, .int 30, .int 0, .int x, .int (nI e)] (kJ I) (kR (vJ2 k (I 69 3) (I 69 4) x).1 (uL I n (vJ2 k (I 69 3) (I 69 4) x).2)) := by
  refine Ct.of (L := [some (.ref 69), some (.int 30), some (.int 0), some (.int x), some (.int (nI e))]) rfl rfl (Nat.le_of_ble_eq_true rfl) ?_
  refine c_wpre n e (by omega) h1 30 0 x _ ?_
  refine il1 (n := 30) dX7_work_29 rfl ?_
  refine k_lookup (t := 195) (off := 165) dX7_work_30 (by decide) (by decide) (by decide) ?_
  refine al0 (n := 196) dX7_work_195 rfl ?_
  refine il2 (n := 197) dX7_work_196 rfl ?_
  refine k_iconst (a := 1) (n := 198) dX7_work_197 rfl rfl ?_
  refine il3 (n := 199) dX7_work_198 rfl ?_
  refine il4 (n := 201) dX7_work_199 rfl ?_
  refine qiX7_28 (n := 204) dX7_work_201 rfl rfl (Nat.le_of_ble_eq_true rfl) (by omega) rfl (c_s1_0 (by omega) (n + 1) e (uA_1 I n 30) (by omega) (by omega) k hk ((uA_ne I n 30 (show (2 : Nat) ≠ 1 by decide)).trans h2) x) (Nat.le_refl _) (Nat.le_refl _) ?_
  refine al0 (n := 205) dX7_work_204 rfl ?_
  refine al0 (n := 206) dX7_work_205 rfl ?_
  refine gX7_15 (n := 209) dX7_work_206 rfl rfl rfl ?_
  refine k_top ((uL_ne (show (2 : Nat) ≠ 1 by decide) _ _ _).trans ((uA_ne I n 30 (show (2 : Nat) ≠ 1 by decide)).trans h2)) ?_
  refine k_iconst (a := 2) (n := 210) dX7_work_209 rfl rfl ?_
  refine k_iconst (a := 1) (n := 211) dX7_work_210 rfl rfl ?_
  refine il4 (n := 213) dX7_work_211 rfl ?_
  refine qiX7_28 (n := 216) dX7_work_213 rfl rfl (Nat.le_of_ble_eq_true rfl) (by omega) rfl (c_s2 (by omega) (n + 1 + (vJ0 k (uA I n 30 69 3) x).2.length) e (uL_1 _ _ _ (uA_1 I n 30)) (by have := vJ0_len k (uA I n 30 69 3) x; omega) (by omega) k hk 1) (Nat.le_refl _) (Nat.le_refl _) ?_
  refine k_isub (n := 217) dX7_work_216 rfl ?_
  refine k_ireturn (ty := .int) dX7_work_217 rfl rfl (Nat.le_refl _) (Nat.le_refl _) ?_
  exact ⟨by simp only [vJ2, uA_ne _ _ _ (show (2 : Nat) ≠ 1 by decide), uA_ne _ _ _ (show (3 : Nat) ≠ 1 by decide), uA_ne _ _ _ (show (4 : Nat) ≠ 1 by decide), uL_ne (show (2 : Nat) ≠ 1 by decide), uL_ne (show (3 : Nat) ≠ 1 by decide), uL_ne (show (4 : Nat) ≠ 1 by decide)], by rw [uL_app]; simp only [vJ2, uA_ne _ _ _ (show (2 : Nat) ≠ 1 by decide), uA_ne _ _ _ (show (3 : Nat) ≠ 1 by decide), uA_ne _ _ _ (show (4 : Nat) ≠ 1 by decide), uL_ne (show (2 : Nat) ≠ 1 by decide), uL_ne (show (3 : Nat) ≠ 1 by decide), uL_ne (show (4 : Nat) ≠ 1 by decide)]; rfl⟩
theorem c_s1_2 (hd : 12 ≤ d) (n e : Nat) (h1 : I 69 1 = nI n) (hn : n + 7 ≤ 40) (he : e + 14 ≤ 40) (k : Nat) (hk : k < 7) (h2 : I 69 2 = nI k) (x : Int32) : Ct E d mX7_say 0 0 [.ref 69, .int 2, .int 1, .int x, .int (nI e)] (kJ I) (kR (vJ2 k (I 69 3) (I 69 4) x).1 (uL I n (vJ2 k (I 69 3) (I 69 4) x).2)) := c_say 2 1 e 2 x (by decide) (by decide) (by omega) (by omega) (by decide) (c_w30 (by omega) n (e + 1) h1 (by omega) (by omega) k hk h2 x)
set_option maxHeartbeats 2000000 in
set_option maxRecDepth 20000 in
theorem c_w60 (hd : 13 ≤ d) (n e : Nat) (h1 : I 69 1 = nI n) (hn : n + 8 ≤ 40) (he : e + 16 ≤ 40) (k : Nat) (hk : k < 7) (h2 : I 69 2 = nI k) (x : Int32) : Ct E d mX7_work 0 0 [.ref 69, .int 60, .int 2, .int x, .int (nI e)] (kJ I) (kR (vJ k 5 (I 69 3) (I 69 4) x).1 (uL I n (vJ k 5 (I 69 3) (I 69 4) x).2)) := by
  refine Ct.of (L := [some (.ref 69), some (.int 60), some (.int 2), some (.int x), some (.int (nI e))]) rfl rfl (Nat.le_of_ble_eq_true rfl) ?_
  refine c_wpre n e (by omega) h1 60 2 x _ ?_
  refine il1 (n := 30) dX7_work_29 rfl ?_
  refine k_lookup (t := 252) (off := 222) dX7_work_30 (by decide) (by decide) (by decide) ?_
  refine al0 (n := 253) dX7_work_252 rfl ?_
  refine il2 (n := 254) dX7_work_253 rfl ?_
  refine k_iconst (a := 1) (n := 255) dX7_work_254 rfl rfl ?_
  refine il3 (n := 256) dX7_work_255 rfl ?_
  refine k_iconst (a := 1) (n := 257) dX7_work_256 rfl rfl ?_
  refine k_iadd (n := 258) dX7_work_257 rfl ?_
  refine il4 (n := 260) dX7_work_258 rfl ?_
  refine qiX7_28 (n := 263) dX7_work_260 rfl rfl (Nat.le_of_ble_eq_true rfl) (by omega) rfl (c_s1_2 (by omega) (n + 1) e (uA_1 I n 60) (by omega) (by omega) k hk ((uA_ne I n 60 (show (2 : Nat) ≠ 1 by decide)).trans h2) (x + 1)) (Nat.le_refl _) (Nat.le_refl _) ?_
  refine k_ireturn (ty := .int) dX7_work_263 rfl rfl (Nat.le_refl _) (Nat.le_refl _) ?_
  exact ⟨by simp only [uA_ne _ _ _ (show (2 : Nat) ≠ 1 by decide), uA_ne _ _ _ (show (3 : Nat) ≠ 1 by decide), uA_ne _ _ _ (show (4 : Nat) ≠ 1 by decide), uL_ne (show (2 : Nat) ≠ 1 by decide), uL_ne (show (3 : Nat) ≠ 1 by decide), uL_ne (show (4 : Nat) ≠ 1 by decide)]; rfl, by simp only [uA_ne _ _ _ (show (2 : Nat) ≠ 1 by decide), uA_ne _ _ _ (show (3 : Nat) ≠ 1 by decide), uA_ne _ _ _ (show (4 : Nat) ≠ 1 by decide), uL_ne (show (2 : Nat) ≠ 1 by decide), uL_ne (show (3 : Nat) ≠ 1 by decide), uL_ne (show (4 : Nat) ≠ 1 by decide)]; rfl⟩
theorem c_s1_1 (hd : 15 ≤ d) (n e : Nat) (h1 : I 69 1 = nI n) (hn : n + 8 ≤ 40) (he : e + 18 ≤ 40) (k : Nat) (hk : k < 7) (h2 : I 69 2 = nI k) (x : Int32) : Ct E d mX7_say 0 0 [.ref 69, .int 1, .int 1, .int x, .int (nI e)] (kJ I) (kR (vJ k 1 (I 69 3) (I 69 4) x).1 (uL I n (vJ k 1 (I 69 3) (I 69 4) x).2)) := c_say 1 1 e 0 x (by decide) (by decide) (by omega) (by omega) (by decide) (c_w11 (by omega) n (e + 1) h1 (by omega) (by omega) k hk h2 x)
theorem c_s1_3 (hd : 15 ≤ d) (n e : Nat) (h1 : I 69 1 = nI n) (hn : n + 8 ≤ 40) (he : e + 18 ≤ 40) (k : Nat) (hk : k < 7) (h2 : I 69 2 = nI k) (x : Int32) : Ct E d mX7_say 0 0 [.ref 69, .int 3, .int 1, .int x, .int (nI e)] (kJ I) (kR (vJ k 3 (I 69 3) (I 69 4) x).1 (uL I n (vJ k 3 (I 69 3) (I 69 4) x).2)) := c_say 3 1 e 0 x (by decide) (by decide) (by omega) (by omega) (by decide) (c_w11 (by omega) n (e + 1) h1 (by omega) (by omega) k hk h2 x)
theorem c_s1_4 (hd : 15 ≤ d) (n e : Nat) (h1 : I 69 1 = nI n) (hn : n + 8 ≤ 40) (he : e + 18 ≤ 40) (k : Nat) (hk : k < 7) (h2 : I 69 2 = nI k) (x : Int32) : Ct E d mX7_say 0 0 [.ref 69, .int 4, .int 1, .int x, .int (nI e)] (kJ I) (kR (vJ k 4 (I 69 3) (I 69 4) x).1 (uL I n (vJ k 4 (I 69 3) (I 69 4) x).2)) := c_say 4 1 e 0 x (by decide) (by decide) (by omega) (by omega) (by decide) (c_w11 (by omega) n (e + 1) h1 (by omega) (by omega) k hk h2 x)
theorem c_s1_5 (hd : 15 ≤ d) (n e : Nat) (h1 : I 69 1 = nI n) (hn : n + 8 ≤ 40) (he : e + 18 ≤ 40) (k : Nat) (hk : k < 7) (h2 : I 69 2 = nI k) (x : Int32) : Ct E d mX7_say 0 0 [.ref 69, .int 5, .int 1, .int x, .int (nI e)] (kJ I) (kR (vJ k 5 (I 69 3) (I 69 4) x).1 (uL I n (vJ k 5 (I 69 3) (I 69 4) x).2)) := c_say 5 1 e 5 x (by decide) (by decide) (by omega) (by omega) (by decide) (c_w60 (by omega) n (e + 1) h1 (by omega) (by omega) k hk h2 x)
theorem c_s1_6 (hd : 15 ≤ d) (n e : Nat) (h1 : I 69 1 = nI n) (hn : n + 8 ≤ 40) (he : e + 18 ≤ 40) (k : Nat) (hk : k < 7) (h2 : I 69 2 = nI k) (x : Int32) : Ct E d mX7_say 0 0 [.ref 69, .int 6, .int 1, .int x, .int (nI e)] (kJ I) (kR (vJ k 6 (I 69 3) (I 69 4) x).1 (uL I n (vJ k 6 (I 69 3) (I 69 4) x).2)) := c_say 6 1 e 0 x (by decide) (by decide) (by omega) (by omega) (by decide) (c_w11 (by omega) n (e + 1) h1 (by omega) (by omega) k hk h2 x)
theorem c_s1 (hd : 15 ≤ d) (n e : Nat) (h1 : I 69 1 = nI n) (hn : n + 8 ≤ 40) (he : e + 18 ≤ 40) (k : Nat) (hk : k < 7) (h2 : I 69 2 = nI k) (c : Nat) (hc : c < 7) (x : Int32) : Ct E d mX7_say 0 0 [.ref 69, .int (nI c), .int 1, .int x, .int (nI e)] (kJ I) (kR (vJ k c (I 69 3) (I 69 4) x).1 (uL I n (vJ k c (I 69 3) (I 69 4) x).2)) := by
  rcases (show c = 0 ∨ c = 1 ∨ c = 2 ∨ c = 3 ∨ c = 4 ∨ c = 5 ∨ c = 6 by omega) with rfl | rfl | rfl | rfl | rfl | rfl | rfl
  · exact c_s1_0 (by omega) n e h1 (by omega) (by omega) k hk h2 x
  · exact c_s1_1 (by omega) n e h1 (by omega) (by omega) k hk h2 x
  · exact c_s1_2 (by omega) n e h1 (by omega) (by omega) k hk h2 x
  · exact c_s1_3 (by omega) n e h1 (by omega) (by omega) k hk h2 x
  · exact c_s1_4 (by omega) n e h1 (by omega) (by omega) k hk h2 x
  · exact c_s1_5 (by omega) n e h1 (by omega) (by omega) k hk h2 x
  · exact c_s1_6 (by omega) n e h1 (by omega) (by omega) k hk h2 x
set_option maxHeartbeats 2000000 in
set_option maxRecDepth 20000 in
theorem c_w13 (hd : 16 ≤ d) (n e : Nat) (h1 : I 69 1 = nI n) (hn : n + 12 ≤ 40) (he : e + 20 ≤ 40) (k : Nat) (hk : k < 7) (h2 : I 69 2 = nI k) (x : Int32) : Ct E d mX7_work 0 0 [.ref 69, .int 13, .int (-1), .int x, .int (nI e)] (kJ I) (kR (vR0 k (I 69 3) (I 69 4) x).1 (uL I n (vR0 k (I 69 3) (I 69 4) x).2)) := by
  refine Ct.of (L := [some (.ref 69), some (.int 13), some (.int (-1)), some (.int x), some (.int (nI e))]) rfl rfl (Nat.le_of_ble_eq_true rfl) ?_
  refine c_wpre n e (by omega) h1 13 (-1) x _ ?_
  refine il1 (n := 30) dX7_work_29 rfl ?_
  refine k_lookup (t := 157) (off := 127) dX7_work_30 (by decide) (by decide) (by decide) ?_
  refine al0 (n := 158) dX7_work_157 rfl ?_
  refine al0 (n := 159) dX7_work_158 rfl ?_
  refine gX7_15 (n := 162) dX7_work_159 rfl rfl rfl ?_
  refine k_top ((uA_ne I n 13 (show (2 : Nat) ≠ 1 by decide)).trans h2) ?_
  refine k_iconst (a := 1) (n := 163) dX7_work_162 rfl rfl ?_
  refine il3 (n := 164) dX7_work_163 rfl ?_
  refine il4 (n := 166) dX7_work_164 rfl ?_
  refine qiX7_28 (n := 169) dX7_work_166 rfl rfl (Nat.le_of_ble_eq_true rfl) (by omega) rfl (c_s1 (by omega) (n + 1) e (uA_1 I n 13) (by omega) (by omega) k hk ((uA_ne I n 13 (show (2 : Nat) ≠ 1 by decide)).trans h2) k hk x) (Nat.le_refl _) (Nat.le_refl _) ?_
  refine al0 (n := 170) dX7_work_169 rfl ?_
  refine al0 (n := 171) dX7_work_170 rfl ?_
  refine gX7_15 (n := 174) dX7_work_171 rfl rfl rfl ?_
  refine k_top ((uL_ne (show (2 : Nat) ≠ 1 by decide) _ _ _).trans ((uA_ne I n 13 (show (2 : Nat) ≠ 1 by decide)).trans h2)) ?_
  refine k_iconst (a := 2) (n := 175) dX7_work_174 rfl rfl ?_
  refine il3 (n := 176) dX7_work_175 rfl ?_
  refine il4 (n := 178) dX7_work_176 rfl ?_
  refine qiX7_28 (n := 181) dX7_work_178 rfl rfl (Nat.le_of_ble_eq_true rfl) (by omega) rfl (c_s2 (by omega) (n + 1 + (vJ k k (uA I n 13 69 3) (uA I n 13 69 4) x).2.length) e (uL_1 _ _ _ (uA_1 I n 13)) (by have := vJ_len k k (uA I n 13 69 3) (uA I n 13 69 4) x; omega) (by omega) k hk x) (Nat.le_refl _) (Nat.le_refl _) ?_
  refine k_ixor (n := 182) dX7_work_181 rfl ?_
  refine k_ireturn (ty := .int) dX7_work_182 rfl rfl (Nat.le_refl _) (Nat.le_refl _) ?_
  exact ⟨by simp only [vR0, uA_ne _ _ _ (show (2 : Nat) ≠ 1 by decide), uA_ne _ _ _ (show (3 : Nat) ≠ 1 by decide), uA_ne _ _ _ (show (4 : Nat) ≠ 1 by decide), uL_ne (show (2 : Nat) ≠ 1 by decide), uL_ne (show (3 : Nat) ≠ 1 by decide), uL_ne (show (4 : Nat) ≠ 1 by decide)], by rw [uL_app]; simp only [vR0, uA_ne _ _ _ (show (2 : Nat) ≠ 1 by decide), uA_ne _ _ _ (show (3 : Nat) ≠ 1 by decide), uA_ne _ _ _ (show (4 : Nat) ≠ 1 by decide), uL_ne (show (2 : Nat) ≠ 1 by decide), uL_ne (show (3 : Nat) ≠ 1 by decide), uL_ne (show (4 : Nat) ≠ 1 by decide)]; rfl⟩
theorem c_s3_0 (hd : 18 ≤ d) (n e : Nat) (h1 : I 69 1 = nI n) (hn : n + 12 ≤ 40) (he : e + 22 ≤ 40) (k : Nat) (hk : k < 7) (h2 : I 69 2 = nI k) (x : Int32) : Ct E d mX7_say 0 0 [.ref 69, .int 0, .int 3, .int x, .int (nI e)] (kJ I) (kR (vR0 k (I 69 3) (I 69 4) x).1 (uL I n (vR0 k (I 69 3) (I 69 4) x).2)) := c_say 0 3 e 0 x (by decide) (by decide) (by omega) (by omega) (by decide) (c_w13 (by omega) n (e + 1) h1 (by omega) (by omega) k hk h2 x)
theorem c_s3_1 (hd : 18 ≤ d) (n e : Nat) (h1 : I 69 1 = nI n) (hn : n + 12 ≤ 40) (he : e + 22 ≤ 40) (k : Nat) (hk : k < 7) (h2 : I 69 2 = nI k) (x : Int32) : Ct E d mX7_say 0 0 [.ref 69, .int 1, .int 3, .int x, .int (nI e)] (kJ I) (kR (vR0 k (I 69 3) (I 69 4) x).1 (uL I n (vR0 k (I 69 3) (I 69 4) x).2)) := c_say 1 3 e 0 x (by decide) (by decide) (by omega) (by omega) (by decide) (c_w13 (by omega) n (e + 1) h1 (by omega) (by omega) k hk h2 x)
theorem c_s3_3 (hd : 18 ≤ d) (n e : Nat) (h1 : I 69 1 = nI n) (hn : n + 12 ≤ 40) (he : e + 22 ≤ 40) (k : Nat) (hk : k < 7) (h2 : I 69 2 = nI k) (x : Int32) : Ct E d mX7_say 0 0 [.ref 69, .int 3, .int 3, .int x, .int (nI e)] (kJ I) (kR (vR0 k (I 69 3) (I 69 4) x).1 (uL I n (vR0 k (I 69 3) (I 69 4) x).2)) := c_say 3 3 e 0 x (by decide) (by decide) (by omega) (by omega) (by decide) (c_w13 (by omega) n (e + 1) h1 (by omega) (by omega) k hk h2 x)
set_option maxHeartbeats 2000000 in
set_option maxRecDepth 20000 in
theorem c_w50 (hd : 19 ≤ d) (n e : Nat) (h1 : I 69 1 = nI n) (hn : n + 15 ≤ 40) (he : e + 24 ≤ 40) (k : Nat) (hk : k < 7) (h2 : I 69 2 = nI k) (x : Int32) : Ct E d mX7_work 0 0 [.ref 69, .int 50, .int 1, .int x, .int (nI e)] (kJ I) (kR (vRu k 4 (I 69 3) (I 69 4) x).1 (uL I n (vRu k 4 (I 69 3) (I 69 4) x).2)) := by
  refine Ct.of (L := [some (.ref 69), some (.int 50), some (.int 1), some (.int x), some (.int (nI e))]) rfl rfl (Nat.le_of_ble_eq_true rfl) ?_
  refine c_wpre n e (by omega) h1 50 1 x _ ?_
  refine il1 (n := 30) dX7_work_29 rfl ?_
  refine k_lookup (t := 229) (off := 199) dX7_work_30 (by decide) (by decide) (by decide) ?_
  refine al0 (n := 230) dX7_work_229 rfl ?_
  refine il2 (n := 231) dX7_work_230 rfl ?_
  refine k_iconst (a := 3) (n := 232) dX7_work_231 rfl rfl ?_
  refine il3 (n := 233) dX7_work_232 rfl ?_
  refine il4 (n := 235) dX7_work_233 rfl ?_
  refine qiX7_28 (n := 238) dX7_work_235 rfl rfl (Nat.le_of_ble_eq_true rfl) (by omega) rfl (c_s3_1 (by omega) (n + 1) e (uA_1 I n 50) (by omega) (by omega) k hk ((uA_ne I n 50 (show (2 : Nat) ≠ 1 by decide)).trans h2) x) (Nat.le_refl _) (Nat.le_refl _) ?_
  refine al0 (n := 239) dX7_work_238 rfl ?_
  refine al0 (n := 240) dX7_work_239 rfl ?_
  refine gX7_15 (n := 243) dX7_work_240 rfl rfl rfl ?_
  refine k_top ((uL_ne (show (2 : Nat) ≠ 1 by decide) _ _ _).trans ((uA_ne I n 50 (show (2 : Nat) ≠ 1 by decide)).trans h2)) ?_
  refine k_iconst (a := 0) (n := 244) dX7_work_243 rfl rfl ?_
  refine k_iconst (a := 2) (n := 245) dX7_work_244 rfl rfl ?_
  refine il4 (n := 247) dX7_work_245 rfl ?_
  refine qiX7_28 (n := 250) dX7_work_247 rfl rfl (Nat.le_of_ble_eq_true rfl) (by omega) rfl (c_s0 (by omega) (n + 1 + (vR0 k (uA I n 50 69 3) (uA I n 50 69 4) x).2.length) e (uL_1 _ _ _ (uA_1 I n 50)) (by have := vR0_len k (uA I n 50 69 3) (uA I n 50 69 4) x; omega) (by omega) k hk 2) (Nat.le_refl _) (Nat.le_refl _) ?_
  refine k_isub (n := 251) dX7_work_250 rfl ?_
  refine k_ireturn (ty := .int) dX7_work_251 rfl rfl (Nat.le_refl _) (Nat.le_refl _) ?_
  exact ⟨by simp only [uA_ne _ _ _ (show (2 : Nat) ≠ 1 by decide), uA_ne _ _ _ (show (3 : Nat) ≠ 1 by decide), uA_ne _ _ _ (show (4 : Nat) ≠ 1 by decide), uL_ne (show (2 : Nat) ≠ 1 by decide), uL_ne (show (3 : Nat) ≠ 1 by decide), uL_ne (show (4 : Nat) ≠ 1 by decide)]; rfl, by rw [uL_app]; simp only [uA_ne _ _ _ (show (2 : Nat) ≠ 1 by decide), uA_ne _ _ _ (show (3 : Nat) ≠ 1 by decide), uA_ne _ _ _ (show (4 : Nat) ≠ 1 by decide), uL_ne (show (2 : Nat) ≠ 1 by decide), uL_ne (show (3 : Nat) ≠ 1 by decide), uL_ne (show (4 : Nat) ≠ 1 by decide)]; rfl⟩
set_option maxHeartbeats 2000000 in
set_option maxRecDepth 20000 in
theorem c_w71 (hd : 19 ≤ d) (n e : Nat) (h1 : I 69 1 = nI n) (hn : n + 21 ≤ 40) (he : e + 24 ≤ 40) (k : Nat) (hk : k < 7) (h2 : I 69 2 = nI k) (x : Int32) : Ct E d mX7_work 0 0 [.ref 69, .int 71, .int 3, .int x, .int (nI e)] (kJ I) (kR (vRu k 6 (I 69 3) (I 69 4) x).1 (uL I n (vRu k 6 (I 69 3) (I 69 4) x).2)) := by
  refine Ct.of (L := [some (.ref 69), some (.int 71), some (.int 3), some (.int x), some (.int (nI e))]) rfl rfl (Nat.le_of_ble_eq_true rfl) ?_
  refine c_wpre n e (by omega) h1 71 3 x _ ?_
  refine il1 (n := 30) dX7_work_29 rfl ?_
  refine k_lookup (t := 279) (off := 249) dX7_work_30 (by decide) (by decide) (by decide) ?_
  refine al0 (n := 280) dX7_work_279 rfl ?_
  refine al0 (n := 281) dX7_work_280 rfl ?_
  refine gX7_15 (n := 284) dX7_work_281 rfl rfl rfl ?_
  refine k_top ((uA_ne I n 71 (show (2 : Nat) ≠ 1 by decide)).trans h2) ?_
  refine k_iconst (a := 1) (n := 285) dX7_work_284 rfl rfl ?_
  refine il3 (n := 286) dX7_work_285 rfl ?_
  refine il4 (n := 288) dX7_work_286 rfl ?_
  refine qiX7_28 (n := 291) dX7_work_288 rfl rfl (Nat.le_of_ble_eq_true rfl) (by omega) rfl (c_s1 (by omega) (n + 1) e (uA_1 I n 71) (by omega) (by omega) k hk ((uA_ne I n 71 (show (2 : Nat) ≠ 1 by decide)).trans h2) k hk x) (Nat.le_refl _) (Nat.le_refl _) ?_
  refine al0 (n := 292) dX7_work_291 rfl ?_
  refine il2 (n := 293) dX7_work_292 rfl ?_
  refine k_iconst (a := 3) (n := 294) dX7_work_293 rfl rfl ?_
  refine il3 (n := 295) dX7_work_294 rfl ?_
  refine il4 (n := 297) dX7_work_295 rfl ?_
  refine qiX7_28 (n := 300) dX7_work_297 rfl rfl (Nat.le_of_ble_eq_true rfl) (by omega) rfl (c_s3_3 (by omega) (n + 1 + (vJ k k (uA I n 71 69 3) (uA I n 71 69 4) x).2.length) e (uL_1 _ _ _ (uA_1 I n 71)) (by have := vJ_len k k (uA I n 71 69 3) (uA I n 71 69 4) x; omega) (by omega) k hk ((uL_ne (show (2 : Nat) ≠ 1 by decide) _ _ _).trans ((uA_ne I n 71 (show (2 : Nat) ≠ 1 by decide)).trans h2)) x) (Nat.le_refl _) (Nat.le_refl _) ?_
  refine k_isub (n := 301) dX7_work_300 rfl ?_
  refine k_ireturn (ty := .int) dX7_work_301 rfl rfl (Nat.le_refl _) (Nat.le_refl _) ?_
  exact ⟨by simp only [uA_ne _ _ _ (show (2 : Nat) ≠ 1 by decide), uA_ne _ _ _ (show (3 : Nat) ≠ 1 by decide), uA_ne _ _ _ (show (4 : Nat) ≠ 1 by decide), uL_ne (show (2 : Nat) ≠ 1 by decide), uL_ne (show (3 : Nat) ≠ 1 by decide), uL_ne (show (4 : Nat) ≠ 1 by decide)]; rfl, by rw [uL_app]; simp only [uA_ne _ _ _ (show (2 : Nat) ≠ 1 by decide), uA_ne _ _ _ (show (3 : Nat) ≠ 1 by decide), uA_ne _ _ _ (show (4 : Nat) ≠ 1 by decide), uL_ne (show (2 : Nat) ≠ 1 by decide), uL_ne (show (3 : Nat) ≠ 1 by decide), uL_ne (show (4 : Nat) ≠ 1 by decide)]; rfl⟩
theorem c_s3_2 (hd : 21 ≤ d) (n e : Nat) (h1 : I 69 1 = nI n) (hn : n + 21 ≤ 40) (he : e + 26 ≤ 40) (k : Nat) (hk : k < 7) (h2 : I 69 2 = nI k) (x : Int32) : Ct E d mX7_say 0 0 [.ref 69, .int 2, .int 3, .int x, .int (nI e)] (kJ I) (kR (vRu k 2 (I 69 3) (I 69 4) x).1 (uL I n (vRu k 2 (I 69 3) (I 69 4) x).2)) := c_say 2 3 e 0 x (by decide) (by decide) (by omega) (by omega) (by decide) (c_w13 (by omega) n (e + 1) h1 (by omega) (by omega) k hk h2 x)
theorem c_s3_4 (hd : 21 ≤ d) (n e : Nat) (h1 : I 69 1 = nI n) (hn : n + 21 ≤ 40) (he : e + 26 ≤ 40) (k : Nat) (hk : k < 7) (h2 : I 69 2 = nI k) (x : Int32) : Ct E d mX7_say 0 0 [.ref 69, .int 4, .int 3, .int x, .int (nI e)] (kJ I) (kR (vRu k 4 (I 69 3) (I 69 4) x).1 (uL I n (vRu k 4 (I 69 3) (I 69 4) x).2)) := c_say 4 3 e 4 x (by decide) (by decide) (by omega) (by omega) (by decide) (c_w50 (by omega) n (e + 1) h1 (by omega) (by omega) k hk h2 x)
theorem c_s3_5 (hd : 21 ≤ d) (n e : Nat) (h1 : I 69 1 = nI n) (hn : n + 21 ≤ 40) (he : e + 26 ≤ 40) (k : Nat) (hk : k < 7) (h2 : I 69 2 = nI k) (x : Int32) : Ct E d mX7_say 0 0 [.ref 69, .int 5, .int 3, .int x, .int (nI e)] (kJ I) (kR (vRu k 5 (I 69 3) (I 69 4) x).1 (uL I n (vRu k 5 (I 69 3) (I 69 4) x).2)) := c_say 5 3 e 0 x (by decide) (by decide) (by omega) (by omega) (by decide) (c_w13 (by omega) n (e + 1) h1 (by omega) (by omega) k hk h2 x)
theorem c_s3_6 (hd : 21 ≤ d) (n e : Nat) (h1 : I 69 1 = nI n) (hn : n + 21 ≤ 40) (he : e + 26 ≤ 40) (k : Nat) (hk : k < 7) (h2 : I 69 2 = nI k) (x : Int32) : Ct E d mX7_say 0 0 [.ref 69, .int 6, .int 3, .int x, .int (nI e)] (kJ I) (kR (vRu k 6 (I 69 3) (I 69 4) x).1 (uL I n (vRu k 6 (I 69 3) (I 69 4) x).2)) := c_say 6 3 e 6 x (by decide) (by decide) (by omega) (by omega) (by decide) (c_w71 (by omega) n (e + 1) h1 (by omega) (by omega) k hk h2 x)
theorem c_s3 (hd : 21 ≤ d) (n e : Nat) (h1 : I 69 1 = nI n) (hn : n + 21 ≤ 40) (he : e + 26 ≤ 40) (k : Nat) (hk : k < 7) (h2 : I 69 2 = nI k) (c : Nat) (hc : c < 7) (x : Int32) : Ct E d mX7_say 0 0 [.ref 69, .int (nI c), .int 3, .int x, .int (nI e)] (kJ I) (kR (vRu k c (I 69 3) (I 69 4) x).1 (uL I n (vRu k c (I 69 3) (I 69 4) x).2)) := by
  rcases (show c = 0 ∨ c = 1 ∨ c = 2 ∨ c = 3 ∨ c = 4 ∨ c = 5 ∨ c = 6 by omega) with rfl | rfl | rfl | rfl | rfl | rfl | rfl
  · exact c_s3_0 (by omega) n e h1 (by omega) (by omega) k hk h2 x
  · exact c_s3_1 (by omega) n e h1 (by omega) (by omega) k hk h2 x
  · exact c_s3_2 (by omega) n e h1 (by omega) (by omega) k hk h2 x
  · exact c_s3_3 (by omega) n e h1 (by omega) (by omega) k hk h2 x
  · exact c_s3_4 (by omega) n e h1 (by omega) (by omega) k hk h2 x
  · exact c_s3_5 (by omega) n e h1 (by omega) (by omega) k hk h2 x
  · exact c_s3_6 (by omega) n e h1 (by omega) (by omega) k hk h2 x
theorem c_sayA (hd : 21 ≤ d) (e : Nat) (h1 : I 69 1 = nI 0) (he : e + 26 ≤ 40) (k : Nat) (hk : k < 7) (h2 : I 69 2 = nI k) (a : Nat) (ha : a < 4) (x : Int32) : Ct E d mX7_say 0 0 [.ref 69, .int (nI k), .int (nI a), .int x, .int (nI e)] (kJ I) (kR (vAct a k (I 69 3) (I 69 4) x).1 (uL I 0 (vAct a k (I 69 3) (I 69 4) x).2)) := by
  rcases (show a = 0 ∨ a = 1 ∨ a = 2 ∨ a = 3 by omega) with rfl | rfl | rfl | rfl
  · exact c_s0 (by omega) 0 e h1 (by omega) (by omega) k hk x
  · exact c_s1 (by omega) 0 e h1 (by omega) (by omega) k hk h2 k hk x
  · exact c_s2 (by omega) 0 e h1 (by omega) (by omega) k hk x
  · exact c_s3 (by omega) 0 e h1 (by omega) (by omega) k hk h2 k hk x
def uO (I : Nat → Nat → Int32) (k N M : Int32) : Nat → Int32 := upd (upd (upd (upd (I 69) 2 k) 3 N) 4 M) 1 0
def z_voice (I : Nat → Nat → Int32) (r : Nat → Int32) (v a x : Int32) : Int32 × (Nat → Nat → Int32) :=
  if 0 ≤ v ∧ v ≤ r 9 - 1 then (if 0 ≤ a ∧ a ≤ 3 then
    ((vAct a.toNatClampNeg (r (29 + 7 * v.toNatClampNeg)).toNatClampNeg v (r (29 + 7 * v.toNatClampNeg + 1)) x).1, uL (kset I 69 (uO I (r (29 + 7 * v.toNatClampNeg)) v (r (29 + 7 * v.toNatClampNeg + 1)))) 0 (vAct a.toNatClampNeg (r (29 + 7 * v.toNatClampNeg)).toNatClampNeg v (r (29 + 7 * v.toNatClampNeg + 1)) x).2)
    else (-1000000001, kerC I 1)) else (-1000000001, kerC I 1)
set_option maxHeartbeats 2000000 in
set_option maxRecDepth 20000 in
theorem c_speak (hd : 22 ≤ d) (k : Nat) (hk : k < 7) (N M : Int32) (a : Nat) (ha : a < 4) (x : Int32) : Ct E d mX7_speak 0 0 [.ref 69, .int (nI k), .int N, .int M, .int (nI a), .int x] (kJ I) (kR (vAct a k N M x).1 (uL (kset I 69 (uO I (nI k) N M)) 0 (vAct a k N M x).2)) := by
  refine Ct.of (L := [some (.ref 69), some (.int (nI k)), some (.int N), some (.int M), some (.int (nI a)), some (.int x)]) rfl rfl (Nat.le_of_ble_eq_true rfl) ?_
  refine al0 (n := 1) dX7_speak_0 rfl ?_
  refine il1 (n := 2) dX7_speak_1 rfl ?_
  refine pX7_15 (n := 5) dX7_speak_2 rfl rfl rfl ?_
  refine k_gen (fun I1 e1 => ?_)
  refine al0 (n := 6) dX7_speak_5 rfl ?_
  refine il2 (n := 7) dX7_speak_6 rfl ?_
  refine pX7_19 (n := 10) dX7_speak_7 rfl rfl rfl ?_
  refine k_gen (fun I2 e2 => ?_)
  refine al0 (n := 11) dX7_speak_10 rfl ?_
  refine il3 (n := 12) dX7_speak_11 rfl ?_
  refine pX7_22 (n := 15) dX7_speak_12 rfl rfl rfl ?_
  refine k_gen (fun I3 e3 => ?_)
  refine al0 (n := 16) dX7_speak_15 rfl ?_
  refine k_iconst (a := 0) (n := 17) dX7_speak_16 rfl rfl ?_
  refine pX7_25 (n := 20) dX7_speak_17 rfl rfl rfl ?_
  refine k_gen (fun I4 e4 => ?_)
  refine al0 (n := 21) dX7_speak_20 rfl ?_
  refine il1 (n := 22) dX7_speak_21 rfl ?_
  refine il4 (n := 24) dX7_speak_22 rfl ?_
  refine il5 (n := 26) dX7_speak_24 rfl ?_
  refine k_iconst (a := 0) (n := 27) dX7_speak_26 rfl rfl ?_
  have ev : I4 = kset I 69 (uO I (nI k) N M) := by rw [← e4, ← e3, ← e2, ← e1]; simp only [kset_same, kset_kset]; rfl
  rw [ev]
  refine qiX7_28 (n := 30) dX7_speak_27 rfl rfl (Nat.le_of_ble_eq_true rfl) (by omega) rfl (c_sayA (I := kset I 69 (uO I (nI k) N M)) (by omega) 0 (by rw [kset_same]; rfl) (by omega) k hk (by rw [kset_same]; rfl) a ha x) (Nat.le_refl _) (Nat.le_refl _) ?_
  refine k_ireturn (ty := .int) dX7_speak_30 rfl rfl (Nat.le_refl _) (Nat.le_refl _) ?_
  exact ⟨by rw [kset_same]; rfl, by rw [kset_same]; rfl⟩
set_option maxHeartbeats 2000000 in
set_option maxRecDepth 20000 in
theorem c_voice (hd : 24 ≤ d) (hC : CR I r c t) (hR : RI r) (v a x : Int32) : Ct E d mX8_voice 0 0 [.ref 0, .int v, .int a, .int x] (kJ I) (kR (z_voice I r v a x).1 (z_voice I r v a x).2) := by
  have hb := hC.bl
  have h8 := hb.c8
  refine Ct.of (L := [some (.ref 0), some (.int v), some (.int a), some (.int x), none]) rfl rfl (Nat.le_of_ble_eq_true rfl) ?_
  refine al0 (n := 1) dX8_voice_0 rfl ?_
  refine il1 (n := 2) dX8_voice_1 rfl ?_
  refine qiX8_136 (n := 5) dX8_voice_2 rfl rfl (Nat.le_of_ble_eq_true rfl) (by omega) rfl (c_isCrosser (by omega) hb _) (Nat.le_refl _) (Nat.le_refl _) ?_
  refine k_ifb_eq (t := 17) (n := 8) dX8_voice_5 (by decide) rfl (fun h5 => ?_) (fun h5 => ?_)
  · refine al0 (n := 18) dX8_voice_17 rfl ?_
    refine k_iconst (a := 1) (n := 19) dX8_voice_18 rfl rfl ?_
    refine qiX8_69 (n := 22) dX8_voice_19 rfl rfl (Nat.le_of_ble_eq_true rfl) (by omega) rfl (c_refuse1 (by omega)) (Nat.le_refl _) (Nat.le_refl _) ?_
    refine k_ireturn (ty := .int) dX8_voice_22 rfl rfl (Nat.le_refl _) (Nat.le_refl _) ?_
    exact ⟨by simp only [z_voice, if_neg h5], by simp only [z_voice, if_neg h5]⟩
  · obtain ⟨j, hj, rfl⟩ := kixc hb h5
    obtain ⟨k, hk, hk7⟩ := hR.kind (j := j) (by omega)
    refine il2 (n := 9) dX8_voice_8 rfl ?_
    refine k_iconst (a := 0) (n := 10) dX8_voice_9 rfl rfl ?_
    refine k_iconst (a := 3) (n := 11) dX8_voice_10 rfl rfl ?_
    refine qiX8_65 (n := 14) dX8_voice_11 rfl rfl (Nat.le_of_ble_eq_true rfl) (by omega) (c_within _ _ _) (Nat.le_refl _) (Nat.le_refl _) ?_
    refine k_ifb_ne (t := 23) (n := 17) dX8_voice_14 (by decide) rfl (fun h14 => ?_) (fun h14 => ?_)
    · obtain ⟨w, -, hw, rfl⟩ := kbt (a := 0) (b := 3) h14 (by decide) (by decide)
      refine al0 (n := 24) dX8_voice_23 rfl ?_
      refine gX8_10 (n := 27) dX8_voice_24 rfl rfl rfl rfl ?_
      refine gX8_73 (n := 30) dX8_voice_27 rfl rfl rfl rfl ?_
      refine gX8_139 (n := 33) dX8_voice_30 rfl rfl (hS0 (Or.inl rfl)) (hP4 (Or.inl rfl)) ?_
      refine il1 (n := 34) dX8_voice_33 rfl ?_
      refine j_aald (j := j) (n := 35) dX8_voice_34 rfl (hS3 (Or.inl rfl)) hOC rfl (by omega) (by decide) (hP6 (Or.inl rfl) (by omega)) ?_
      refine as4 (n := 37) dX8_voice_35 rfl trivial ?_
      refine al0 (n := 38) dX8_voice_37 rfl ?_
      refine gX8_51 (n := 41) dX8_voice_38 rfl rfl rfl rfl ?_
      refine al4 (n := 43) dX8_voice_41 rfl ?_
      refine gX8_143 (n := 46) dX8_voice_43 rfl rfl (hS8 (Or.inl rfl) (by omega)) ?_
      refine k_top ((BL.cr0 hb hj).trans hk) ?_
      refine il1 (n := 47) dX8_voice_46 rfl ?_
      refine al4 (n := 49) dX8_voice_47 rfl ?_
      refine gX8_148 (n := 52) dX8_voice_49 rfl rfl (hS8 (Or.inl rfl) (by omega)) ?_
      refine k_top (BL.cr hb hj (j := 1) (by decide)) ?_
      refine il2 (n := 53) dX8_voice_52 rfl ?_
      refine il3 (n := 54) dX8_voice_53 rfl ?_
      refine qiX8_297 (n := 57) dX8_voice_54 rfl rfl (Nat.le_of_ble_eq_true rfl) (by omega) rfl (c_speak (by omega) k hk7 _ _ w (by omega) x) (Nat.le_refl _) (Nat.le_refl _) ?_
      refine k_ireturn (ty := .int) dX8_voice_57 rfl rfl (Nat.le_refl _) (Nat.le_refl _) ?_
      exact ⟨by simp only [z_voice, hk, kcl (show k < 1000 by omega), if_pos h5, kcl (show j < 1000 by omega), if_pos h14, kcl (show w < 1000 by omega)], by simp only [z_voice, hk, kcl (show k < 1000 by omega), if_pos h5, kcl (show j < 1000 by omega), if_pos h14, kcl (show w < 1000 by omega)]⟩
    · refine al0 (n := 18) dX8_voice_17 rfl ?_
      refine k_iconst (a := 1) (n := 19) dX8_voice_18 rfl rfl ?_
      refine qiX8_69 (n := 22) dX8_voice_19 rfl rfl (Nat.le_of_ble_eq_true rfl) (by omega) rfl (c_refuse1 (by omega)) (Nat.le_refl _) (Nat.le_refl _) ?_
      refine k_ireturn (ty := .int) dX8_voice_22 rfl rfl (Nat.le_refl _) (Nat.le_refl _) ?_
      exact ⟨by simp only [z_voice, if_pos h5, kcl (show j < 1000 by omega), if_neg h14], by simp only [z_voice, if_pos h5, kcl (show j < 1000 by omega), if_neg h14]⟩
end C13

/-- THE COMPONENT. The law's code, as numbers: a row of what lies on the stack and how many -/
abbrev cS : Type := (Nat → Int32) × Nat
def jnF (s x y : Int32) : Int32 := if s = 124 then kb (¬ x = 0 ∨ ¬ y = 0) else if s = 38 then kb (¬ x = 0 ∧ ¬ y = 0) else if s = 60 then kb (x < y) else if s = 61 then kb (x = y) else if s = 62 then kb (y < x) else if s = 43 then x + y else if s = 45 then x - y else if s = 42 then x * y else if s = 47 then (if y = 0 then 0 else x / y) else (if y = 0 then 0 else x - x / y * y)
def stpF (a b c i : Int32) (s : cS) : cS :=
  if -3 ≤ i ∧ s.2 < 50 then (upd s.1 s.2 (if 0 ≤ i then i else if i = -1 then a else if i = -2 then b else c), s.2 + 1)
  else if i = -33 ∧ 1 ≤ s.2 then (upd s.1 (s.2 - 1) (kb (s.1 (s.2 - 1) = 0)), s.2)
  else if 2 ≤ s.2 then (upd s.1 (s.2 - 2) (jnF (-i) (s.1 (s.2 - 2)) (s.1 (s.2 - 1))), s.2 - 1) else s
def runF (g : Nat → Int32) (a b c : Int32) (s : cS) : Nat → cS
  | 0 => s
  | n + 1 => stpF a b c (g n) (runF g a b c s n)
/-- an item of code is a number, a name, or a sign -/
def okI (i : Int32) : Prop := -3 ≤ i ∨ i = -33 ∨ ∃ s, -i = nI s ∧ (s = 37 ∨ s = 38 ∨ s = 42 ∨ s = 43 ∨ s = 45 ∨ s = 47 ∨ s = 60 ∨ s = 61 ∨ s = 62 ∨ s = 124)
/-- a law's cells give what the row's text gives -/
def LW (K : Nat) (I : Nat → Nat → Int32) (r : Nat → Int32) (u : Nat) : Prop := I (K + 1 + 3 * u) 2 = (if u = 0 then 1 else 0) ∧ I (K + 1 + 3 * u) 3 = (if u = 0 then 9 else 1) ∧ ∃ n, n ≤ 50 ∧ I (K + 1 + 3 * u) 4 = nI n ∧ (∀ i, i < n → okI (I (K + 2 + 3 * u) i)) ∧ ∀ (s : Nat → Int32) (a b c : Int32), heldF ((runF (I (K + 2 + 3 * u)) a b c (s, 0) n).1 0) (if u = 0 then 1 else 0) (if u = 0 then 9 else 1) = lawF r u a b c
def LK (K : Nat) (I : Nat → Nat → Int32) (r : Nat → Int32) : Prop := LW K I r 0 ∧ LW K I r 1
/-- a border's cells hold the row's numbers -/
def BR (B : Nat) (I : Nat → Nat → Int32) (r : Nat → Int32) (c t : Nat) : Prop :=
  (r 9 = nI c ∧ c ≤ 8 ∧ r 8 = nI t ∧ t ≤ 4) ∧ (I B 5 = r 3 ∧ I B 6 = r 1 ∧ I B 7 = r 10 ∧ I B 8 = r 0 ∧ I B 9 = r 8 ∧ I B 10 = r 11 ∧ I B 11 = r 9 ∧ I B 12 = r 12) ∧ (∀ p, p < 8 → I (B + 1) p = r (13 + p)) ∧ (∀ i, i < t → I (B + 4 + i) 0 = r (21 + 2 * i) ∧ I (B + 4 + i) 1 = r (21 + 2 * i + 1)) ∧ (∀ i, i < c → ∀ j, j < 7 → I (B + 8 + i) j = r (29 + 7 * i + j))
def BL (B : Nat) (I : Nat → Nat → Int32) (r : Nat → Int32) (c t : Nat) : Prop := BR B I r c t ∧ LK 1 I r
def BB (B : Nat) : Prop := B = 8 ∨ B = 51
def FB (B : Nat) (I J : Nat → Nat → Int32) : Prop := ∀ k, k ≠ B → k ≠ B + 1 → ¬ (B + 4 ≤ k ∧ k < B + 16) → k ≠ 4 → k ≠ 7 → J k = I k
theorem FB.rf (B : Nat) (I : Nat → Nat → Int32) : FB B I I := fun _ _ _ _ _ _ => rfl
theorem FB.tr {B : Nat} {I J K : Nat → Nat → Int32} (h : FB B I J) (g : FB B J K) : FB B I K := fun k a b c d e => (g k a b c d e).trans (h k a b c d e)
theorem FB.b {B : Nat} {I J : Nat → Nat → Int32} {f : Nat → Int32} (e : kset I B f = J) : FB B I J := fun k a _ _ _ _ => by rw [← e, kset_ne _ _ a]
theorem FB.w {B : Nat} {I J : Nat → Nat → Int32} {f : Nat → Int32} (e : kset I (B + 1) f = J) : FB B I J := fun k _ a _ _ _ => by rw [← e, kset_ne _ _ a]
theorem FB.t {B i : Nat} {I J : Nat → Nat → Int32} {f : Nat → Int32} (hi : i < 4) (e : kset I (B + 4 + i) f = J) : FB B I J := fun k _ _ a _ _ => by rw [← e, kset_ne _ _ (by omega)]
theorem FB.c {B i : Nat} {I J : Nat → Nat → Int32} {f : Nat → Int32} (hi : i < 8) (e : kset I (B + 8 + i) f = J) : FB B I J := fun k _ _ a _ _ => by rw [← e, kset_ne _ _ (by omega)]
theorem FB.s {B u : Nat} {I J : Nat → Nat → Int32} {f : Nat → Int32} (hu : u < 2) (e : kset I (4 + 3 * u) f = J) : FB B I J := fun k _ _ _ a b => by rw [← e, kset_ne _ _ (by omega)]
theorem BL.f5 {B : Nat} {I : Nat → Nat → Int32} {r : Nat → Int32} {c t : Nat} (h : BL B I r c t) : I B 5 = r 3 := h.1.2.1.1
theorem BL.f6 {B : Nat} {I : Nat → Nat → Int32} {r : Nat → Int32} {c t : Nat} (h : BL B I r c t) : I B 6 = r 1 := h.1.2.1.2.1
theorem BL.f7 {B : Nat} {I : Nat → Nat → Int32} {r : Nat → Int32} {c t : Nat} (h : BL B I r c t) : I B 7 = r 10 := h.1.2.1.2.2.1
theorem BL.f8 {B : Nat} {I : Nat → Nat → Int32} {r : Nat → Int32} {c t : Nat} (h : BL B I r c t) : I B 8 = r 0 := h.1.2.1.2.2.2.1
theorem BL.f9 {B : Nat} {I : Nat → Nat → Int32} {r : Nat → Int32} {c t : Nat} (h : BL B I r c t) : I B 9 = r 8 := h.1.2.1.2.2.2.2.1
theorem BL.f10 {B : Nat} {I : Nat → Nat → Int32} {r : Nat → Int32} {c t : Nat} (h : BL B I r c t) : I B 10 = r 11 := h.1.2.1.2.2.2.2.2.1
theorem BL.f11 {B : Nat} {I : Nat → Nat → Int32} {r : Nat → Int32} {c t : Nat} (h : BL B I r c t) : I B 11 = r 9 := h.1.2.1.2.2.2.2.2.2.1
theorem BL.f12 {B : Nat} {I : Nat → Nat → Int32} {r : Nat → Int32} {c t : Nat} (h : BL B I r c t) : I B 12 = r 12 := h.1.2.1.2.2.2.2.2.2.2
section BLS
variable {B : Nat} {I J : Nat → Nat → Int32} {r q : Nat → Int32} {c t : Nat}
theorem BL.c9 (h : BL B I r c t) : r 9 = nI c := h.1.1.1
theorem BL.c8 (h : BL B I r c t) : c ≤ 8 := h.1.1.2.1
theorem BL.t8 (h : BL B I r c t) : r 8 = nI t := h.1.1.2.2.1
theorem BL.t4 (h : BL B I r c t) : t ≤ 4 := h.1.1.2.2.2
theorem BL.we (h : BL B I r c t) {p : Nat} (hp : p < 8) : I (B + 1) p = r (13 + p) := h.1.2.2.1 p hp
theorem BL.tu0 (h : BL B I r c t) {i : Nat} (hi : i < t) : I (B + 4 + i) 0 = r (21 + 2 * i) := (h.1.2.2.2.1 i hi).1
theorem BL.tu1 (h : BL B I r c t) {i : Nat} (hi : i < t) : I (B + 4 + i) 1 = r (21 + 2 * i + 1) := (h.1.2.2.2.1 i hi).2
theorem BL.cr (h : BL B I r c t) {i j : Nat} (hi : i < c) (hj : j < 7) : I (B + 8 + i) j = r (29 + 7 * i + j) := h.1.2.2.2.2 i hi j hj
theorem BL.cr0 (h : BL B I r c t) {i : Nat} (hi : i < c) : I (B + 8 + i) 0 = r (29 + 7 * i) := h.1.2.2.2.2 i hi 0 (by decide)
theorem BL.eM (h : BL B I r c t) : sMany r = c := by unfold sMany; rw [h.c9]; exact kcl (by have := h.c8; omega)
theorem BL.eT (h : BL B I r c t) : sTurn r = t := by unfold sTurn; rw [h.t8]; exact kcl (by have := h.t4; omega)
/-- the laws look at the texts alone -/
theorem txB_cg {u : Nat} (h6 : q (6 + u) = r (6 + u)) (h : ∀ k, k < 50 → q (155 + 50 * u + k) = r (155 + 50 * u + k)) (hn : (r (6 + u)).toNatClampNeg ≤ 50) : txB q u = txB r u := by
  funext k
  unfold txB
  rw [h6]
  split
  · exact h k (by omega)
  · rfl
theorem lawF_cg {u : Nat} {x y z : Int32} (hq : ∀ k, (k = 6 ∨ k = 7 ∨ (155 ≤ k ∧ k < 255)) → q k = r k) (hu : u < 2) (hn : (r (6 + u)).toNatClampNeg ≤ 50) : lawF q u x y z = lawF r u x y z := by
  unfold lawF walkF
  rw [txB_cg (hq _ (by omega)) (fun k hk => hq _ (by omega)) hn, hq (6 + u) (by omega)]
theorem RI.tx (hR : RI r) {u : Nat} (hu : u < 2) : (r (6 + u)).toNatClampNeg ≤ 50 := by
  rcases hR.2.2.2.2.2.2.2.2 u hu with h | ⟨n, h, hn⟩
  · rw [h]; decide
  · rw [h, kcl (by omega)]; exact hn
def TX (r : Nat → Int32) : Prop := ∀ u, u < 2 → (r (6 + u)).toNatClampNeg ≤ 50
theorem LK.cg {K : Nat} (h : LK K I r) (hq : ∀ k, (k = 6 ∨ k = 7 ∨ (155 ≤ k ∧ k < 255)) → q k = r k) (hn : TX r) : LK K I q := by
  refine ⟨⟨h.1.1, h.1.2.1, ?_⟩, ⟨h.2.1, h.2.2.1, ?_⟩⟩
  · obtain ⟨n, h1, h2, h4, h3⟩ := h.1.2.2
    exact ⟨n, h1, h2, h4, fun s a b c => by rw [lawF_cg hq (by decide) (hn 0 (by decide))]; exact h3 s a b c⟩
  · obtain ⟨n, h1, h2, h4, h3⟩ := h.2.2.2
    exact ⟨n, h1, h2, h4, fun s a b c => by rw [lawF_cg hq (by decide) (hn 1 (by decide))]; exact h3 s a b c⟩
theorem LK.fr {K : Nat} (h : LK K I r) (h1 : J (K + 1) = I (K + 1)) (h2 : J (K + 2) = I (K + 2)) (h3 : J (K + 4) = I (K + 4)) (h4 : J (K + 5) = I (K + 5)) : LK K J r := by
  unfold LK LW at *
  simp only [Nat.mul_zero, Nat.add_zero, Nat.mul_one, Nat.add_assoc, Nat.reduceAdd] at *
  rw [h1, h2, h3, h4]
  exact h
theorem BL.fr (h : LK 1 I r) (hB : BB B) (hf : FB B I J) : LK 1 J r := by
  rcases hB with rfl | rfl
  · exact h.fr (hf _ (by decide) (by decide) (by decide) (by decide) (by decide)) (hf _ (by decide) (by decide) (by decide) (by decide) (by decide)) (hf _ (by decide) (by decide) (by decide) (by decide) (by decide)) (hf _ (by decide) (by decide) (by decide) (by decide) (by decide))
  · exact h.fr (hf _ (by decide) (by decide) (by decide) (by decide) (by decide)) (hf _ (by decide) (by decide) (by decide) (by decide) (by decide)) (hf _ (by decide) (by decide) (by decide) (by decide) (by decide)) (hf _ (by decide) (by decide) (by decide) (by decide) (by decide))
theorem BL.lk (h : BL B I r c t) (hB : BB B) (hT : TX r) (hf : FB B I J) (hq : ∀ k, (k = 6 ∨ k = 7 ∨ (155 ≤ k ∧ k < 255)) → q k = r k) : LK 1 J q := (BL.fr h.2 hB hf).cg hq hT
theorem TX.u (hT : TX r) {i : Nat} {v : Int32} (h : i ≠ 6 ∧ i ≠ 7) : TX (upd r i v) := fun u hu => by rw [pk_un (by omega)]; exact hT u hu
theorem TX.ob {i : Nat} {v : Int32} (_ : BL B J (upd r i v) c t) (hT : TX r) (h : i ≠ 6 ∧ i ≠ 7) : TX (upd r i v) := hT.u h
theorem BR.st (h : BR B I r c t) {k : Nat} {f : Nat → Int32} (hk : k < B) (h4 : k < B) : BR B (kset I k f) r c t := by
  refine ⟨h.1, ?_, fun p hp => ?_, fun i hi => ?_, fun i hi j hj => ?_⟩
  · rw [kset_ne _ _ (by omega)]; exact h.2.1
  · rw [kset_ne _ _ (by omega)]; exact h.2.2.1 p hp
  · rw [kset_ne _ _ (by omega)]; exact h.2.2.2.1 i hi
  · rw [kset_ne _ _ (by omega)]; exact h.2.2.2.2 i hi j hj
theorem BL.sc (h : BL B I r c t) (hB : BB B) (hT : TX r) {i j : Nat} {v : Int32} (hi : i < c) (hj : j < 7) (e : kset I (B + 8 + i) (upd (I (B + 8 + i)) j v) = J) : BL B J (upd r (29 + 7 * i + j) v) c t := by
  have h8 := h.c8
  have h4 := h.t4
  refine ⟨⟨⟨(pk_un (by omega)).trans h.c9, h8, (pk_un (by omega)).trans h.t8, h4⟩, ?_, fun p hp => ?_, fun k hk => ?_, fun k hk l hl => ?_⟩, h.lk hB hT (FB.c (by omega) e) (fun k hk => pk_un (by omega))⟩
  · rw [← e, kset_ne _ _ (by omega), pk_un (by omega), pk_un (by omega), pk_un (by omega), pk_un (by omega), pk_un (by omega), pk_un (by omega), pk_un (by omega), pk_un (by omega)]
    exact h.1.2.1
  · rw [← e, kset_ne _ _ (by omega), pk_un (by omega)]; exact h.we hp
  · rw [← e, kset_ne _ _ (by omega), pk_un (by omega), pk_un (by omega)]; exact h.1.2.2.2.1 k hk
  · rw [← e]
    by_cases h1 : k = i
    · subst h1
      rw [kset_same]
      by_cases h2 : l = j
      · subst h2; rw [pk_us, pk_us]
      · rw [pk_un h2, pk_un (by omega)]; exact h.cr hk hl
    · rw [kset_ne _ _ (by omega), pk_un (by omega)]; exact h.cr hk hl
theorem BL.sw (h : BL B I r c t) (hB : BB B) (hT : TX r) {i : Nat} {v : Int32} (hi : i < 8) (e : kset I (B + 1) (upd (I (B + 1)) i v) = J) : BL B J (upd r (13 + i) v) c t := by
  have h8 := h.c8
  have h4 := h.t4
  refine ⟨⟨⟨(pk_un (by omega)).trans h.c9, h8, (pk_un (by omega)).trans h.t8, h4⟩, ?_, fun p hp => ?_, fun k hk => ?_, fun k hk l hl => ?_⟩, h.lk hB hT (FB.w e) (fun k hk => pk_un (by omega))⟩
  · rw [← e, kset_ne _ _ (by omega), pk_un (by omega), pk_un (by omega), pk_un (by omega), pk_un (by omega), pk_un (by omega), pk_un (by omega), pk_un (by omega), pk_un (by omega)]
    exact h.1.2.1
  · rw [← e, kset_same]
    by_cases h2 : p = i
    · subst h2; rw [pk_us, pk_us]
    · rw [pk_un h2, pk_un (by omega)]; exact h.we hp
  · rw [← e, kset_ne _ _ (by omega), pk_un (by omega), pk_un (by omega)]; exact h.1.2.2.2.1 k hk
  · rw [← e, kset_ne _ _ (by omega), pk_un (by omega)]; exact h.cr hk hl
theorem BL.st1 (h : BL B I r c t) (hB : BB B) (hT : TX r) {i : Nat} {v : Int32} (hi : i < t) (e : kset I (B + 4 + i) (upd (I (B + 4 + i)) 1 v) = J) : BL B J (upd r (21 + 2 * i + 1) v) c t := by
  have h8 := h.c8
  have h4 := h.t4
  refine ⟨⟨⟨(pk_un (by omega)).trans h.c9, h8, (pk_un (by omega)).trans h.t8, h4⟩, ?_, fun p hp => ?_, fun k hk => ?_, fun k hk l hl => ?_⟩, h.lk hB hT (FB.t (by omega) e) (fun k hk => pk_un (by omega))⟩
  · rw [← e, kset_ne _ _ (by omega), pk_un (by omega), pk_un (by omega), pk_un (by omega), pk_un (by omega), pk_un (by omega), pk_un (by omega), pk_un (by omega), pk_un (by omega)]
    exact h.1.2.1
  · rw [← e, kset_ne _ _ (by omega), pk_un (by omega)]; exact h.we hp
  · rw [← e]
    by_cases h1 : k = i
    · subst h1
      rw [kset_same, pk_un (by omega), pk_un (by omega), pk_us, pk_us]; exact ⟨h.tu0 hk, rfl⟩
    · rw [kset_ne _ _ (by omega), pk_un (by omega), pk_un (by omega)]; exact h.1.2.2.2.1 k hk
  · rw [← e, kset_ne _ _ (by omega), pk_un (by omega)]; exact h.cr hk hl
theorem BL.sf5 (h : BL B I r c t) (hB : BB B) (hT : TX r) {v : Int32} (e : kset I B (upd (I B) 5 v) = J) : BL B J (upd r 3 v) c t := by
  refine ⟨⟨⟨(pk_un (by decide)).trans h.c9, h.c8, (pk_un (by decide)).trans h.t8, h.t4⟩, ?_, fun p hp => ?_, fun k hk => ?_, fun k hk l hl => ?_⟩, h.lk hB hT (FB.b e) (fun k hk => pk_un (by omega))⟩
  · rw [← e, kset_same]
    exact ⟨pk_us.trans pk_us.symm, (pk_un (by decide)).trans (h.f6.trans (pk_un (by decide)).symm), (pk_un (by decide)).trans (h.f7.trans (pk_un (by decide)).symm), (pk_un (by decide)).trans (h.f8.trans (pk_un (by decide)).symm), (pk_un (by decide)).trans (h.f9.trans (pk_un (by decide)).symm), (pk_un (by decide)).trans (h.f10.trans (pk_un (by decide)).symm), (pk_un (by decide)).trans (h.f11.trans (pk_un (by decide)).symm), (pk_un (by decide)).trans (h.f12.trans (pk_un (by decide)).symm)⟩
  · rw [← e, kset_ne _ _ (by omega), pk_un (by omega)]; exact h.we hp
  · rw [← e, kset_ne _ _ (by omega), pk_un (by omega), pk_un (by omega)]; exact h.1.2.2.2.1 k hk
  · rw [← e, kset_ne _ _ (by omega), pk_un (by omega)]; exact h.cr hk hl
theorem BL.sf6 (h : BL B I r c t) (hB : BB B) (hT : TX r) {v : Int32} (e : kset I B (upd (I B) 6 v) = J) : BL B J (upd r 1 v) c t := by
  refine ⟨⟨⟨(pk_un (by decide)).trans h.c9, h.c8, (pk_un (by decide)).trans h.t8, h.t4⟩, ?_, fun p hp => ?_, fun k hk => ?_, fun k hk l hl => ?_⟩, h.lk hB hT (FB.b e) (fun k hk => pk_un (by omega))⟩
  · rw [← e, kset_same]
    exact ⟨(pk_un (by decide)).trans (h.f5.trans (pk_un (by decide)).symm), pk_us.trans pk_us.symm, (pk_un (by decide)).trans (h.f7.trans (pk_un (by decide)).symm), (pk_un (by decide)).trans (h.f8.trans (pk_un (by decide)).symm), (pk_un (by decide)).trans (h.f9.trans (pk_un (by decide)).symm), (pk_un (by decide)).trans (h.f10.trans (pk_un (by decide)).symm), (pk_un (by decide)).trans (h.f11.trans (pk_un (by decide)).symm), (pk_un (by decide)).trans (h.f12.trans (pk_un (by decide)).symm)⟩
  · rw [← e, kset_ne _ _ (by omega), pk_un (by omega)]; exact h.we hp
  · rw [← e, kset_ne _ _ (by omega), pk_un (by omega), pk_un (by omega)]; exact h.1.2.2.2.1 k hk
  · rw [← e, kset_ne _ _ (by omega), pk_un (by omega)]; exact h.cr hk hl
theorem BL.sf7 (h : BL B I r c t) (hB : BB B) (hT : TX r) {v : Int32} (e : kset I B (upd (I B) 7 v) = J) : BL B J (upd r 10 v) c t := by
  refine ⟨⟨⟨(pk_un (by decide)).trans h.c9, h.c8, (pk_un (by decide)).trans h.t8, h.t4⟩, ?_, fun p hp => ?_, fun k hk => ?_, fun k hk l hl => ?_⟩, h.lk hB hT (FB.b e) (fun k hk => pk_un (by omega))⟩
  · rw [← e, kset_same]
    exact ⟨(pk_un (by decide)).trans (h.f5.trans (pk_un (by decide)).symm), (pk_un (by decide)).trans (h.f6.trans (pk_un (by decide)).symm), pk_us.trans pk_us.symm, (pk_un (by decide)).trans (h.f8.trans (pk_un (by decide)).symm), (pk_un (by decide)).trans (h.f9.trans (pk_un (by decide)).symm), (pk_un (by decide)).trans (h.f10.trans (pk_un (by decide)).symm), (pk_un (by decide)).trans (h.f11.trans (pk_un (by decide)).symm), (pk_un (by decide)).trans (h.f12.trans (pk_un (by decide)).symm)⟩
  · rw [← e, kset_ne _ _ (by omega), pk_un (by omega)]; exact h.we hp
  · rw [← e, kset_ne _ _ (by omega), pk_un (by omega), pk_un (by omega)]; exact h.1.2.2.2.1 k hk
  · rw [← e, kset_ne _ _ (by omega), pk_un (by omega)]; exact h.cr hk hl
theorem BL.sf8 (h : BL B I r c t) (hB : BB B) (hT : TX r) {v : Int32} (e : kset I B (upd (I B) 8 v) = J) : BL B J (upd r 0 v) c t := by
  refine ⟨⟨⟨(pk_un (by decide)).trans h.c9, h.c8, (pk_un (by decide)).trans h.t8, h.t4⟩, ?_, fun p hp => ?_, fun k hk => ?_, fun k hk l hl => ?_⟩, h.lk hB hT (FB.b e) (fun k hk => pk_un (by omega))⟩
  · rw [← e, kset_same]
    exact ⟨(pk_un (by decide)).trans (h.f5.trans (pk_un (by decide)).symm), (pk_un (by decide)).trans (h.f6.trans (pk_un (by decide)).symm), (pk_un (by decide)).trans (h.f7.trans (pk_un (by decide)).symm), pk_us.trans pk_us.symm, (pk_un (by decide)).trans (h.f9.trans (pk_un (by decide)).symm), (pk_un (by decide)).trans (h.f10.trans (pk_un (by decide)).symm), (pk_un (by decide)).trans (h.f11.trans (pk_un (by decide)).symm), (pk_un (by decide)).trans (h.f12.trans (pk_un (by decide)).symm)⟩
  · rw [← e, kset_ne _ _ (by omega), pk_un (by omega)]; exact h.we hp
  · rw [← e, kset_ne _ _ (by omega), pk_un (by omega), pk_un (by omega)]; exact h.1.2.2.2.1 k hk
  · rw [← e, kset_ne _ _ (by omega), pk_un (by omega)]; exact h.cr hk hl
theorem BL.sf10 (h : BL B I r c t) (hB : BB B) (hT : TX r) {v : Int32} (e : kset I B (upd (I B) 10 v) = J) : BL B J (upd r 11 v) c t := by
  refine ⟨⟨⟨(pk_un (by decide)).trans h.c9, h.c8, (pk_un (by decide)).trans h.t8, h.t4⟩, ?_, fun p hp => ?_, fun k hk => ?_, fun k hk l hl => ?_⟩, h.lk hB hT (FB.b e) (fun k hk => pk_un (by omega))⟩
  · rw [← e, kset_same]
    exact ⟨(pk_un (by decide)).trans (h.f5.trans (pk_un (by decide)).symm), (pk_un (by decide)).trans (h.f6.trans (pk_un (by decide)).symm), (pk_un (by decide)).trans (h.f7.trans (pk_un (by decide)).symm), (pk_un (by decide)).trans (h.f8.trans (pk_un (by decide)).symm), (pk_un (by decide)).trans (h.f9.trans (pk_un (by decide)).symm), pk_us.trans pk_us.symm, (pk_un (by decide)).trans (h.f11.trans (pk_un (by decide)).symm), (pk_un (by decide)).trans (h.f12.trans (pk_un (by decide)).symm)⟩
  · rw [← e, kset_ne _ _ (by omega), pk_un (by omega)]; exact h.we hp
  · rw [← e, kset_ne _ _ (by omega), pk_un (by omega), pk_un (by omega)]; exact h.1.2.2.2.1 k hk
  · rw [← e, kset_ne _ _ (by omega), pk_un (by omega)]; exact h.cr hk hl
theorem BL.sf12 (h : BL B I r c t) (hB : BB B) (hT : TX r) {v : Int32} (e : kset I B (upd (I B) 12 v) = J) : BL B J (upd r 12 v) c t := by
  refine ⟨⟨⟨(pk_un (by decide)).trans h.c9, h.c8, (pk_un (by decide)).trans h.t8, h.t4⟩, ?_, fun p hp => ?_, fun k hk => ?_, fun k hk l hl => ?_⟩, h.lk hB hT (FB.b e) (fun k hk => pk_un (by omega))⟩
  · rw [← e, kset_same]
    exact ⟨(pk_un (by decide)).trans (h.f5.trans (pk_un (by decide)).symm), (pk_un (by decide)).trans (h.f6.trans (pk_un (by decide)).symm), (pk_un (by decide)).trans (h.f7.trans (pk_un (by decide)).symm), (pk_un (by decide)).trans (h.f8.trans (pk_un (by decide)).symm), (pk_un (by decide)).trans (h.f9.trans (pk_un (by decide)).symm), (pk_un (by decide)).trans (h.f10.trans (pk_un (by decide)).symm), (pk_un (by decide)).trans (h.f11.trans (pk_un (by decide)).symm), pk_us.trans pk_us.symm⟩
  · rw [← e, kset_ne _ _ (by omega), pk_un (by omega)]; exact h.we hp
  · rw [← e, kset_ne _ _ (by omega), pk_un (by omega), pk_un (by omega)]; exact h.1.2.2.2.1 k hk
  · rw [← e, kset_ne _ _ (by omega), pk_un (by omega)]; exact h.cr hk hl
end BLS
theorem hS0 {B : Nat} (h : BB B) : SS[B]? = some (0, 13) := by rcases h with rfl | rfl <;> rfl
theorem hS1 {B : Nat} (h : BB B) : SS[B + 1]? = some (100, 8) := by rcases h with rfl | rfl <;> rfl
theorem hS2 {B : Nat} (h : BB B) : SS[B + 2]? = some (107, 4) := by rcases h with rfl | rfl <;> rfl
theorem hS3 {B : Nat} (h : BB B) : SS[B + 3]? = some (102, 8) := by rcases h with rfl | rfl <;> rfl
theorem hS4a : ∀ i, i < 4 → SS[12 + i]? = some (6, 2) ∧ SS[55 + i]? = some (6, 2) ∧ SS[37 + i]? = some (6, 2) := by decide +kernel
theorem hS8a : ∀ i, i < 8 → SS[16 + i]? = some (1, 7) ∧ SS[59 + i]? = some (1, 7) ∧ SS[41 + i]? = some (1, 7) := by decide +kernel
theorem hS4 {B i : Nat} (h : BB B) (hi : i < 4) : SS[B + 4 + i]? = some (6, 2) := by rcases h with rfl | rfl <;> first | exact (hS4a i hi).1 | exact (hS4a i hi).2.1
theorem hS8 {B i : Nat} (h : BB B) (hi : i < 8) : SS[B + 8 + i]? = some (1, 7) := by rcases h with rfl | rfl <;> first | exact (hS8a i hi).1 | exact (hS8a i hi).2.1
theorem hP0 {B : Nat} (h : BB B) : PP B 0 = some 2 := by rcases h with rfl | rfl <;> rfl
theorem hP1 {B : Nat} (h : BB B) : PP B 1 = some 5 := by rcases h with rfl | rfl <;> rfl
theorem hP2 {B : Nat} (h : BB B) : PP B 2 = some (B + 1) := by rcases h with rfl | rfl <;> rfl
theorem hP3 {B : Nat} (h : BB B) : PP B 3 = some (B + 2) := by rcases h with rfl | rfl <;> rfl
theorem hP4 {B : Nat} (h : BB B) : PP B 4 = some (B + 3) := by rcases h with rfl | rfl <;> rfl
theorem hP5a : ∀ i, i < 4 → PP 10 i = some (12 + i) ∧ PP 53 i = some (55 + i) ∧ PP 35 i = some (37 + i) := by decide +kernel
theorem hP6a : ∀ i, i < 8 → PP 11 i = some (16 + i) ∧ PP 54 i = some (59 + i) ∧ PP 36 i = some (41 + i) := by decide +kernel
theorem hP5 {B i : Nat} (h : BB B) (hi : i < 4) : PP (B + 2) i = some (B + 4 + i) := by rcases h with rfl | rfl <;> first | exact (hP5a i hi).1 | exact (hP5a i hi).2.1
theorem hP6 {B i : Nat} (h : BB B) (hi : i < 8) : PP (B + 3) i = some (B + 8 + i) := by rcases h with rfl | rfl <;> first | exact (hP6a i hi).1 | exact (hP6a i hi).2.1
theorem hOT : (107, "RopeBorder$Turner") ∈ kOA := List.Mem.head _
theorem hOC : (102, "RopeBorder$Crosser") ∈ kOA := List.Mem.tail _ (List.Mem.head _)
theorem hOS : (106, "RopeBorder$Sheet") ∈ kOA := List.Mem.tail _ (List.Mem.tail _ (List.Mem.head _))
theorem k_gen {E : kE} {d : Nat} {y : kY} {cl sl mc ms pc : Nat} {L : List (Option Value)} {st : List Value} {I : Nat → Nat → Int32} {Q : Option Value → kM → Prop} (h : ∀ J, I = J → Wd E d y cl sl mc ms pc L st (kJ J) Q) : Wd E d y cl sl mc ms pc L st (kJ I) Q := h I rfl
theorem k_top {E : kE} {d : Nat} {y : kY} {cl sl mc ms pc : Nat} {L : List (Option Value)} {st : List Value} {M : kM} {Q : Option Value → kM → Prop} {a b : Int32} (h : a = b) (k : Wd E d y cl sl mc ms pc L (.int b :: st) M Q) : Wd E d y cl sl mc ms pc L (.int a :: st) M Q := h ▸ k
/-- behind an act on a border -/
def kBv (B : Nat) (I : Nat → Nat → Int32) (r : Nat → Int32) (c t : Nat) : Option Value → kM → Prop := fun v M => ∃ J, v = none ∧ M = kJ J ∧ BL B J r c t ∧ FB B I J
def kBi (a : Int32) (B : Nat) (I : Nat → Nat → Int32) (r : Nat → Int32) (c t : Nat) : Option Value → kM → Prop := fun v M => ∃ J, v = some (.int a) ∧ M = kJ J ∧ BL B J r c t ∧ FB B I J

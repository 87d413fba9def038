/-- READING A TEXT. G: the bytes, the use, what the three names stand for. A level's answer: the value, where it stands, whether it could be read. -/
abbrev pG : Type := (Nat → Int32) × Nat × Int32 × Int32 × Int32
abbrev pR : Type := Int32 × Nat × Bool
def heldF (v lo hi : Int32) : Int32 := if v < lo then lo else if hi < v then hi else v
def isDg (c : Int32) : Prop := 48 ≤ c ∧ c ≤ 57
def numF (B : Nat → Int32) : Nat → Int32 → Nat → Int32 × Nat
  | 0, v, at_ => (v, at_)
  | n + 1, v, at_ => if 48 ≤ B at_ ∧ B at_ ≤ 57 then numF B n (10 * v + B at_ - 48) (at_ + 1) else (v, at_)
def namF (G : pG) (c : Int32) (at_ : Nat) : pR :=
  if c = 107 then (G.2.2.1, at_ + 1, true) else if c = (if G.2.1 = 0 then 108 else 119) then (G.2.2.2.1, at_ + 1, true) else if c = (if G.2.1 = 0 then 112 else 98) then (G.2.2.2.2, at_ + 1, true) else (0, at_, false)
def cmpF (s v u : Int32) : Int32 := if s = 60 then kb (v < u) else if s = 61 then kb (v = u) else kb (u < v)
def mulF (s v u : Int32) : Int32 := if s = 42 then v * u else if u = 0 then 0 else if s = 47 then v / u else v - v / u * u
/-- the levels 0 (or), 1 (and), 2 (comparing), 3 (sums), 4 (products), 5 (units); 10, 11, 13, 14: the loops of 0, 1, 3, 4 with the value so far -/
def pz (G : pG) : Nat → Nat → Int32 → Nat → Nat → pR
  | 0, _, v, at_, _ => (v, at_, false)
  | n + 1, md, v, at_, op =>
    if md = 0 then (let q := pz G n 1 0 at_ op; if q.2.2 then pz G n 10 q.1 q.2.1 op else q)
    else if md = 1 then (let q := pz G n 2 0 at_ op; if q.2.2 then pz G n 11 q.1 q.2.1 op else q)
    else if md = 2 then (let q := pz G n 3 0 at_ op; if q.2.2 then (let s := G.1 q.2.1; if s = 60 ∨ s = 61 ∨ s = 62 then (let u := pz G n 3 0 (q.2.1 + 1) op; (cmpF s q.1 u.1, u.2.1, u.2.2)) else q) else q)
    else if md = 3 then (let q := pz G n 4 0 at_ op; if q.2.2 then pz G n 13 q.1 q.2.1 op else q)
    else if md = 4 then (let q := pz G n 5 0 at_ op; if q.2.2 then pz G n 14 q.1 q.2.1 op else q)
    else if md = 5 then (let c := G.1 at_; if 48 ≤ c ∧ c ≤ 57 then (let q := numF G.1 4 0 at_; (q.1, q.2, true))
      else if c = 33 then (if op = 5 then (0, at_, false) else (let q := pz G n 5 0 (at_ + 1) (op + 1); (kb (q.1 = 0), q.2.1, q.2.2)))
      else if c = 40 then (if op = 5 then (0, at_, false) else (let q := pz G n 0 0 (at_ + 1) (op + 1); if q.2.2 then (if G.1 q.2.1 = 41 then (q.1, q.2.1 + 1, true) else (0, q.2.1, false)) else (0, q.2.1, false)))
      else namF G c at_)
    else if md = 10 then (if G.1 at_ = 124 then (let q := pz G n 1 0 (at_ + 1) op; if q.2.2 then pz G n 10 (kb (¬ v = 0 ∨ ¬ q.1 = 0)) q.2.1 op else (kb (¬ v = 0 ∨ ¬ q.1 = 0), q.2.1, false)) else (v, at_, true))
    else if md = 11 then (if G.1 at_ = 38 then (let q := pz G n 2 0 (at_ + 1) op; if q.2.2 then pz G n 11 (kb (¬ v = 0 ∧ ¬ q.1 = 0)) q.2.1 op else (kb (¬ v = 0 ∧ ¬ q.1 = 0), q.2.1, false)) else (v, at_, true))
    else if md = 13 then (let s := G.1 at_; if s = 43 ∨ s = 45 then (let q := pz G n 4 0 (at_ + 1) op; let u := (if s = 43 then v + q.1 else v - q.1); if q.2.2 then pz G n 13 u q.2.1 op else (u, q.2.1, false)) else (v, at_, true))
    else (let s := G.1 at_; if s = 42 ∨ s = 47 ∨ s = 37 then (let q := pz G n 5 0 (at_ + 1) op; if q.2.2 then pz G n 14 (mulF s v q.1) q.2.1 op else (mulF s v q.1, q.2.1, false)) else (v, at_, true))
/-- the bytes of the text of use u -/
def txB (r : Nat → Int32) (u : Nat) : Nat → Int32 := fun k => if k < (r (6 + u)).toNatClampNeg then r (155 + 50 * u + k) else -1
def txF : Nat := 2000
def walkF (r : Nat → Int32) (u : Nat) (a b c : Int32) : pR := pz (txB r u, u, a, b, c) txF 0 0 0 0
def lawF (r : Nat → Int32) (u : Nat) (a b c : Int32) : Int32 :=
  if r (6 + u) < 0 then (if u = 0 then heldF (1 + b / 20) 1 9 else kb (b < 100 * (a + 1))) else heldF (walkF r u a b c).1 (if u = 0 then 1 else 0) (if u = 0 then 9 else 1)
/-- what may be otherwise behind an act: the reading's own numbers, rows that are only tried -/
def kOk (o p : Nat → Int32) : Prop := ∀ j, j < 7 ∨ 14 < j → p j = o j
def kJunk (I J : Nat → Nat → Int32) : Prop := (∀ k, k ≠ 81 → k ≠ 82 → J k = I k) ∧ kOk (I 81) (J 81)
theorem kJunk.rf (I : Nat → Nat → Int32) : kJunk I I := ⟨fun _ _ _ => rfl, fun _ _ => rfl⟩
theorem kJunk.tr {I J K : Nat → Nat → Int32} (h : kJunk I J) (g : kJunk J K) : kJunk I K := ⟨fun k a b => (g.1 k a b).trans (h.1 k a b), fun j hj => (g.2 j hj).trans (h.2 j hj)⟩
def kJnk (I J : Nat → Nat → Int32) : Prop := (∀ k, k ≠ 81 → k ≠ 82 → k ≠ 84 → k ≠ 85 → k ≠ 90 → J k = I k) ∧ kOk (I 81) (J 81)
theorem kJnk.rf (I : Nat → Nat → Int32) : kJnk I I := ⟨fun _ _ _ _ _ _ => rfl, fun _ _ => rfl⟩
theorem kJnk.tr {I J K : Nat → Nat → Int32} (h : kJnk I J) (g : kJnk J K) : kJnk I K := ⟨fun k a b c d e => (g.1 k a b c d e).trans (h.1 k a b c d e), fun j hj => (g.2 j hj).trans (h.2 j hj)⟩
theorem kJunk.up {I J : Nat → Nat → Int32} (h : kJunk I J) : kJnk I J := ⟨fun k a b _ _ _ => h.1 k a b, h.2⟩
theorem kJnk.set {I : Nat → Nat → Int32} {k : Nat} (f : Nat → Int32) (hk : k = 84 ∨ k = 85 ∨ k = 90) : kJnk I (kset I k f) := ⟨fun q a b c d e => kset_ne _ _ (by omega), fun j _ => by rw [kset_ne _ _ (by omega)]⟩
def kS1 (a : Int32) (I : Nat → Nat → Int32) (r : Nat → Int32) : Option Value → kM → Prop := fun v M => ∃ J, v = some (.int a) ∧ M = kJ (kset J 82 r) ∧ kJunk I J
def kSv (I : Nat → Nat → Int32) (r : Nat → Int32) : Option Value → kM → Prop := fun v M => ∃ J, v = none ∧ M = kJ (kset J 82 r) ∧ kJunk I J
def kU (I : Nat → Nat → Int32) (t : sT) : Option Value → kM → Prop := fun v M => ∃ J, v = some (.int t.1) ∧ M = kJ (ke (kset J 82 t.2.1) t.2.2) ∧ kJnk I J

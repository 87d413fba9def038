def R_law : String := "RopeBorderLaw"
/-- the cells once the two objects stand: their shapes and what points where -/
def SS : List (Nat × Nat) := [(8,8),(2,8),(3,5),(100,50),(100,50),(3,5),(100,50),(100,50),(0,13),(100,8),(107,4),(102,8),(6,2),(6,2),(6,2),(6,2),(1,7),(1,7),(1,7),(1,7),(1,7),(1,7),(1,7),(1,7),(100,50),(100,20),(2,8),(3,5),(100,50),(100,50),(3,5),(100,50),(100,50),(0,13),(100,8),(107,4),(102,8),(6,2),(6,2),(6,2),(6,2),(1,7),(1,7),(1,7),(1,7),(1,7),(1,7),(1,7),(1,7),(100,50),(100,20),(0,13),(100,8),(107,4),(102,8),(6,2),(6,2),(6,2),(6,2),(1,7),(1,7),(1,7),(1,7),(1,7),(1,7),(1,7),(1,7),(4,6),(100,50),(7,5),(100,40),(106,4),(100,6),(5,3),(100,40),(5,3),(100,40),(5,3),(100,40),(5,3),(100,40),(9,24),(100,255),(100,255),(100,255),(100,255),(100,6),(100,4),(100,4),(100,160),(100,40),(100,40)]
def PPT : List (List (Option Nat)) := [[some 1,some 26,some 51,some 67,some 69,some 71,some 72,none],[some 2,some 5,some 8,some 24,some 25,none,none,none],[some 3,some 4,none,none,none],[],[],[some 6,some 7,none,none,none],[],[],[some 2,some 5,some 9,some 10,some 11,none,none,none,none,none,none,none,none],[],[some 12,some 13,some 14,some 15],[some 16,some 17,some 18,some 19,some 20,some 21,some 22,some 23],[],[],[],[],[],[],[],[],[],[],[],[],[],[],[some 27,some 30,some 33,some 49,some 50,none,none,none],[some 28,some 29,none,none,none],[],[],[some 31,some 32,none,none,none],[],[],[some 27,some 30,some 34,some 35,some 36,none,none,none,none,none,none,none,none],[],[some 37,some 38,some 39,some 40],[some 41,some 42,some 43,some 44,some 45,some 46,some 47,some 48],[],[],[],[],[],[],[],[],[],[],[],[],[],[],[some 2,some 5,some 52,some 53,some 54,none,none,none,none,none,none,none,none],[],[some 55,some 56,some 57,some 58],[some 59,some 60,some 61,some 62,some 63,some 64,some 65,some 66],[],[],[],[],[],[],[],[],[],[],[],[],[some 24,some 68,none,none,none,none],[],[some 70,none,none,none,none],[],[some 73,some 75,some 77,some 79],[],[some 74,none,none],[],[some 76,none,none],[],[some 78,none,none],[],[some 80,none,none],[],[some 82,some 83,some 84,some 85,none,none,some 86,none,none,none,none,none,none,none,none,some 87,some 88,some 89,some 90,some 91,none,none,none,none],[],[],[],[],[],[],[],[],[],[]]
def PP : Nat → Nat → Option Nat := fun k j => (PPT.getD k []).getD j none
def kJ (I : Nat → Nat → Int32) : kM := (SS, PP, I)
def kset (I : Nat → Nat → Int32) (k : Nat) (f : Nat → Int32) : Nat → Nat → Int32 := fun k' => if k' = k then f else I k'
theorem kset_same (I : Nat → Nat → Int32) (k : Nat) (f : Nat → Int32) : kset I k f k = f := if_pos rfl
theorem kset_ne (I : Nat → Nat → Int32) {k k' : Nat} (f : Nat → Int32) (h : k' ≠ k) : kset I k f k' = I k' := if_neg h
theorem kset_kset (I : Nat → Nat → Int32) (k : Nat) (f g : Nat → Int32) : kset (kset I k f) k g = kset I k g := by
  funext k'
  by_cases h : k' = k
  · subst h; rw [kset_same, kset_same]
  · rw [kset_ne _ _ h, kset_ne _ _ h, kset_ne _ _ h]
theorem kset_self (I : Nat → Nat → Int32) (k : Nat) : kset I k (I k) = I := by
  funext k'
  by_cases h : k' = k
  · subst h; rw [kset_same]
  · rw [kset_ne _ _ h]
theorem kset_comm (I : Nat → Nat → Int32) {k k2 : Nat} (f g : Nat → Int32) (h : k ≠ k2) : kset (kset I k f) k2 g = kset (kset I k2 g) k f := by
  funext k'
  by_cases h1 : k' = k
  · subst h1; rw [kset_ne _ _ h, kset_same, kset_same]
  · by_cases h2 : k' = k2
    · subst h2; rw [kset_same, kset_ne _ _ h1, kset_same]
    · rw [kset_ne _ _ h2, kset_ne _ _ h1, kset_ne _ _ h1, kset_ne _ _ h2]
theorem kput_J (I : Nat → Nat → Int32) (k j : Nat) (a : Int32) : kput (kJ I) k j a = kJ (kset I k (upd (I k) j a)) := by
  unfold kput kJ
  congr 2
  funext k' j'
  by_cases h : k' = k
  · subst h
    rw [kset_same]
    by_cases h2 : j' = j
    · subst h2; simp [upd]
    · simp [upd, h2]
  · rw [kset_ne _ _ h, if_neg (fun e => h e.1)]
theorem kcopy_J (I : Nat → Nat → Int32) (k : Nat) (f : Nat → Int32) : kcopy (kJ I) k f = kJ (kset I k f) := by
  unfold kcopy kJ
  congr 2
  funext k' j'
  by_cases h : k' = k
  · subst h; rw [kset_same, if_pos rfl]
  · rw [kset_ne _ _ h, if_neg h]
/-- an answer that is a number, and the memory behind it -/
def kR (a : Int32) (I : Nat → Nat → Int32) : Option Value → kM → Prop := fun v M => v = some (.int a) ∧ M = kJ I
def kRv (I : Nat → Nat → Int32) : Option Value → kM → Prop := fun v M => v = none ∧ M = kJ I
theorem u_ws_good {C : String} {T : u_T} {N : Nat} {w : Cond} (h : w ∈ u_ws C T N) : goodWord w = true := by
  obtain ⟨k, -, rfl⟩ := List.mem_map.mp h
  unfold u_lay
  split <;> rfl
theorem gwi {w : Cond} (i : Nat) (h : tables_1[i]? = some w) (hg : goodWord w = true) : w ∈ kG := kG_of (List.mem_append_right (k2_sels lw_privs) (List.mem_of_getElem? h)) hg
theorem gwp {w : Cond} (i : Nat) (h : (k2_sels lw_privs)[i]? = some w) (hg : goodWord w = true) : w ∈ kG := kG_of (List.mem_append_left tables_1 (List.mem_of_getElem? h)) hg
theorem gw1 : (Cond.initialized "RopeBorder") ∈ kG := gwi 1 (by decide +kernel) rfl
theorem gw2 : (Cond.initialized "RopeBorder$Kept") ∈ kG := gwi 2 (by decide +kernel) rfl
theorem gw3 : (Cond.initialized "RopeBorder$Law") ∈ kG := gwi 3 (by decide +kernel) rfl
theorem gw4 : (Cond.initialized "java/lang/Math") ∈ kG := gwi 4 (by decide +kernel) rfl
theorem gw5 : (Cond.initialized "java/lang/System") ∈ kG := gwi 5 (by decide +kernel) rfl
theorem gw6 : (Cond.initialized "RopeBorder$Border") ∈ kG := gwi 6 (by decide +kernel) rfl
theorem gw7 : (Cond.initialized "RopeBorder$Turner") ∈ kG := gwi 7 (by decide +kernel) rfl
theorem gw8 : (Cond.initialized "RopeBorder$Crosser") ∈ kG := gwi 8 (by decide +kernel) rfl
theorem gw9 : (Cond.initialized "RopeBorder$Reader") ∈ kG := gwi 9 (by decide +kernel) rfl
theorem gw10 : (Cond.initialized "RopeBorder$Voices") ∈ kG := gwi 10 (by decide +kernel) rfl
theorem gw11 : (Cond.initialized "RopeBorder$Sheet") ∈ kG := gwi 11 (by decide +kernel) rfl
theorem gw12 : (Cond.initialized "RopeBorderModel") ∈ kG := gwi 12 (by decide +kernel) rfl
theorem gw13 : (Cond.initialized "java/lang/String") ∈ kG := gwi 13 (by decide +kernel) rfl
theorem gw14 : (Cond.initialized "java/lang/StringLatin1") ∈ kG := gwi 14 (by decide +kernel) rfl
theorem gw15 : (Cond.initialized "java/lang/StringUTF16") ∈ kG := gwi 15 (by decide +kernel) rfl
theorem gw16 : (Cond.initialized "jdk/internal/util/Preconditions") ∈ kG := gwi 16 (by decide +kernel) rfl
theorem gw17 : (Cond.initialized "java/lang/Character") ∈ kG := gwi 17 (by decide +kernel) rfl
theorem gw18 : (Cond.initialized "java/lang/Integer") ∈ kG := gwi 18 (by decide +kernel) rfl
theorem gw21 : (Cond.methodLink "RopeBorderLaw" (9 : Nat) ({ cls := "RopeBorder", name := "<init>", desc := "()V" } : MethodName)) ∈ kG := gwi 21 (by decide +kernel) rfl
theorem gw22 : (Cond.instanceMethod ({ cls := "RopeBorder", name := "<init>", desc := "()V" } : MethodName)) ∈ kG := gwi 22 (by decide +kernel) rfl
theorem gw23 : (Cond.code ({ cls := "RopeBorder", name := "<init>", desc := "()V" } : MethodName) prog_1_method_1_code (2 : Nat) (none : Option FieldType)) ∈ kG := gwi 23 (by decide +kernel) rfl
theorem gw24 : (Cond.methodLink "RopeBorder" (1 : Nat) ({ cls := "java/lang/Object", name := "<init>", desc := "()V" } : MethodName)) ∈ kG := gwi 24 (by decide +kernel) rfl
theorem gw25 : (Cond.instanceMethod ({ cls := "java/lang/Object", name := "<init>", desc := "()V" } : MethodName)) ∈ kG := gwi 25 (by decide +kernel) rfl
theorem gw26 : (Cond.code ({ cls := "java/lang/Object", name := "<init>", desc := "()V" } : MethodName) object_method_1_code (1 : Nat) (none : Option FieldType)) ∈ kG := gwi 26 (by decide +kernel) rfl
theorem gw31 : (Cond.code ({ cls := "RopeBorder$Kept", name := "<init>", desc := "()V" } : MethodName) prog_4_method_1_code (1 : Nat) (none : Option FieldType)) ∈ kG := gwi 31 (by decide +kernel) rfl
theorem gw32 : (Cond.methodLink "RopeBorder$Kept" (3 : Nat) ({ cls := "java/lang/Object", name := "<init>", desc := "()V" } : MethodName)) ∈ kG := gwi 32 (by decide +kernel) rfl
theorem gw37 : (Cond.methodLink "RopeBorder$Kept" (15 : Nat) ({ cls := "RopeBorder$Law", name := "<init>", desc := "(II[I)V" } : MethodName)) ∈ kG := gwi 37 (by decide +kernel) rfl
theorem gw38 : (Cond.instanceMethod ({ cls := "RopeBorder$Law", name := "<init>", desc := "(II[I)V" } : MethodName)) ∈ kG := gwi 38 (by decide +kernel) rfl
theorem gw39 : (Cond.code ({ cls := "RopeBorder$Law", name := "<init>", desc := "(II[I)V" } : MethodName) prog_5_method_1_code (4 : Nat) (none : Option FieldType)) ∈ kG := gwi 39 (by decide +kernel) rfl
theorem gw40 : (Cond.methodLink "RopeBorder$Law" (3 : Nat) ({ cls := "java/lang/Object", name := "<init>", desc := "()V" } : MethodName)) ∈ kG := gwi 40 (by decide +kernel) rfl
theorem gw41 : (Cond.methodLink "RopeBorder$Law" (25 : Nat) ({ cls := "RopeBorder$Law", name := "takeCode", desc := "([II)V" } : MethodName)) ∈ kG := gwi 41 (by decide +kernel) rfl
theorem gw42 : (Cond.instanceMethod ({ cls := "RopeBorder$Law", name := "takeCode", desc := "([II)V" } : MethodName)) ∈ kG := gwi 42 (by decide +kernel) rfl
theorem gw43 : (Cond.selects "RopeBorder$Law" ({ cls := "RopeBorder$Law", name := "takeCode", desc := "([II)V" } : MethodName) ({ cls := "RopeBorder$Law", name := "takeCode", desc := "([II)V" } : MethodName)) ∈ kG := gwi 43 (by decide +kernel) rfl
theorem gw44 : (Cond.code ({ cls := "RopeBorder$Law", name := "takeCode", desc := "([II)V" } : MethodName) prog_5_method_2_code (3 : Nat) (none : Option FieldType)) ∈ kG := gwi 44 (by decide +kernel) rfl
theorem gw45 : (Cond.methodLink "RopeBorder$Law" (29 : Nat) ({ cls := "java/lang/Math", name := "min", desc := "(II)I" } : MethodName)) ∈ kG := gwi 45 (by decide +kernel) rfl
theorem gw46 : (Cond.static ({ cls := "java/lang/Math", name := "min", desc := "(II)I" } : MethodName)) ∈ kG := gwi 46 (by decide +kernel) rfl
theorem gw47 : (Cond.code ({ cls := "java/lang/Math", name := "min", desc := "(II)I" } : MethodName) prog_14_method_69_code (2 : Nat) (some FieldType.int)) ∈ kG := gwi 47 (by decide +kernel) rfl
theorem gw48 : (Cond.methodLink "RopeBorder$Law" (38 : Nat) ({ cls := "java/lang/System", name := "arraycopy", desc := "(Ljava/lang/Object;ILjava/lang/Object;II)V" } : MethodName)) ∈ kG := gwi 48 (by decide +kernel) rfl
theorem gw49 : (Cond.static ({ cls := "java/lang/System", name := "arraycopy", desc := "(Ljava/lang/Object;ILjava/lang/Object;II)V" } : MethodName)) ∈ kG := gwi 49 (by decide +kernel) rfl
theorem gw50 : (Cond.native ({ cls := "java/lang/System", name := "arraycopy", desc := "(Ljava/lang/Object;ILjava/lang/Object;II)V" } : MethodName)) ∈ kG := gwi 50 (by decide +kernel) rfl
theorem gw51 : (Cond.fieldLink "RopeBorder$Law" (9 : Nat) "RopeBorder$Law" "code" "[I") ∈ kG := gwi 51 (by decide +kernel) rfl
theorem gw52 : (Cond.fieldLink "RopeBorder$Kept" (49 : Nat) "RopeBorder$Law" "code" "[I") ∈ kG := gwi 52 (by decide +kernel) rfl
theorem gw53 : (Cond.fieldLink "RopeBorder$Law" (15 : Nat) "RopeBorder$Law" "stack" "[I") ∈ kG := gwi 53 (by decide +kernel) rfl
theorem gw54 : (Cond.fieldLink "RopeBorder$Law" (18 : Nat) "RopeBorder$Law" "least" "I") ∈ kG := gwi 54 (by decide +kernel) rfl
theorem gw55 : (Cond.fieldLink "RopeBorder$Law" (22 : Nat) "RopeBorder$Law" "most" "I") ∈ kG := gwi 55 (by decide +kernel) rfl
theorem gw56 : (Cond.fieldLink "RopeBorder$Law" (35 : Nat) "RopeBorder$Law" "size" "I") ∈ kG := gwi 56 (by decide +kernel) rfl
theorem gw57 : (Cond.fieldLink "RopeBorder$Kept" (52 : Nat) "RopeBorder$Law" "size" "I") ∈ kG := gwi 57 (by decide +kernel) rfl
theorem gw74 : (Cond.methodLink "RopeBorder$Kept" (32 : Nat) ({ cls := "RopeBorder$Border", name := "<init>", desc := "(LRopeBorder$Law;LRopeBorder$Law;)V" } : MethodName)) ∈ kG := gwi 74 (by decide +kernel) rfl
theorem gw75 : (Cond.instanceMethod ({ cls := "RopeBorder$Border", name := "<init>", desc := "(LRopeBorder$Law;LRopeBorder$Law;)V" } : MethodName)) ∈ kG := gwi 75 (by decide +kernel) rfl
theorem gw76 : (Cond.code ({ cls := "RopeBorder$Border", name := "<init>", desc := "(LRopeBorder$Law;LRopeBorder$Law;)V" } : MethodName) prog_2_method_1_code (4 : Nat) (none : Option FieldType)) ∈ kG := gwi 76 (by decide +kernel) rfl
theorem gw77 : (Cond.methodLink "RopeBorder$Border" (3 : Nat) ({ cls := "java/lang/Object", name := "<init>", desc := "()V" } : MethodName)) ∈ kG := gwi 77 (by decide +kernel) rfl
theorem gw85 : (Cond.code ({ cls := "RopeBorder$Turner", name := "<init>", desc := "()V" } : MethodName) prog_8_method_1_code (1 : Nat) (none : Option FieldType)) ∈ kG := gwi 85 (by decide +kernel) rfl
theorem gw86 : (Cond.methodLink "RopeBorder$Turner" (1 : Nat) ({ cls := "java/lang/Object", name := "<init>", desc := "()V" } : MethodName)) ∈ kG := gwi 86 (by decide +kernel) rfl
theorem gw87 : (Cond.fieldLink "RopeBorder$Turner" (7 : Nat) "RopeBorder$Turner" "strength" "I") ∈ kG := gwi 87 (by decide +kernel) rfl
theorem gw88 : (Cond.fieldLink "RopeBorder$Border" (74 : Nat) "RopeBorder$Turner" "strength" "I") ∈ kG := gwi 88 (by decide +kernel) rfl
theorem gw89 : (Cond.fieldLink "RopeBorder" (111 : Nat) "RopeBorder$Turner" "strength" "I") ∈ kG := gwi 89 (by decide +kernel) rfl
theorem gw90 : (Cond.fieldLink "RopeBorder$Turner" (13 : Nat) "RopeBorder$Turner" "tired" "I") ∈ kG := gwi 90 (by decide +kernel) rfl
theorem gw91 : (Cond.fieldLink "RopeBorder$Border" (77 : Nat) "RopeBorder$Turner" "tired" "I") ∈ kG := gwi 91 (by decide +kernel) rfl
theorem gw92 : (Cond.fieldLink "RopeBorder" (116 : Nat) "RopeBorder$Turner" "tired" "I") ∈ kG := gwi 92 (by decide +kernel) rfl
theorem gw101 : (Cond.code ({ cls := "RopeBorder$Crosser", name := "<init>", desc := "()V" } : MethodName) prog_3_method_1_code (1 : Nat) (none : Option FieldType)) ∈ kG := gwi 101 (by decide +kernel) rfl
theorem gw102 : (Cond.methodLink "RopeBorder$Crosser" (3 : Nat) ({ cls := "java/lang/Object", name := "<init>", desc := "()V" } : MethodName)) ∈ kG := gwi 102 (by decide +kernel) rfl
theorem gw103 : (Cond.fieldLink "RopeBorder$Crosser" (9 : Nat) "RopeBorder$Crosser" "kind" "I") ∈ kG := gwi 103 (by decide +kernel) rfl
theorem gw104 : (Cond.fieldLink "RopeBorder" (143 : Nat) "RopeBorder$Crosser" "kind" "I") ∈ kG := gwi 104 (by decide +kernel) rfl
theorem gw105 : (Cond.fieldLink "RopeBorder$Crosser" (15 : Nat) "RopeBorder$Crosser" "m" "I") ∈ kG := gwi 105 (by decide +kernel) rfl
theorem gw106 : (Cond.fieldLink "RopeBorder" (148 : Nat) "RopeBorder$Crosser" "m" "I") ∈ kG := gwi 106 (by decide +kernel) rfl
theorem gw107 : (Cond.fieldLink "RopeBorder$Crosser" (18 : Nat) "RopeBorder$Crosser" "skill" "I") ∈ kG := gwi 107 (by decide +kernel) rfl
theorem gw108 : (Cond.fieldLink "RopeBorder$Border" (84 : Nat) "RopeBorder$Crosser" "skill" "I") ∈ kG := gwi 108 (by decide +kernel) rfl
theorem gw109 : (Cond.fieldLink "RopeBorder" (151 : Nat) "RopeBorder$Crosser" "skill" "I") ∈ kG := gwi 109 (by decide +kernel) rfl
theorem gw110 : (Cond.fieldLink "RopeBorder$Crosser" (21 : Nat) "RopeBorder$Crosser" "load" "I") ∈ kG := gwi 110 (by decide +kernel) rfl
theorem gw111 : (Cond.fieldLink "RopeBorder$Border" (87 : Nat) "RopeBorder$Crosser" "load" "I") ∈ kG := gwi 111 (by decide +kernel) rfl
theorem gw112 : (Cond.fieldLink "RopeBorder" (154 : Nat) "RopeBorder$Crosser" "load" "I") ∈ kG := gwi 112 (by decide +kernel) rfl
theorem gw113 : (Cond.fieldLink "RopeBorder$Crosser" (24 : Nat) "RopeBorder$Crosser" "place" "I") ∈ kG := gwi 113 (by decide +kernel) rfl
theorem gw114 : (Cond.fieldLink "RopeBorder$Border" (90 : Nat) "RopeBorder$Crosser" "place" "I") ∈ kG := gwi 114 (by decide +kernel) rfl
theorem gw115 : (Cond.fieldLink "RopeBorder" (157 : Nat) "RopeBorder$Crosser" "place" "I") ∈ kG := gwi 115 (by decide +kernel) rfl
theorem gw116 : (Cond.fieldLink "RopeBorder$Crosser" (27 : Nat) "RopeBorder$Crosser" "state" "I") ∈ kG := gwi 116 (by decide +kernel) rfl
theorem gw117 : (Cond.fieldLink "RopeBorder$Border" (93 : Nat) "RopeBorder$Crosser" "state" "I") ∈ kG := gwi 117 (by decide +kernel) rfl
theorem gw118 : (Cond.fieldLink "RopeBorder" (160 : Nat) "RopeBorder$Crosser" "state" "I") ∈ kG := gwi 118 (by decide +kernel) rfl
theorem gw119 : (Cond.fieldLink "RopeBorder$Crosser" (30 : Nat) "RopeBorder$Crosser" "jumps" "I") ∈ kG := gwi 119 (by decide +kernel) rfl
theorem gw120 : (Cond.fieldLink "RopeBorder$Border" (96 : Nat) "RopeBorder$Crosser" "jumps" "I") ∈ kG := gwi 120 (by decide +kernel) rfl
theorem gw121 : (Cond.fieldLink "RopeBorder" (163 : Nat) "RopeBorder$Crosser" "jumps" "I") ∈ kG := gwi 121 (by decide +kernel) rfl
theorem gw137 : (Cond.fieldLink "RopeBorder$Border" (37 : Nat) "RopeBorder$Border" "jumpsLaw" "LRopeBorder$Law;") ∈ kG := gwi 137 (by decide +kernel) rfl
theorem gw138 : (Cond.fieldLink "RopeBorder$Border" (41 : Nat) "RopeBorder$Border" "jumpedLaw" "LRopeBorder$Law;") ∈ kG := gwi 138 (by decide +kernel) rfl
theorem gw139 : (Cond.fieldLink "RopeBorder$Border" (9 : Nat) "RopeBorder$Border" "wears" "[I") ∈ kG := gwi 139 (by decide +kernel) rfl
theorem gw140 : (Cond.fieldLink "RopeBorder" (193 : Nat) "RopeBorder$Border" "wears" "[I") ∈ kG := gwi 140 (by decide +kernel) rfl
theorem gw141 : (Cond.fieldLink "RopeBorder$Border" (17 : Nat) "RopeBorder$Border" "turners" "[LRopeBorder$Turner;") ∈ kG := gwi 141 (by decide +kernel) rfl
theorem gw142 : (Cond.fieldLink "RopeBorder" (107 : Nat) "RopeBorder$Border" "turners" "[LRopeBorder$Turner;") ∈ kG := gwi 142 (by decide +kernel) rfl
theorem gw143 : (Cond.fieldLink "RopeBorder$Border" (23 : Nat) "RopeBorder$Border" "crossers" "[LRopeBorder$Crosser;") ∈ kG := gwi 143 (by decide +kernel) rfl
theorem gw144 : (Cond.fieldLink "RopeBorder" (139 : Nat) "RopeBorder$Border" "crossers" "[LRopeBorder$Crosser;") ∈ kG := gwi 144 (by decide +kernel) rfl
theorem gw145 : (Cond.fieldLink "RopeBorder$Border" (27 : Nat) "RopeBorder$Border" "places" "I") ∈ kG := gwi 145 (by decide +kernel) rfl
theorem gw146 : (Cond.fieldLink "RopeBorder" (80 : Nat) "RopeBorder$Border" "places" "I") ∈ kG := gwi 146 (by decide +kernel) rfl
theorem gw147 : (Cond.fieldLink "RopeBorder$Border" (31 : Nat) "RopeBorder$Border" "rhymeLength" "I") ∈ kG := gwi 147 (by decide +kernel) rfl
theorem gw148 : (Cond.fieldLink "RopeBorder" (91 : Nat) "RopeBorder$Border" "rhymeLength" "I") ∈ kG := gwi 148 (by decide +kernel) rfl
theorem gw149 : (Cond.fieldLink "RopeBorder$Border" (34 : Nat) "RopeBorder$Border" "downSet" "I") ∈ kG := gwi 149 (by decide +kernel) rfl
theorem gw150 : (Cond.fieldLink "RopeBorder" (94 : Nat) "RopeBorder$Border" "downSet" "I") ∈ kG := gwi 150 (by decide +kernel) rfl
theorem gw151 : (Cond.fieldLink "RopeBorder$Border" (65 : Nat) "RopeBorder$Border" "beat" "I") ∈ kG := gwi 151 (by decide +kernel) rfl
theorem gw152 : (Cond.fieldLink "RopeBorder" (227 : Nat) "RopeBorder$Border" "beat" "I") ∈ kG := gwi 152 (by decide +kernel) rfl
theorem gw153 : (Cond.fieldLink "RopeBorder$Border" (52 : Nat) "RopeBorder$Border" "turnerCount" "I") ∈ kG := gwi 153 (by decide +kernel) rfl
theorem gw154 : (Cond.fieldLink "RopeBorder" (97 : Nat) "RopeBorder$Border" "turnerCount" "I") ∈ kG := gwi 154 (by decide +kernel) rfl
theorem gw155 : (Cond.fieldLink "RopeBorder$Border" (68 : Nat) "RopeBorder$Border" "turning" "I") ∈ kG := gwi 155 (by decide +kernel) rfl
theorem gw156 : (Cond.fieldLink "RopeBorder" (119 : Nat) "RopeBorder$Border" "turning" "I") ∈ kG := gwi 156 (by decide +kernel) rfl
theorem gw157 : (Cond.fieldLink "RopeBorder" (76 : Nat) "RopeBorder$Border" "crosserCount" "I") ∈ kG := gwi 157 (by decide +kernel) rfl
theorem gw158 : (Cond.fieldLink "RopeBorder$Border" (59 : Nat) "RopeBorder$Border" "crosserCount" "I") ∈ kG := gwi 158 (by decide +kernel) rfl
theorem gw159 : (Cond.fieldLink "RopeBorder$Border" (71 : Nat) "RopeBorder$Border" "goingSet" "I") ∈ kG := gwi 159 (by decide +kernel) rfl
theorem gw160 : (Cond.fieldLink "RopeBorder" (190 : Nat) "RopeBorder$Border" "goingSet" "I") ∈ kG := gwi 160 (by decide +kernel) rfl
theorem gw188 : (Cond.fieldLink "RopeBorder$Kept" (18 : Nat) "RopeBorder$Kept" "jumpsLaw" "LRopeBorder$Law;") ∈ kG := gwi 188 (by decide +kernel) rfl
theorem gw189 : (Cond.fieldLink "RopeBorder" (21 : Nat) "RopeBorder$Kept" "jumpsLaw" "LRopeBorder$Law;") ∈ kG := gwi 189 (by decide +kernel) rfl
theorem gw190 : (Cond.fieldLink "RopeBorder$Kept" (27 : Nat) "RopeBorder$Kept" "jumpedLaw" "LRopeBorder$Law;") ∈ kG := gwi 190 (by decide +kernel) rfl
theorem gw191 : (Cond.fieldLink "RopeBorder" (25 : Nat) "RopeBorder$Kept" "jumpedLaw" "LRopeBorder$Law;") ∈ kG := gwi 191 (by decide +kernel) rfl
theorem gw192 : (Cond.fieldLink "RopeBorder$Kept" (35 : Nat) "RopeBorder$Kept" "border" "LRopeBorder$Border;") ∈ kG := gwi 192 (by decide +kernel) rfl
theorem gw193 : (Cond.fieldLink "RopeBorder" (73 : Nat) "RopeBorder$Kept" "border" "LRopeBorder$Border;") ∈ kG := gwi 193 (by decide +kernel) rfl
theorem gw194 : (Cond.fieldLink "RopeBorder" (37 : Nat) "RopeBorder$Kept" "tape" "[I") ∈ kG := gwi 194 (by decide +kernel) rfl
theorem gw195 : (Cond.fieldLink "RopeBorder$Kept" (39 : Nat) "RopeBorder$Kept" "tape" "[I") ∈ kG := gwi 195 (by decide +kernel) rfl
theorem gw196 : (Cond.fieldLink "RopeBorder$Kept" (42 : Nat) "RopeBorder$Kept" "waiting" "[I") ∈ kG := gwi 196 (by decide +kernel) rfl
theorem gw197 : (Cond.fieldLink "RopeBorder" (344 : Nat) "RopeBorder$Kept" "waiting" "[I") ∈ kG := gwi 197 (by decide +kernel) rfl
theorem gw198 : (Cond.fieldLink "RopeBorder$Kept" (69 : Nat) "RopeBorder$Kept" "tapeSize" "I") ∈ kG := gwi 198 (by decide +kernel) rfl
theorem gw199 : (Cond.fieldLink "RopeBorder" (196 : Nat) "RopeBorder$Kept" "tapeSize" "I") ∈ kG := gwi 199 (by decide +kernel) rfl
theorem gw200 : (Cond.fieldLink "RopeBorder$Kept" (72 : Nat) "RopeBorder$Kept" "waitingSize" "I") ∈ kG := gwi 200 (by decide +kernel) rfl
theorem gw201 : (Cond.fieldLink "RopeBorder" (341 : Nat) "RopeBorder$Kept" "waitingSize" "I") ∈ kG := gwi 201 (by decide +kernel) rfl
theorem gw202 : (Cond.fieldLink "RopeBorder$Kept" (45 : Nat) "RopeBorder$Kept" "z" "I") ∈ kG := gwi 202 (by decide +kernel) rfl
theorem gw203 : (Cond.fieldLink "RopeBorder" (294 : Nat) "RopeBorder$Kept" "z" "I") ∈ kG := gwi 203 (by decide +kernel) rfl
theorem gw222 : (Cond.methodLink "RopeBorder" (28 : Nat) ({ cls := "RopeBorder$Border", name := "<init>", desc := "(LRopeBorder$Law;LRopeBorder$Law;)V" } : MethodName)) ∈ kG := gwi 222 (by decide +kernel) rfl
theorem gw225 : (Cond.methodLink "RopeBorder" (41 : Nat) ({ cls := "RopeBorder$Reader", name := "<init>", desc := "([I)V" } : MethodName)) ∈ kG := gwi 225 (by decide +kernel) rfl
theorem gw226 : (Cond.instanceMethod ({ cls := "RopeBorder$Reader", name := "<init>", desc := "([I)V" } : MethodName)) ∈ kG := gwi 226 (by decide +kernel) rfl
theorem gw227 : (Cond.code ({ cls := "RopeBorder$Reader", name := "<init>", desc := "([I)V" } : MethodName) prog_6_method_1_code (2 : Nat) (none : Option FieldType)) ∈ kG := gwi 227 (by decide +kernel) rfl
theorem gw228 : (Cond.methodLink "RopeBorder$Reader" (3 : Nat) ({ cls := "java/lang/Object", name := "<init>", desc := "()V" } : MethodName)) ∈ kG := gwi 228 (by decide +kernel) rfl
theorem gw230 : (Cond.fieldLink "RopeBorder$Reader" (21 : Nat) "RopeBorder$Reader" "tape" "[I") ∈ kG := gwi 230 (by decide +kernel) rfl
theorem gw231 : (Cond.fieldLink "RopeBorder$Reader" (9 : Nat) "RopeBorder$Reader" "code" "[I") ∈ kG := gwi 231 (by decide +kernel) rfl
theorem gw232 : (Cond.fieldLink "RopeBorder" (212 : Nat) "RopeBorder$Reader" "code" "[I") ∈ kG := gwi 232 (by decide +kernel) rfl
theorem gw233 : (Cond.fieldLink "RopeBorder$Reader" (36 : Nat) "RopeBorder$Reader" "size" "I") ∈ kG := gwi 233 (by decide +kernel) rfl
theorem gw234 : (Cond.fieldLink "RopeBorder" (215 : Nat) "RopeBorder$Reader" "size" "I") ∈ kG := gwi 234 (by decide +kernel) rfl
theorem gw235 : (Cond.fieldLink "RopeBorder$Reader" (32 : Nat) "RopeBorder$Reader" "length" "I") ∈ kG := gwi 235 (by decide +kernel) rfl
theorem gw236 : (Cond.fieldLink "RopeBorder$Reader" (39 : Nat) "RopeBorder$Reader" "at" "I") ∈ kG := gwi 236 (by decide +kernel) rfl
theorem gw237 : (Cond.fieldLink "RopeBorder" (205 : Nat) "RopeBorder$Reader" "at" "I") ∈ kG := gwi 237 (by decide +kernel) rfl
theorem gw238 : (Cond.fieldLink "RopeBorder$Reader" (17 : Nat) "RopeBorder$Reader" "names" "Ljava/lang/String;") ∈ kG := gwi 238 (by decide +kernel) rfl
theorem gw257 : (Cond.code ({ cls := "RopeBorder$Voices", name := "<init>", desc := "()V" } : MethodName) prog_9_method_1_code (1 : Nat) (none : Option FieldType)) ∈ kG := gwi 257 (by decide +kernel) rfl
theorem gw258 : (Cond.methodLink "RopeBorder$Voices" (3 : Nat) ({ cls := "java/lang/Object", name := "<init>", desc := "()V" } : MethodName)) ∈ kG := gwi 258 (by decide +kernel) rfl
theorem gw259 : (Cond.fieldLink "RopeBorder$Voices" (11 : Nat) "RopeBorder$Voices" "bodies" "[I") ∈ kG := gwi 259 (by decide +kernel) rfl
theorem gw260 : (Cond.fieldLink "RopeBorder" (304 : Nat) "RopeBorder$Voices" "bodies" "[I") ∈ kG := gwi 260 (by decide +kernel) rfl
theorem gw261 : (Cond.fieldLink "RopeBorder$Voices" (25 : Nat) "RopeBorder$Voices" "traced" "I") ∈ kG := gwi 261 (by decide +kernel) rfl
theorem gw262 : (Cond.fieldLink "RopeBorder" (301 : Nat) "RopeBorder$Voices" "traced" "I") ∈ kG := gwi 262 (by decide +kernel) rfl
theorem gw263 : (Cond.fieldLink "RopeBorder$Voices" (15 : Nat) "RopeBorder$Voices" "kind" "I") ∈ kG := gwi 263 (by decide +kernel) rfl
theorem gw264 : (Cond.fieldLink "RopeBorder$Voices" (19 : Nat) "RopeBorder$Voices" "n" "I") ∈ kG := gwi 264 (by decide +kernel) rfl
theorem gw265 : (Cond.fieldLink "RopeBorder$Voices" (22 : Nat) "RopeBorder$Voices" "m" "I") ∈ kG := gwi 265 (by decide +kernel) rfl
theorem gw282 : (Cond.code ({ cls := "RopeBorder$Sheet", name := "<init>", desc := "()V" } : MethodName) prog_7_method_1_code (1 : Nat) (none : Option FieldType)) ∈ kG := gwi 282 (by decide +kernel) rfl
theorem gw283 : (Cond.methodLink "RopeBorder$Sheet" (3 : Nat) ({ cls := "java/lang/Object", name := "<init>", desc := "()V" } : MethodName)) ∈ kG := gwi 283 (by decide +kernel) rfl
theorem gw284 : (Cond.fieldLink "RopeBorder$Sheet" (9 : Nat) "RopeBorder$Sheet" "numbers" "[I") ∈ kG := gwi 284 (by decide +kernel) rfl
theorem gw285 : (Cond.fieldLink "RopeBorder" (320 : Nat) "RopeBorder$Sheet" "numbers" "[I") ∈ kG := gwi 285 (by decide +kernel) rfl
theorem gw286 : (Cond.fieldLink "RopeBorder$Sheet" (15 : Nat) "RopeBorder$Sheet" "bits" "I") ∈ kG := gwi 286 (by decide +kernel) rfl
theorem gw287 : (Cond.fieldLink "RopeBorder" (314 : Nat) "RopeBorder$Sheet" "bits" "I") ∈ kG := gwi 287 (by decide +kernel) rfl
theorem gw288 : (Cond.fieldLink "RopeBorder$Sheet" (19 : Nat) "RopeBorder$Sheet" "size" "I") ∈ kG := gwi 288 (by decide +kernel) rfl
theorem gw289 : (Cond.fieldLink "RopeBorder" (283 : Nat) "RopeBorder$Sheet" "size" "I") ∈ kG := gwi 289 (by decide +kernel) rfl
theorem gw297 : (Cond.fieldLink "RopeBorder" (10 : Nat) "RopeBorder" "now" "LRopeBorder$Kept;") ∈ kG := gwi 297 (by decide +kernel) rfl
theorem gw298 : (Cond.fieldLink "RopeBorder" (16 : Nat) "RopeBorder" "imaged" "LRopeBorder$Kept;") ∈ kG := gwi 298 (by decide +kernel) rfl
theorem gw299 : (Cond.fieldLink "RopeBorder" (31 : Nat) "RopeBorder" "thought" "LRopeBorder$Border;") ∈ kG := gwi 299 (by decide +kernel) rfl
theorem gw300 : (Cond.fieldLink "RopeBorder" (44 : Nat) "RopeBorder" "reader" "LRopeBorder$Reader;") ∈ kG := gwi 300 (by decide +kernel) rfl
theorem gw301 : (Cond.fieldLink "RopeBorder" (51 : Nat) "RopeBorder" "voices" "LRopeBorder$Voices;") ∈ kG := gwi 301 (by decide +kernel) rfl
theorem gw302 : (Cond.fieldLink "RopeBorder" (57 : Nat) "RopeBorder" "sheets" "[LRopeBorder$Sheet;") ∈ kG := gwi 302 (by decide +kernel) rfl
theorem gw303 : (Cond.fieldLink "RopeBorder" (61 : Nat) "RopeBorder" "errors" "[I") ∈ kG := gwi 303 (by decide +kernel) rfl
theorem gw304 : (Cond.fieldLink "RopeBorder" (338 : Nat) "RopeBorder" "images" "I") ∈ kG := gwi 304 (by decide +kernel) rfl
theorem gw322 : (Cond.methodLink "RopeBorderLaw" (13 : Nat) ({ cls := "RopeBorder", name := "rope", desc := "(I)I" } : MethodName)) ∈ kG := gwi 322 (by decide +kernel) rfl
theorem gw323 : (Cond.instanceMethod ({ cls := "RopeBorder", name := "rope", desc := "(I)I" } : MethodName)) ∈ kG := gwi 323 (by decide +kernel) rfl
theorem gw324 : (Cond.selects "RopeBorder" ({ cls := "RopeBorder", name := "rope", desc := "(I)I" } : MethodName) ({ cls := "RopeBorder", name := "rope", desc := "(I)I" } : MethodName)) ∈ kG := gwi 324 (by decide +kernel) rfl
theorem gw325 : (Cond.code ({ cls := "RopeBorder", name := "rope", desc := "(I)I" } : MethodName) prog_1_method_2_code (3 : Nat) (some FieldType.int)) ∈ kG := gwi 325 (by decide +kernel) rfl
theorem gw326 : (Cond.methodLink "RopeBorder" (65 : Nat) ({ cls := "RopeBorder", name := "isWithin", desc := "(III)Z" } : MethodName)) ∈ kG := gwi 326 (by decide +kernel) rfl
theorem gw327 : (Cond.static ({ cls := "RopeBorder", name := "isWithin", desc := "(III)Z" } : MethodName)) ∈ kG := gwi 327 (by decide +kernel) rfl
theorem gw328 : (Cond.code ({ cls := "RopeBorder", name := "isWithin", desc := "(III)Z" } : MethodName) prog_1_method_45_code (3 : Nat) (some FieldType.boolean)) ∈ kG := gwi 328 (by decide +kernel) rfl
theorem gw329 : (Cond.methodLink "RopeBorder" (69 : Nat) ({ cls := "RopeBorder", name := "refuse", desc := "(I)I" } : MethodName)) ∈ kG := gwi 329 (by decide +kernel) rfl
theorem gw331 : (Cond.instanceMethod ({ cls := "RopeBorder", name := "refuse", desc := "(I)I" } : MethodName)) ∈ kG := gwi 331 (by decide +kernel) rfl
theorem gw332 : (Cond.code ({ cls := "RopeBorder", name := "refuse", desc := "(I)I" } : MethodName) prog_1_method_44_code (2 : Nat) (some FieldType.int)) ∈ kG := gwi 332 (by decide +kernel) rfl
theorem gw333 : (Cond.constant "RopeBorder" (347 : Nat) (-1000000000 : Int32)) ∈ kG := gwi 333 (by decide +kernel) rfl
theorem gw334 : (Cond.methodLink "RopeBorder" (83 : Nat) ({ cls := "RopeBorder$Border", name := "layRope", desc := "(I)V" } : MethodName)) ∈ kG := gwi 334 (by decide +kernel) rfl
theorem gw335 : (Cond.instanceMethod ({ cls := "RopeBorder$Border", name := "layRope", desc := "(I)V" } : MethodName)) ∈ kG := gwi 335 (by decide +kernel) rfl
theorem gw336 : (Cond.selects "RopeBorder$Border" ({ cls := "RopeBorder$Border", name := "layRope", desc := "(I)V" } : MethodName) ({ cls := "RopeBorder$Border", name := "layRope", desc := "(I)V" } : MethodName)) ∈ kG := gwi 336 (by decide +kernel) rfl
theorem gw337 : (Cond.code ({ cls := "RopeBorder$Border", name := "layRope", desc := "(I)V" } : MethodName) prog_2_method_3_code (3 : Nat) (none : Option FieldType)) ∈ kG := gwi 337 (by decide +kernel) rfl
theorem gw338 : (Cond.methodLink "RopeBorderLaw" (18 : Nat) ({ cls := "RopeBorder", name := "rhyme", desc := "(II)I" } : MethodName)) ∈ kG := gwi 338 (by decide +kernel) rfl
theorem gw339 : (Cond.instanceMethod ({ cls := "RopeBorder", name := "rhyme", desc := "(II)I" } : MethodName)) ∈ kG := gwi 339 (by decide +kernel) rfl
theorem gw340 : (Cond.selects "RopeBorder" ({ cls := "RopeBorder", name := "rhyme", desc := "(II)I" } : MethodName) ({ cls := "RopeBorder", name := "rhyme", desc := "(II)I" } : MethodName)) ∈ kG := gwi 340 (by decide +kernel) rfl
theorem gw341 : (Cond.code ({ cls := "RopeBorder", name := "rhyme", desc := "(II)I" } : MethodName) prog_1_method_3_code (4 : Nat) (some FieldType.int)) ∈ kG := gwi 341 (by decide +kernel) rfl
theorem gw342 : (Cond.methodLink "RopeBorder" (87 : Nat) ({ cls := "RopeBorder", name := "isSetOf", desc := "(II)Z" } : MethodName)) ∈ kG := gwi 342 (by decide +kernel) rfl
theorem gw343 : (Cond.static ({ cls := "RopeBorder", name := "isSetOf", desc := "(II)Z" } : MethodName)) ∈ kG := gwi 343 (by decide +kernel) rfl
theorem gw344 : (Cond.code ({ cls := "RopeBorder", name := "isSetOf", desc := "(II)Z" } : MethodName) prog_1_method_46_code (2 : Nat) (some FieldType.boolean)) ∈ kG := gwi 344 (by decide +kernel) rfl
theorem gw345 : (Cond.methodLink "RopeBorderLaw" (23 : Nat) ({ cls := "RopeBorder", name := "turner", desc := "(I)I" } : MethodName)) ∈ kG := gwi 345 (by decide +kernel) rfl
theorem gw346 : (Cond.instanceMethod ({ cls := "RopeBorder", name := "turner", desc := "(I)I" } : MethodName)) ∈ kG := gwi 346 (by decide +kernel) rfl
theorem gw347 : (Cond.selects "RopeBorder" ({ cls := "RopeBorder", name := "turner", desc := "(I)I" } : MethodName) ({ cls := "RopeBorder", name := "turner", desc := "(I)I" } : MethodName)) ∈ kG := gwi 347 (by decide +kernel) rfl
theorem gw348 : (Cond.code ({ cls := "RopeBorder", name := "turner", desc := "(I)I" } : MethodName) prog_1_method_4_code (2 : Nat) (some FieldType.int)) ∈ kG := gwi 348 (by decide +kernel) rfl
theorem gw349 : (Cond.methodLink "RopeBorder" (100 : Nat) ({ cls := "RopeBorder$Border", name := "addTurner", desc := "(I)I" } : MethodName)) ∈ kG := gwi 349 (by decide +kernel) rfl
theorem gw350 : (Cond.instanceMethod ({ cls := "RopeBorder$Border", name := "addTurner", desc := "(I)I" } : MethodName)) ∈ kG := gwi 350 (by decide +kernel) rfl
theorem gw351 : (Cond.selects "RopeBorder$Border" ({ cls := "RopeBorder$Border", name := "addTurner", desc := "(I)I" } : MethodName) ({ cls := "RopeBorder$Border", name := "addTurner", desc := "(I)I" } : MethodName)) ∈ kG := gwi 351 (by decide +kernel) rfl
theorem gw352 : (Cond.code ({ cls := "RopeBorder$Border", name := "addTurner", desc := "(I)I" } : MethodName) prog_2_method_4_code (3 : Nat) (some FieldType.int)) ∈ kG := gwi 352 (by decide +kernel) rfl
theorem gw353 : (Cond.methodLink "RopeBorderLaw" (27 : Nat) ({ cls := "RopeBorder", name := "ofTurner", desc := "(II)I" } : MethodName)) ∈ kG := gwi 353 (by decide +kernel) rfl
theorem gw354 : (Cond.instanceMethod ({ cls := "RopeBorder", name := "ofTurner", desc := "(II)I" } : MethodName)) ∈ kG := gwi 354 (by decide +kernel) rfl
theorem gw355 : (Cond.selects "RopeBorder" ({ cls := "RopeBorder", name := "ofTurner", desc := "(II)I" } : MethodName) ({ cls := "RopeBorder", name := "ofTurner", desc := "(II)I" } : MethodName)) ∈ kG := gwi 355 (by decide +kernel) rfl
theorem gw356 : (Cond.code ({ cls := "RopeBorder", name := "ofTurner", desc := "(II)I" } : MethodName) prog_1_method_5_code (4 : Nat) (some FieldType.int)) ∈ kG := gwi 356 (by decide +kernel) rfl
theorem gw357 : (Cond.methodLink "RopeBorder" (103 : Nat) ({ cls := "RopeBorder", name := "isTurner", desc := "(I)Z" } : MethodName)) ∈ kG := gwi 357 (by decide +kernel) rfl
theorem gw359 : (Cond.instanceMethod ({ cls := "RopeBorder", name := "isTurner", desc := "(I)Z" } : MethodName)) ∈ kG := gwi 359 (by decide +kernel) rfl
theorem gw360 : (Cond.code ({ cls := "RopeBorder", name := "isTurner", desc := "(I)Z" } : MethodName) prog_1_method_52_code (2 : Nat) (some FieldType.boolean)) ∈ kG := gwi 360 (by decide +kernel) rfl
theorem gw361 : (Cond.methodLink "RopeBorder" (122 : Nat) ({ cls := "RopeBorder", name := "asNumber", desc := "(Z)I" } : MethodName)) ∈ kG := gwi 361 (by decide +kernel) rfl
theorem gw362 : (Cond.static ({ cls := "RopeBorder", name := "asNumber", desc := "(Z)I" } : MethodName)) ∈ kG := gwi 362 (by decide +kernel) rfl
theorem gw363 : (Cond.code ({ cls := "RopeBorder", name := "asNumber", desc := "(Z)I" } : MethodName) prog_1_method_47_code (1 : Nat) (some FieldType.int)) ∈ kG := gwi 363 (by decide +kernel) rfl
theorem gw364 : (Cond.methodLink "RopeBorderLaw" (31 : Nat) ({ cls := "RopeBorder", name := "relieve", desc := "(I)I" } : MethodName)) ∈ kG := gwi 364 (by decide +kernel) rfl
theorem gw365 : (Cond.instanceMethod ({ cls := "RopeBorder", name := "relieve", desc := "(I)I" } : MethodName)) ∈ kG := gwi 365 (by decide +kernel) rfl
theorem gw366 : (Cond.selects "RopeBorder" ({ cls := "RopeBorder", name := "relieve", desc := "(I)I" } : MethodName) ({ cls := "RopeBorder", name := "relieve", desc := "(I)I" } : MethodName)) ∈ kG := gwi 366 (by decide +kernel) rfl
theorem gw367 : (Cond.code ({ cls := "RopeBorder", name := "relieve", desc := "(I)I" } : MethodName) prog_1_method_6_code (3 : Nat) (some FieldType.int)) ∈ kG := gwi 367 (by decide +kernel) rfl
theorem gw368 : (Cond.methodLink "RopeBorderLaw" (35 : Nat) ({ cls := "RopeBorder", name := "crosser", desc := "(III)I" } : MethodName)) ∈ kG := gwi 368 (by decide +kernel) rfl
theorem gw369 : (Cond.instanceMethod ({ cls := "RopeBorder", name := "crosser", desc := "(III)I" } : MethodName)) ∈ kG := gwi 369 (by decide +kernel) rfl
theorem gw370 : (Cond.selects "RopeBorder" ({ cls := "RopeBorder", name := "crosser", desc := "(III)I" } : MethodName) ({ cls := "RopeBorder", name := "crosser", desc := "(III)I" } : MethodName)) ∈ kG := gwi 370 (by decide +kernel) rfl
theorem gw371 : (Cond.code ({ cls := "RopeBorder", name := "crosser", desc := "(III)I" } : MethodName) prog_1_method_7_code (4 : Nat) (some FieldType.int)) ∈ kG := gwi 371 (by decide +kernel) rfl
theorem gw372 : (Cond.methodLink "RopeBorder" (126 : Nat) ({ cls := "RopeBorder", name := "isKindAndNumber", desc := "(I)Z" } : MethodName)) ∈ kG := gwi 372 (by decide +kernel) rfl
theorem gw373 : (Cond.static ({ cls := "RopeBorder", name := "isKindAndNumber", desc := "(I)Z" } : MethodName)) ∈ kG := gwi 373 (by decide +kernel) rfl
theorem gw374 : (Cond.code ({ cls := "RopeBorder", name := "isKindAndNumber", desc := "(I)Z" } : MethodName) prog_1_method_50_code (1 : Nat) (some FieldType.boolean)) ∈ kG := gwi 374 (by decide +kernel) rfl
theorem gw375 : (Cond.methodLink "RopeBorder" (129 : Nat) ({ cls := "RopeBorder", name := "isPlace", desc := "(I)Z" } : MethodName)) ∈ kG := gwi 375 (by decide +kernel) rfl
theorem gw377 : (Cond.instanceMethod ({ cls := "RopeBorder", name := "isPlace", desc := "(I)Z" } : MethodName)) ∈ kG := gwi 377 (by decide +kernel) rfl
theorem gw378 : (Cond.code ({ cls := "RopeBorder", name := "isPlace", desc := "(I)Z" } : MethodName) prog_1_method_51_code (2 : Nat) (some FieldType.boolean)) ∈ kG := gwi 378 (by decide +kernel) rfl
theorem gw379 : (Cond.methodLink "RopeBorder" (132 : Nat) ({ cls := "RopeBorder$Border", name := "addCrosser", desc := "(III)I" } : MethodName)) ∈ kG := gwi 379 (by decide +kernel) rfl
theorem gw380 : (Cond.instanceMethod ({ cls := "RopeBorder$Border", name := "addCrosser", desc := "(III)I" } : MethodName)) ∈ kG := gwi 380 (by decide +kernel) rfl
theorem gw381 : (Cond.selects "RopeBorder$Border" ({ cls := "RopeBorder$Border", name := "addCrosser", desc := "(III)I" } : MethodName) ({ cls := "RopeBorder$Border", name := "addCrosser", desc := "(III)I" } : MethodName)) ∈ kG := gwi 381 (by decide +kernel) rfl
theorem gw382 : (Cond.code ({ cls := "RopeBorder$Border", name := "addCrosser", desc := "(III)I" } : MethodName) prog_2_method_5_code (6 : Nat) (some FieldType.int)) ∈ kG := gwi 382 (by decide +kernel) rfl
theorem gw383 : (Cond.methodLink "RopeBorder$Border" (80 : Nat) ({ cls := "RopeBorder$Crosser", name := "takeKind", desc := "(I)V" } : MethodName)) ∈ kG := gwi 383 (by decide +kernel) rfl
theorem gw384 : (Cond.instanceMethod ({ cls := "RopeBorder$Crosser", name := "takeKind", desc := "(I)V" } : MethodName)) ∈ kG := gwi 384 (by decide +kernel) rfl
theorem gw385 : (Cond.selects "RopeBorder$Crosser" ({ cls := "RopeBorder$Crosser", name := "takeKind", desc := "(I)V" } : MethodName) ({ cls := "RopeBorder$Crosser", name := "takeKind", desc := "(I)V" } : MethodName)) ∈ kG := gwi 385 (by decide +kernel) rfl
theorem gw386 : (Cond.code ({ cls := "RopeBorder$Crosser", name := "takeKind", desc := "(I)V" } : MethodName) prog_3_method_3_code (2 : Nat) (none : Option FieldType)) ∈ kG := gwi 386 (by decide +kernel) rfl
theorem gw387 : (Cond.methodLink "RopeBorderLaw" (40 : Nat) ({ cls := "RopeBorder", name := "ofCrosser", desc := "(II)I" } : MethodName)) ∈ kG := gwi 387 (by decide +kernel) rfl
theorem gw388 : (Cond.instanceMethod ({ cls := "RopeBorder", name := "ofCrosser", desc := "(II)I" } : MethodName)) ∈ kG := gwi 388 (by decide +kernel) rfl
theorem gw389 : (Cond.selects "RopeBorder" ({ cls := "RopeBorder", name := "ofCrosser", desc := "(II)I" } : MethodName) ({ cls := "RopeBorder", name := "ofCrosser", desc := "(II)I" } : MethodName)) ∈ kG := gwi 389 (by decide +kernel) rfl
theorem gw390 : (Cond.code ({ cls := "RopeBorder", name := "ofCrosser", desc := "(II)I" } : MethodName) prog_1_method_8_code (4 : Nat) (some FieldType.int)) ∈ kG := gwi 390 (by decide +kernel) rfl
theorem gw391 : (Cond.methodLink "RopeBorder" (136 : Nat) ({ cls := "RopeBorder", name := "isCrosser", desc := "(I)Z" } : MethodName)) ∈ kG := gwi 391 (by decide +kernel) rfl
theorem gw393 : (Cond.instanceMethod ({ cls := "RopeBorder", name := "isCrosser", desc := "(I)Z" } : MethodName)) ∈ kG := gwi 393 (by decide +kernel) rfl
theorem gw394 : (Cond.code ({ cls := "RopeBorder", name := "isCrosser", desc := "(I)Z" } : MethodName) prog_1_method_53_code (2 : Nat) (some FieldType.boolean)) ∈ kG := gwi 394 (by decide +kernel) rfl
theorem gw395 : (Cond.methodLink "RopeBorder" (166 : Nat) ({ cls := "RopeBorder$Border", name := "needsOf", desc := "(LRopeBorder$Crosser;)I" } : MethodName)) ∈ kG := gwi 395 (by decide +kernel) rfl
theorem gw396 : (Cond.instanceMethod ({ cls := "RopeBorder$Border", name := "needsOf", desc := "(LRopeBorder$Crosser;)I" } : MethodName)) ∈ kG := gwi 396 (by decide +kernel) rfl
theorem gw397 : (Cond.selects "RopeBorder$Border" ({ cls := "RopeBorder$Border", name := "needsOf", desc := "(LRopeBorder$Crosser;)I" } : MethodName) ({ cls := "RopeBorder$Border", name := "needsOf", desc := "(LRopeBorder$Crosser;)I" } : MethodName)) ∈ kG := gwi 397 (by decide +kernel) rfl
theorem gw398 : (Cond.code ({ cls := "RopeBorder$Border", name := "needsOf", desc := "(LRopeBorder$Crosser;)I" } : MethodName) prog_2_method_9_code (2 : Nat) (some FieldType.int)) ∈ kG := gwi 398 (by decide +kernel) rfl
theorem gw399 : (Cond.methodLink "RopeBorder$Border" (103 : Nat) ({ cls := "RopeBorder$Law", name := "gives", desc := "(III)I" } : MethodName)) ∈ kG := gwi 399 (by decide +kernel) rfl
theorem gw400 : (Cond.instanceMethod ({ cls := "RopeBorder$Law", name := "gives", desc := "(III)I" } : MethodName)) ∈ kG := gwi 400 (by decide +kernel) rfl
theorem gw401 : (Cond.selects "RopeBorder$Law" ({ cls := "RopeBorder$Law", name := "gives", desc := "(III)I" } : MethodName) ({ cls := "RopeBorder$Law", name := "gives", desc := "(III)I" } : MethodName)) ∈ kG := gwi 401 (by decide +kernel) rfl
theorem gw402 : (Cond.code ({ cls := "RopeBorder$Law", name := "gives", desc := "(III)I" } : MethodName) prog_5_method_3_code (7 : Nat) (some FieldType.int)) ∈ kG := gwi 402 (by decide +kernel) rfl
theorem gw403 : (Cond.methodLink "RopeBorder$Law" (44 : Nat) ({ cls := "RopeBorder$Law", name := "joined", desc := "(III)I" } : MethodName)) ∈ kG := gwi 403 (by decide +kernel) rfl
theorem gw404 : (Cond.static ({ cls := "RopeBorder$Law", name := "joined", desc := "(III)I" } : MethodName)) ∈ kG := gwi 404 (by decide +kernel) rfl
theorem gw405 : (Cond.code ({ cls := "RopeBorder$Law", name := "joined", desc := "(III)I" } : MethodName) prog_5_method_4_code (3 : Nat) (some FieldType.int)) ∈ kG := gwi 405 (by decide +kernel) rfl
theorem gw406 : (Cond.methodLink "RopeBorder$Law" (48 : Nat) ({ cls := "java/lang/Math", name := "max", desc := "(II)I" } : MethodName)) ∈ kG := gwi 406 (by decide +kernel) rfl
theorem gw407 : (Cond.static ({ cls := "java/lang/Math", name := "max", desc := "(II)I" } : MethodName)) ∈ kG := gwi 407 (by decide +kernel) rfl
theorem gw408 : (Cond.code ({ cls := "java/lang/Math", name := "max", desc := "(II)I" } : MethodName) prog_14_method_65_code (2 : Nat) (some FieldType.int)) ∈ kG := gwi 408 (by decide +kernel) rfl
theorem gw409 : (Cond.methodLink "RopeBorder$Border" (109 : Nat) ({ cls := "RopeBorder$Crosser", name := "needsWith", desc := "(I)I" } : MethodName)) ∈ kG := gwi 409 (by decide +kernel) rfl
theorem gw410 : (Cond.instanceMethod ({ cls := "RopeBorder$Crosser", name := "needsWith", desc := "(I)I" } : MethodName)) ∈ kG := gwi 410 (by decide +kernel) rfl
theorem gw411 : (Cond.selects "RopeBorder$Crosser" ({ cls := "RopeBorder$Crosser", name := "needsWith", desc := "(I)I" } : MethodName) ({ cls := "RopeBorder$Crosser", name := "needsWith", desc := "(I)I" } : MethodName)) ∈ kG := gwi 411 (by decide +kernel) rfl
theorem gw412 : (Cond.code ({ cls := "RopeBorder$Crosser", name := "needsWith", desc := "(I)I" } : MethodName) prog_3_method_6_code (2 : Nat) (some FieldType.int)) ∈ kG := gwi 412 (by decide +kernel) rfl
theorem gw413 : (Cond.methodLink "RopeBorder$Crosser" (37 : Nat) ({ cls := "java/lang/Math", name := "max", desc := "(II)I" } : MethodName)) ∈ kG := gwi 413 (by decide +kernel) rfl
theorem gw414 : (Cond.methodLink "RopeBorder" (170 : Nat) ({ cls := "RopeBorder$Crosser", name := "wearsByJump", desc := "()I" } : MethodName)) ∈ kG := gwi 414 (by decide +kernel) rfl
theorem gw415 : (Cond.instanceMethod ({ cls := "RopeBorder$Crosser", name := "wearsByJump", desc := "()I" } : MethodName)) ∈ kG := gwi 415 (by decide +kernel) rfl
theorem gw416 : (Cond.selects "RopeBorder$Crosser" ({ cls := "RopeBorder$Crosser", name := "wearsByJump", desc := "()I" } : MethodName) ({ cls := "RopeBorder$Crosser", name := "wearsByJump", desc := "()I" } : MethodName)) ∈ kG := gwi 416 (by decide +kernel) rfl
theorem gw417 : (Cond.code ({ cls := "RopeBorder$Crosser", name := "wearsByJump", desc := "()I" } : MethodName) prog_3_method_7_code (1 : Nat) (some FieldType.int)) ∈ kG := gwi 417 (by decide +kernel) rfl
theorem gw418 : (Cond.methodLink "RopeBorder" (174 : Nat) ({ cls := "RopeBorder$Border", name := "isGoing", desc := "(I)Z" } : MethodName)) ∈ kG := gwi 418 (by decide +kernel) rfl
theorem gw419 : (Cond.instanceMethod ({ cls := "RopeBorder$Border", name := "isGoing", desc := "(I)Z" } : MethodName)) ∈ kG := gwi 419 (by decide +kernel) rfl
theorem gw420 : (Cond.selects "RopeBorder$Border" ({ cls := "RopeBorder$Border", name := "isGoing", desc := "(I)Z" } : MethodName) ({ cls := "RopeBorder$Border", name := "isGoing", desc := "(I)Z" } : MethodName)) ∈ kG := gwi 420 (by decide +kernel) rfl
theorem gw421 : (Cond.code ({ cls := "RopeBorder$Border", name := "isGoing", desc := "(I)Z" } : MethodName) prog_2_method_6_code (2 : Nat) (some FieldType.boolean)) ∈ kG := gwi 421 (by decide +kernel) rfl
theorem gw422 : (Cond.methodLink "RopeBorderLaw" (44 : Nat) ({ cls := "RopeBorder", name := "change", desc := "(III)I" } : MethodName)) ∈ kG := gwi 422 (by decide +kernel) rfl
theorem gw423 : (Cond.instanceMethod ({ cls := "RopeBorder", name := "change", desc := "(III)I" } : MethodName)) ∈ kG := gwi 423 (by decide +kernel) rfl
theorem gw424 : (Cond.selects "RopeBorder" ({ cls := "RopeBorder", name := "change", desc := "(III)I" } : MethodName) ({ cls := "RopeBorder", name := "change", desc := "(III)I" } : MethodName)) ∈ kG := gwi 424 (by decide +kernel) rfl
theorem gw425 : (Cond.code ({ cls := "RopeBorder", name := "change", desc := "(III)I" } : MethodName) prog_1_method_9_code (4 : Nat) (some FieldType.int)) ∈ kG := gwi 425 (by decide +kernel) rfl
theorem gw426 : (Cond.methodLink "RopeBorder" (177 : Nat) ({ cls := "RopeBorder", name := "canBecome", desc := "(II)Z" } : MethodName)) ∈ kG := gwi 426 (by decide +kernel) rfl
theorem gw428 : (Cond.instanceMethod ({ cls := "RopeBorder", name := "canBecome", desc := "(II)Z" } : MethodName)) ∈ kG := gwi 428 (by decide +kernel) rfl
theorem gw429 : (Cond.code ({ cls := "RopeBorder", name := "canBecome", desc := "(II)Z" } : MethodName) prog_1_method_54_code (3 : Nat) (some FieldType.boolean)) ∈ kG := gwi 429 (by decide +kernel) rfl
theorem gw430 : (Cond.methodLink "RopeBorder" (180 : Nat) ({ cls := "RopeBorder$Crosser", name := "exchange", desc := "(II)I" } : MethodName)) ∈ kG := gwi 430 (by decide +kernel) rfl
theorem gw431 : (Cond.instanceMethod ({ cls := "RopeBorder$Crosser", name := "exchange", desc := "(II)I" } : MethodName)) ∈ kG := gwi 431 (by decide +kernel) rfl
theorem gw432 : (Cond.selects "RopeBorder$Crosser" ({ cls := "RopeBorder$Crosser", name := "exchange", desc := "(II)I" } : MethodName) ({ cls := "RopeBorder$Crosser", name := "exchange", desc := "(II)I" } : MethodName)) ∈ kG := gwi 432 (by decide +kernel) rfl
theorem gw433 : (Cond.code ({ cls := "RopeBorder$Crosser", name := "exchange", desc := "(II)I" } : MethodName) prog_3_method_5_code (4 : Nat) (some FieldType.int)) ∈ kG := gwi 433 (by decide +kernel) rfl
theorem gw434 : (Cond.methodLink "RopeBorderLaw" (48 : Nat) ({ cls := "RopeBorder", name := "become", desc := "(II)I" } : MethodName)) ∈ kG := gwi 434 (by decide +kernel) rfl
theorem gw435 : (Cond.instanceMethod ({ cls := "RopeBorder", name := "become", desc := "(II)I" } : MethodName)) ∈ kG := gwi 435 (by decide +kernel) rfl
theorem gw436 : (Cond.selects "RopeBorder" ({ cls := "RopeBorder", name := "become", desc := "(II)I" } : MethodName) ({ cls := "RopeBorder", name := "become", desc := "(II)I" } : MethodName)) ∈ kG := gwi 436 (by decide +kernel) rfl
theorem gw437 : (Cond.code ({ cls := "RopeBorder", name := "become", desc := "(II)I" } : MethodName) prog_1_method_10_code (5 : Nat) (some FieldType.int)) ∈ kG := gwi 437 (by decide +kernel) rfl
theorem gw438 : (Cond.methodLink "RopeBorder" (184 : Nat) ({ cls := "RopeBorder$Crosser", name := "takeKind", desc := "(I)V" } : MethodName)) ∈ kG := gwi 438 (by decide +kernel) rfl
theorem gw439 : (Cond.methodLink "RopeBorderLaw" (52 : Nat) ({ cls := "RopeBorder", name := "as", desc := "(II)I" } : MethodName)) ∈ kG := gwi 439 (by decide +kernel) rfl
theorem gw440 : (Cond.instanceMethod ({ cls := "RopeBorder", name := "as", desc := "(II)I" } : MethodName)) ∈ kG := gwi 440 (by decide +kernel) rfl
theorem gw441 : (Cond.selects "RopeBorder" ({ cls := "RopeBorder", name := "as", desc := "(II)I" } : MethodName) ({ cls := "RopeBorder", name := "as", desc := "(II)I" } : MethodName)) ∈ kG := gwi 441 (by decide +kernel) rfl
theorem gw442 : (Cond.code ({ cls := "RopeBorder", name := "as", desc := "(II)I" } : MethodName) prog_1_method_11_code (4 : Nat) (some FieldType.int)) ∈ kG := gwi 442 (by decide +kernel) rfl
theorem gw443 : (Cond.methodLink "RopeBorder" (187 : Nat) ({ cls := "RopeBorder$Crosser", name := "isOfKind", desc := "(I)Z" } : MethodName)) ∈ kG := gwi 443 (by decide +kernel) rfl
theorem gw444 : (Cond.instanceMethod ({ cls := "RopeBorder$Crosser", name := "isOfKind", desc := "(I)Z" } : MethodName)) ∈ kG := gwi 444 (by decide +kernel) rfl
theorem gw445 : (Cond.selects "RopeBorder$Crosser" ({ cls := "RopeBorder$Crosser", name := "isOfKind", desc := "(I)Z" } : MethodName) ({ cls := "RopeBorder$Crosser", name := "isOfKind", desc := "(I)Z" } : MethodName)) ∈ kG := gwi 445 (by decide +kernel) rfl
theorem gw446 : (Cond.code ({ cls := "RopeBorder$Crosser", name := "isOfKind", desc := "(I)Z" } : MethodName) prog_3_method_4_code (4 : Nat) (some FieldType.boolean)) ∈ kG := gwi 446 (by decide +kernel) rfl
theorem gw449 : (Cond.methodLink "RopeBorderLaw" (56 : Nat) ({ cls := "RopeBorder", name := "go", desc := "(I)I" } : MethodName)) ∈ kG := gwi 449 (by decide +kernel) rfl
theorem gw450 : (Cond.instanceMethod ({ cls := "RopeBorder", name := "go", desc := "(I)I" } : MethodName)) ∈ kG := gwi 450 (by decide +kernel) rfl
theorem gw451 : (Cond.selects "RopeBorder" ({ cls := "RopeBorder", name := "go", desc := "(I)I" } : MethodName) ({ cls := "RopeBorder", name := "go", desc := "(I)I" } : MethodName)) ∈ kG := gwi 451 (by decide +kernel) rfl
theorem gw452 : (Cond.code ({ cls := "RopeBorder", name := "go", desc := "(I)I" } : MethodName) prog_1_method_12_code (3 : Nat) (some FieldType.int)) ∈ kG := gwi 452 (by decide +kernel) rfl
theorem gw453 : (Cond.methodLink "RopeBorderLaw" (60 : Nat) ({ cls := "RopeBorder", name := "splice", desc := "(II)I" } : MethodName)) ∈ kG := gwi 453 (by decide +kernel) rfl
theorem gw454 : (Cond.instanceMethod ({ cls := "RopeBorder", name := "splice", desc := "(II)I" } : MethodName)) ∈ kG := gwi 454 (by decide +kernel) rfl
theorem gw455 : (Cond.selects "RopeBorder" ({ cls := "RopeBorder", name := "splice", desc := "(II)I" } : MethodName) ({ cls := "RopeBorder", name := "splice", desc := "(II)I" } : MethodName)) ∈ kG := gwi 455 (by decide +kernel) rfl
theorem gw456 : (Cond.code ({ cls := "RopeBorder", name := "splice", desc := "(II)I" } : MethodName) prog_1_method_13_code (4 : Nat) (some FieldType.int)) ∈ kG := gwi 456 (by decide +kernel) rfl
theorem gw457 : (Cond.methodLink "RopeBorderLaw" (66 : Nat) ({ cls := "RopeBorder", name := "feed", desc := "(JI)I" } : MethodName)) ∈ kG := gwi 457 (by decide +kernel) rfl
theorem gw458 : (Cond.instanceMethod ({ cls := "RopeBorder", name := "feed", desc := "(JI)I" } : MethodName)) ∈ kG := gwi 458 (by decide +kernel) rfl
theorem gw459 : (Cond.selects "RopeBorder" ({ cls := "RopeBorder", name := "feed", desc := "(JI)I" } : MethodName) ({ cls := "RopeBorder", name := "feed", desc := "(JI)I" } : MethodName)) ∈ kG := gwi 459 (by decide +kernel) rfl
theorem gw460 : (Cond.code ({ cls := "RopeBorder", name := "feed", desc := "(JI)I" } : MethodName) prog_1_method_14_code (5 : Nat) (some FieldType.int)) ∈ kG := gwi 460 (by decide +kernel) rfl
theorem gw461 : (Cond.methodLink "RopeBorderLaw" (71 : Nat) ({ cls := "RopeBorder", name := "text", desc := "(I)I" } : MethodName)) ∈ kG := gwi 461 (by decide +kernel) rfl
theorem gw462 : (Cond.instanceMethod ({ cls := "RopeBorder", name := "text", desc := "(I)I" } : MethodName)) ∈ kG := gwi 462 (by decide +kernel) rfl
theorem gw463 : (Cond.selects "RopeBorder" ({ cls := "RopeBorder", name := "text", desc := "(I)I" } : MethodName) ({ cls := "RopeBorder", name := "text", desc := "(I)I" } : MethodName)) ∈ kG := gwi 463 (by decide +kernel) rfl
theorem gw464 : (Cond.code ({ cls := "RopeBorder", name := "text", desc := "(I)I" } : MethodName) prog_1_method_15_code (3 : Nat) (some FieldType.int)) ∈ kG := gwi 464 (by decide +kernel) rfl
theorem gw465 : (Cond.methodLink "RopeBorder" (199 : Nat) ({ cls := "RopeBorder", name := "isUse", desc := "(I)Z" } : MethodName)) ∈ kG := gwi 465 (by decide +kernel) rfl
theorem gw466 : (Cond.static ({ cls := "RopeBorder", name := "isUse", desc := "(I)Z" } : MethodName)) ∈ kG := gwi 466 (by decide +kernel) rfl
theorem gw467 : (Cond.code ({ cls := "RopeBorder", name := "isUse", desc := "(I)Z" } : MethodName) prog_1_method_48_code (1 : Nat) (some FieldType.boolean)) ∈ kG := gwi 467 (by decide +kernel) rfl
theorem gw468 : (Cond.methodLink "RopeBorder" (202 : Nat) ({ cls := "RopeBorder$Reader", name := "reads", desc := "(II)Z" } : MethodName)) ∈ kG := gwi 468 (by decide +kernel) rfl
theorem gw469 : (Cond.instanceMethod ({ cls := "RopeBorder$Reader", name := "reads", desc := "(II)Z" } : MethodName)) ∈ kG := gwi 469 (by decide +kernel) rfl
theorem gw470 : (Cond.selects "RopeBorder$Reader" ({ cls := "RopeBorder$Reader", name := "reads", desc := "(II)Z" } : MethodName) ({ cls := "RopeBorder$Reader", name := "reads", desc := "(II)Z" } : MethodName)) ∈ kG := gwi 470 (by decide +kernel) rfl
theorem gw471 : (Cond.code ({ cls := "RopeBorder$Reader", name := "reads", desc := "(II)Z" } : MethodName) prog_6_method_2_code (3 : Nat) (some FieldType.boolean)) ∈ kG := gwi 471 (by decide +kernel) rfl
theorem gw473 : (Cond.methodLink "RopeBorder$Reader" (26 : Nat) ({ cls := "java/lang/Math", name := "min", desc := "(II)I" } : MethodName)) ∈ kG := gwi 473 (by decide +kernel) rfl
theorem gw474 : (Cond.methodLink "RopeBorder$Reader" (42 : Nat) ({ cls := "RopeBorder$Reader", name := "readLevel", desc := "(II)Z" } : MethodName)) ∈ kG := gwi 474 (by decide +kernel) rfl
theorem gw476 : (Cond.instanceMethod ({ cls := "RopeBorder$Reader", name := "readLevel", desc := "(II)Z" } : MethodName)) ∈ kG := gwi 476 (by decide +kernel) rfl
theorem gw477 : (Cond.code ({ cls := "RopeBorder$Reader", name := "readLevel", desc := "(II)Z" } : MethodName) prog_6_method_6_code (6 : Nat) (some FieldType.boolean)) ∈ kG := gwi 477 (by decide +kernel) rfl
theorem gw478 : (Cond.methodLink "RopeBorder$Reader" (46 : Nat) ({ cls := "RopeBorder$Reader", name := "readUnit", desc := "(I)Z" } : MethodName)) ∈ kG := gwi 478 (by decide +kernel) rfl
theorem gw480 : (Cond.instanceMethod ({ cls := "RopeBorder$Reader", name := "readUnit", desc := "(I)Z" } : MethodName)) ∈ kG := gwi 480 (by decide +kernel) rfl
theorem gw481 : (Cond.code ({ cls := "RopeBorder$Reader", name := "readUnit", desc := "(I)Z" } : MethodName) prog_6_method_7_code (4 : Nat) (some FieldType.boolean)) ∈ kG := gwi 481 (by decide +kernel) rfl
theorem gw482 : (Cond.methodLink "RopeBorder$Reader" (50 : Nat) ({ cls := "RopeBorder$Reader", name := "ahead", desc := "()I" } : MethodName)) ∈ kG := gwi 482 (by decide +kernel) rfl
theorem gw484 : (Cond.instanceMethod ({ cls := "RopeBorder$Reader", name := "ahead", desc := "()I" } : MethodName)) ∈ kG := gwi 484 (by decide +kernel) rfl
theorem gw485 : (Cond.code ({ cls := "RopeBorder$Reader", name := "ahead", desc := "()I" } : MethodName) prog_6_method_3_code (1 : Nat) (some FieldType.int)) ∈ kG := gwi 485 (by decide +kernel) rfl
theorem gw486 : (Cond.methodLink "RopeBorder$Reader" (62 : Nat) ({ cls := "RopeBorder$Reader", name := "isDigit", desc := "(I)Z" } : MethodName)) ∈ kG := gwi 486 (by decide +kernel) rfl
theorem gw487 : (Cond.static ({ cls := "RopeBorder$Reader", name := "isDigit", desc := "(I)Z" } : MethodName)) ∈ kG := gwi 487 (by decide +kernel) rfl
theorem gw488 : (Cond.code ({ cls := "RopeBorder$Reader", name := "isDigit", desc := "(I)Z" } : MethodName) prog_6_method_9_code (1 : Nat) (some FieldType.boolean)) ∈ kG := gwi 488 (by decide +kernel) rfl
theorem gw489 : (Cond.methodLink "RopeBorder$Reader" (65 : Nat) ({ cls := "RopeBorder$Reader", name := "readNumber", desc := "()V" } : MethodName)) ∈ kG := gwi 489 (by decide +kernel) rfl
theorem gw491 : (Cond.instanceMethod ({ cls := "RopeBorder$Reader", name := "readNumber", desc := "()V" } : MethodName)) ∈ kG := gwi 491 (by decide +kernel) rfl
theorem gw492 : (Cond.code ({ cls := "RopeBorder$Reader", name := "readNumber", desc := "()V" } : MethodName) prog_6_method_10_code (3 : Nat) (none : Option FieldType)) ∈ kG := gwi 492 (by decide +kernel) rfl
theorem gw493 : (Cond.methodLink "RopeBorder$Reader" (58 : Nat) ({ cls := "RopeBorder$Reader", name := "write", desc := "(I)V" } : MethodName)) ∈ kG := gwi 493 (by decide +kernel) rfl
theorem gw495 : (Cond.instanceMethod ({ cls := "RopeBorder$Reader", name := "write", desc := "(I)V" } : MethodName)) ∈ kG := gwi 495 (by decide +kernel) rfl
theorem gw496 : (Cond.code ({ cls := "RopeBorder$Reader", name := "write", desc := "(I)V" } : MethodName) prog_6_method_4_code (2 : Nat) (none : Option FieldType)) ∈ kG := gwi 496 (by decide +kernel) rfl
theorem gw497 : (Cond.methodLink "RopeBorder$Reader" (68 : Nat) ({ cls := "RopeBorder$Reader", name := "readOpened", desc := "(II)Z" } : MethodName)) ∈ kG := gwi 497 (by decide +kernel) rfl
theorem gw499 : (Cond.instanceMethod ({ cls := "RopeBorder$Reader", name := "readOpened", desc := "(II)Z" } : MethodName)) ∈ kG := gwi 499 (by decide +kernel) rfl
theorem gw500 : (Cond.code ({ cls := "RopeBorder$Reader", name := "readOpened", desc := "(II)Z" } : MethodName) prog_6_method_8_code (4 : Nat) (some FieldType.boolean)) ∈ kG := gwi 500 (by decide +kernel) rfl
theorem gw504 : (Cond.code ({ cls := "java/lang/String", name := "indexOf", desc := "(I)I" } : MethodName) prog_15_method_79_code (2 : Nat) (some FieldType.int)) ∈ kG := gwi 504 (by decide +kernel) rfl
theorem gw508 : (Cond.code ({ cls := "java/lang/String", name := "indexOf", desc := "(II)I" } : MethodName) prog_15_method_80_code (3 : Nat) (some FieldType.int)) ∈ kG := gwi 508 (by decide +kernel) rfl
theorem gw512 : (Cond.code ({ cls := "java/lang/String", name := "isLatin1", desc := "()Z" } : MethodName) prog_15_method_154_code (1 : Nat) (some FieldType.boolean)) ∈ kG := gwi 512 (by decide +kernel) rfl
theorem gw518 : (Cond.code ({ cls := "java/lang/String", name := "length", desc := "()I" } : MethodName) prog_15_method_54_code (1 : Nat) (some FieldType.int)) ∈ kG := gwi 518 (by decide +kernel) rfl
theorem gw522 : (Cond.code ({ cls := "java/lang/String", name := "coder", desc := "()B" } : MethodName) prog_15_method_152_code (1 : Nat) (some FieldType.byte)) ∈ kG := gwi 522 (by decide +kernel) rfl
theorem gw523 : (Cond.methodLink "java/lang/String" (637 : Nat) ({ cls := "java/lang/StringLatin1", name := "indexOf", desc := "([BIII)I" } : MethodName)) ∈ kG := gwi 523 (by decide +kernel) rfl
theorem gw524 : (Cond.static ({ cls := "java/lang/StringLatin1", name := "indexOf", desc := "([BIII)I" } : MethodName)) ∈ kG := gwi 524 (by decide +kernel) rfl
theorem gw525 : (Cond.code ({ cls := "java/lang/StringLatin1", name := "indexOf", desc := "([BIII)I" } : MethodName) prog_16_method_22_code (4 : Nat) (some FieldType.int)) ∈ kG := gwi 525 (by decide +kernel) rfl
theorem gw526 : (Cond.methodLink "java/lang/StringLatin1" (88 : Nat) ({ cls := "java/lang/StringLatin1", name := "canEncode", desc := "(I)Z" } : MethodName)) ∈ kG := gwi 526 (by decide +kernel) rfl
theorem gw527 : (Cond.static ({ cls := "java/lang/StringLatin1", name := "canEncode", desc := "(I)Z" } : MethodName)) ∈ kG := gwi 527 (by decide +kernel) rfl
theorem gw528 : (Cond.code ({ cls := "java/lang/StringLatin1", name := "canEncode", desc := "(I)Z" } : MethodName) prog_16_method_4_code (1 : Nat) (some FieldType.boolean)) ∈ kG := gwi 528 (by decide +kernel) rfl
theorem gw529 : (Cond.methodLink "java/lang/StringLatin1" (92 : Nat) ({ cls := "java/lang/Math", name := "max", desc := "(II)I" } : MethodName)) ∈ kG := gwi 529 (by decide +kernel) rfl
theorem gw530 : (Cond.methodLink "java/lang/StringLatin1" (38 : Nat) ({ cls := "java/lang/Math", name := "min", desc := "(II)I" } : MethodName)) ∈ kG := gwi 530 (by decide +kernel) rfl
theorem gw531 : (Cond.methodLink "java/lang/StringLatin1" (95 : Nat) ({ cls := "java/lang/StringLatin1", name := "indexOfChar", desc := "([BIII)I" } : MethodName)) ∈ kG := gwi 531 (by decide +kernel) rfl
theorem gw532 : (Cond.static ({ cls := "java/lang/StringLatin1", name := "indexOfChar", desc := "([BIII)I" } : MethodName)) ∈ kG := gwi 532 (by decide +kernel) rfl
theorem gw533 : (Cond.code ({ cls := "java/lang/StringLatin1", name := "indexOfChar", desc := "([BIII)I" } : MethodName) prog_16_method_23_code (6 : Nat) (some FieldType.int)) ∈ kG := gwi 533 (by decide +kernel) rfl
theorem gw534 : (Cond.methodLink "java/lang/String" (640 : Nat) ({ cls := "java/lang/StringUTF16", name := "indexOf", desc := "([BIII)I" } : MethodName)) ∈ kG := gwi 534 (by decide +kernel) rfl
theorem gw535 : (Cond.static ({ cls := "java/lang/StringUTF16", name := "indexOf", desc := "([BIII)I" } : MethodName)) ∈ kG := gwi 535 (by decide +kernel) rfl
theorem gw536 : (Cond.code ({ cls := "java/lang/StringUTF16", name := "indexOf", desc := "([BIII)I" } : MethodName) prog_17_method_40_code (4 : Nat) (some FieldType.int)) ∈ kG := gwi 536 (by decide +kernel) rfl
theorem gw537 : (Cond.methodLink "java/lang/StringUTF16" (224 : Nat) ({ cls := "java/lang/Math", name := "max", desc := "(II)I" } : MethodName)) ∈ kG := gwi 537 (by decide +kernel) rfl
theorem gw538 : (Cond.methodLink "java/lang/StringUTF16" (183 : Nat) ({ cls := "java/lang/Math", name := "min", desc := "(II)I" } : MethodName)) ∈ kG := gwi 538 (by decide +kernel) rfl
theorem gw539 : (Cond.constant "java/lang/StringUTF16" (227 : Nat) (65536 : Int32)) ∈ kG := gwi 539 (by decide +kernel) rfl
theorem gw540 : (Cond.methodLink "java/lang/StringUTF16" (228 : Nat) ({ cls := "java/lang/StringUTF16", name := "indexOfChar", desc := "([BIII)I" } : MethodName)) ∈ kG := gwi 540 (by decide +kernel) rfl
theorem gw541 : (Cond.static ({ cls := "java/lang/StringUTF16", name := "indexOfChar", desc := "([BIII)I" } : MethodName)) ∈ kG := gwi 541 (by decide +kernel) rfl
theorem gw542 : (Cond.code ({ cls := "java/lang/StringUTF16", name := "indexOfChar", desc := "([BIII)I" } : MethodName) prog_17_method_47_code (4 : Nat) (some FieldType.int)) ∈ kG := gwi 542 (by decide +kernel) rfl
theorem gw543 : (Cond.methodLink "java/lang/StringUTF16" (96 : Nat) ({ cls := "java/lang/StringUTF16", name := "checkBoundsBeginEnd", desc := "(II[B)V" } : MethodName)) ∈ kG := gwi 543 (by decide +kernel) rfl
theorem gw544 : (Cond.static ({ cls := "java/lang/StringUTF16", name := "checkBoundsBeginEnd", desc := "(II[B)V" } : MethodName)) ∈ kG := gwi 544 (by decide +kernel) rfl
theorem gw545 : (Cond.code ({ cls := "java/lang/StringUTF16", name := "checkBoundsBeginEnd", desc := "(II[B)V" } : MethodName) prog_17_method_93_code (3 : Nat) (none : Option FieldType)) ∈ kG := gwi 545 (by decide +kernel) rfl
theorem gw546 : (Cond.methodLink "java/lang/StringUTF16" (48 : Nat) ({ cls := "java/lang/StringUTF16", name := "length", desc := "([B)I" } : MethodName)) ∈ kG := gwi 546 (by decide +kernel) rfl
theorem gw547 : (Cond.static ({ cls := "java/lang/StringUTF16", name := "length", desc := "([B)I" } : MethodName)) ∈ kG := gwi 547 (by decide +kernel) rfl
theorem gw548 : (Cond.code ({ cls := "java/lang/StringUTF16", name := "length", desc := "([B)I" } : MethodName) prog_17_method_6_code (1 : Nat) (some FieldType.int)) ∈ kG := gwi 548 (by decide +kernel) rfl
theorem gw549 : (Cond.methodLink "java/lang/StringUTF16" (241 : Nat) ({ cls := "java/lang/String", name := "checkBoundsBeginEnd", desc := "(III)V" } : MethodName)) ∈ kG := gwi 549 (by decide +kernel) rfl
theorem gw550 : (Cond.static ({ cls := "java/lang/String", name := "checkBoundsBeginEnd", desc := "(III)V" } : MethodName)) ∈ kG := gwi 550 (by decide +kernel) rfl
theorem gw551 : (Cond.code ({ cls := "java/lang/String", name := "checkBoundsBeginEnd", desc := "(III)V" } : MethodName) prog_15_method_158_code (3 : Nat) (none : Option FieldType)) ∈ kG := gwi 551 (by decide +kernel) rfl
theorem gw554 : (Cond.methodLink "java/lang/String" (1062 : Nat) ({ cls := "jdk/internal/util/Preconditions", name := "checkFromToIndex", desc := "(IIILjava/util/function/BiFunction;)I" } : MethodName)) ∈ kG := gwi 554 (by decide +kernel) rfl
theorem gw555 : (Cond.static ({ cls := "jdk/internal/util/Preconditions", name := "checkFromToIndex", desc := "(IIILjava/util/function/BiFunction;)I" } : MethodName)) ∈ kG := gwi 555 (by decide +kernel) rfl
theorem gw556 : (Cond.code ({ cls := "jdk/internal/util/Preconditions", name := "checkFromToIndex", desc := "(IIILjava/util/function/BiFunction;)I" } : MethodName) prog_19_method_12_code (4 : Nat) (some FieldType.int)) ∈ kG := gwi 556 (by decide +kernel) rfl
theorem gw557 : (Cond.methodLink "java/lang/StringUTF16" (244 : Nat) ({ cls := "java/lang/StringUTF16", name := "indexOfCharUnsafe", desc := "([BIII)I" } : MethodName)) ∈ kG := gwi 557 (by decide +kernel) rfl
theorem gw558 : (Cond.static ({ cls := "java/lang/StringUTF16", name := "indexOfCharUnsafe", desc := "([BIII)I" } : MethodName)) ∈ kG := gwi 558 (by decide +kernel) rfl
theorem gw559 : (Cond.code ({ cls := "java/lang/StringUTF16", name := "indexOfCharUnsafe", desc := "([BIII)I" } : MethodName) prog_17_method_48_code (5 : Nat) (some FieldType.int)) ∈ kG := gwi 559 (by decide +kernel) rfl
theorem gw560 : (Cond.methodLink "java/lang/StringUTF16" (71 : Nat) ({ cls := "java/lang/StringUTF16", name := "getChar", desc := "([BI)C" } : MethodName)) ∈ kG := gwi 560 (by decide +kernel) rfl
theorem gw561 : (Cond.static ({ cls := "java/lang/StringUTF16", name := "getChar", desc := "([BI)C" } : MethodName)) ∈ kG := gwi 561 (by decide +kernel) rfl
theorem gw562 : (Cond.code ({ cls := "java/lang/StringUTF16", name := "getChar", desc := "([BI)C" } : MethodName) prog_17_method_5_code (2 : Nat) (some FieldType.char)) ∈ kG := gwi 562 (by decide +kernel) rfl
theorem gw569 : (Cond.methodLink "java/lang/StringUTF16" (232 : Nat) ({ cls := "java/lang/StringUTF16", name := "indexOfSupplementary", desc := "([BIII)I" } : MethodName)) ∈ kG := gwi 569 (by decide +kernel) rfl
theorem gw570 : (Cond.static ({ cls := "java/lang/StringUTF16", name := "indexOfSupplementary", desc := "([BIII)I" } : MethodName)) ∈ kG := gwi 570 (by decide +kernel) rfl
theorem gw571 : (Cond.code ({ cls := "java/lang/StringUTF16", name := "indexOfSupplementary", desc := "([BIII)I" } : MethodName) prog_17_method_49_code (7 : Nat) (some FieldType.int)) ∈ kG := gwi 571 (by decide +kernel) rfl
theorem gw572 : (Cond.methodLink "java/lang/StringUTF16" (164 : Nat) ({ cls := "java/lang/Character", name := "isValidCodePoint", desc := "(I)Z" } : MethodName)) ∈ kG := gwi 572 (by decide +kernel) rfl
theorem gw573 : (Cond.static ({ cls := "java/lang/Character", name := "isValidCodePoint", desc := "(I)Z" } : MethodName)) ∈ kG := gwi 573 (by decide +kernel) rfl
theorem gw574 : (Cond.code ({ cls := "java/lang/Character", name := "isValidCodePoint", desc := "(I)Z" } : MethodName) prog_12_method_11_code (2 : Nat) (some FieldType.boolean)) ∈ kG := gwi 574 (by decide +kernel) rfl
theorem gw575 : (Cond.methodLink "java/lang/StringUTF16" (157 : Nat) ({ cls := "java/lang/Character", name := "highSurrogate", desc := "(I)C" } : MethodName)) ∈ kG := gwi 575 (by decide +kernel) rfl
theorem gw576 : (Cond.static ({ cls := "java/lang/Character", name := "highSurrogate", desc := "(I)C" } : MethodName)) ∈ kG := gwi 576 (by decide +kernel) rfl
theorem gw577 : (Cond.code ({ cls := "java/lang/Character", name := "highSurrogate", desc := "(I)C" } : MethodName) prog_12_method_28_code (1 : Nat) (some FieldType.char)) ∈ kG := gwi 577 (by decide +kernel) rfl
theorem gw578 : (Cond.constant "java/lang/Character" (110 : Nat) (55232 : Int32)) ∈ kG := gwi 578 (by decide +kernel) rfl
theorem gw579 : (Cond.methodLink "java/lang/StringUTF16" (161 : Nat) ({ cls := "java/lang/Character", name := "lowSurrogate", desc := "(I)C" } : MethodName)) ∈ kG := gwi 579 (by decide +kernel) rfl
theorem gw580 : (Cond.static ({ cls := "java/lang/Character", name := "lowSurrogate", desc := "(I)C" } : MethodName)) ∈ kG := gwi 580 (by decide +kernel) rfl
theorem gw581 : (Cond.code ({ cls := "java/lang/Character", name := "lowSurrogate", desc := "(I)C" } : MethodName) prog_12_method_29_code (1 : Nat) (some FieldType.char)) ∈ kG := gwi 581 (by decide +kernel) rfl
theorem gw582 : (Cond.constant "java/lang/Character" (76 : Nat) (56320 : Int32)) ∈ kG := gwi 582 (by decide +kernel) rfl
theorem gw583 : (Cond.methodLink "RopeBorder$Reader" (54 : Nat) ({ cls := "RopeBorder$Reader", name := "levelOf", desc := "(I)I" } : MethodName)) ∈ kG := gwi 583 (by decide +kernel) rfl
theorem gw584 : (Cond.static ({ cls := "RopeBorder$Reader", name := "levelOf", desc := "(I)I" } : MethodName)) ∈ kG := gwi 584 (by decide +kernel) rfl
theorem gw585 : (Cond.code ({ cls := "RopeBorder$Reader", name := "levelOf", desc := "(I)I" } : MethodName) prog_6_method_5_code (1 : Nat) (some FieldType.int)) ∈ kG := gwi 585 (by decide +kernel) rfl
theorem gw586 : (Cond.methodLink "RopeBorder" (208 : Nat) ({ cls := "RopeBorder$Kept", name := "lawOf", desc := "(I)LRopeBorder$Law;" } : MethodName)) ∈ kG := gwi 586 (by decide +kernel) rfl
theorem gw587 : (Cond.instanceMethod ({ cls := "RopeBorder$Kept", name := "lawOf", desc := "(I)LRopeBorder$Law;" } : MethodName)) ∈ kG := gwi 587 (by decide +kernel) rfl
theorem gw588 : (Cond.selects "RopeBorder$Kept" ({ cls := "RopeBorder$Kept", name := "lawOf", desc := "(I)LRopeBorder$Law;" } : MethodName) ({ cls := "RopeBorder$Kept", name := "lawOf", desc := "(I)LRopeBorder$Law;" } : MethodName)) ∈ kG := gwi 588 (by decide +kernel) rfl
theorem gw589 : (Cond.code ({ cls := "RopeBorder$Kept", name := "lawOf", desc := "(I)LRopeBorder$Law;" } : MethodName) prog_4_method_2_code (2 : Nat) (some (FieldType.object "RopeBorder$Law"))) ∈ kG := gwi 589 (by decide +kernel) rfl
theorem gw590 : (Cond.methodLink "RopeBorder" (218 : Nat) ({ cls := "RopeBorder$Law", name := "takeCode", desc := "([II)V" } : MethodName)) ∈ kG := gwi 590 (by decide +kernel) rfl
theorem gw591 : (Cond.methodLink "RopeBorderLaw" (75 : Nat) ({ cls := "RopeBorder", name := "law", desc := "(IIII)I" } : MethodName)) ∈ kG := gwi 591 (by decide +kernel) rfl
theorem gw592 : (Cond.instanceMethod ({ cls := "RopeBorder", name := "law", desc := "(IIII)I" } : MethodName)) ∈ kG := gwi 592 (by decide +kernel) rfl
theorem gw593 : (Cond.selects "RopeBorder" ({ cls := "RopeBorder", name := "law", desc := "(IIII)I" } : MethodName) ({ cls := "RopeBorder", name := "law", desc := "(IIII)I" } : MethodName)) ∈ kG := gwi 593 (by decide +kernel) rfl
theorem gw594 : (Cond.code ({ cls := "RopeBorder", name := "law", desc := "(IIII)I" } : MethodName) prog_1_method_16_code (5 : Nat) (some FieldType.int)) ∈ kG := gwi 594 (by decide +kernel) rfl
theorem gw595 : (Cond.methodLink "RopeBorder" (224 : Nat) ({ cls := "RopeBorder$Law", name := "gives", desc := "(III)I" } : MethodName)) ∈ kG := gwi 595 (by decide +kernel) rfl
theorem gw596 : (Cond.methodLink "RopeBorderLaw" (80 : Nat) ({ cls := "RopeBorder", name := "beats", desc := "(I)I" } : MethodName)) ∈ kG := gwi 596 (by decide +kernel) rfl
theorem gw597 : (Cond.instanceMethod ({ cls := "RopeBorder", name := "beats", desc := "(I)I" } : MethodName)) ∈ kG := gwi 597 (by decide +kernel) rfl
theorem gw598 : (Cond.selects "RopeBorder" ({ cls := "RopeBorder", name := "beats", desc := "(I)I" } : MethodName) ({ cls := "RopeBorder", name := "beats", desc := "(I)I" } : MethodName)) ∈ kG := gwi 598 (by decide +kernel) rfl
theorem gw599 : (Cond.code ({ cls := "RopeBorder", name := "beats", desc := "(I)I" } : MethodName) prog_1_method_17_code (2 : Nat) (some FieldType.int)) ∈ kG := gwi 599 (by decide +kernel) rfl
theorem gw600 : (Cond.constant "RopeBorder" (230 : Nat) (99999 : Int32)) ∈ kG := gwi 600 (by decide +kernel) rfl
theorem gw601 : (Cond.methodLink "RopeBorder" (231 : Nat) ({ cls := "RopeBorder$Border", name := "turnFor", desc := "(I)V" } : MethodName)) ∈ kG := gwi 601 (by decide +kernel) rfl
theorem gw602 : (Cond.instanceMethod ({ cls := "RopeBorder$Border", name := "turnFor", desc := "(I)V" } : MethodName)) ∈ kG := gwi 602 (by decide +kernel) rfl
theorem gw603 : (Cond.selects "RopeBorder$Border" ({ cls := "RopeBorder$Border", name := "turnFor", desc := "(I)V" } : MethodName) ({ cls := "RopeBorder$Border", name := "turnFor", desc := "(I)V" } : MethodName)) ∈ kG := gwi 603 (by decide +kernel) rfl
theorem gw604 : (Cond.code ({ cls := "RopeBorder$Border", name := "turnFor", desc := "(I)V" } : MethodName) prog_2_method_13_code (3 : Nat) (none : Option FieldType)) ∈ kG := gwi 604 (by decide +kernel) rfl
theorem gw605 : (Cond.methodLink "RopeBorder$Border" (127 : Nat) ({ cls := "RopeBorder$Border", name := "turnOnce", desc := "()V" } : MethodName)) ∈ kG := gwi 605 (by decide +kernel) rfl
theorem gw606 : (Cond.instanceMethod ({ cls := "RopeBorder$Border", name := "turnOnce", desc := "()V" } : MethodName)) ∈ kG := gwi 606 (by decide +kernel) rfl
theorem gw607 : (Cond.selects "RopeBorder$Border" ({ cls := "RopeBorder$Border", name := "turnOnce", desc := "()V" } : MethodName) ({ cls := "RopeBorder$Border", name := "turnOnce", desc := "()V" } : MethodName)) ∈ kG := gwi 607 (by decide +kernel) rfl
theorem gw608 : (Cond.code ({ cls := "RopeBorder$Border", name := "turnOnce", desc := "()V" } : MethodName) prog_2_method_16_code (3 : Nat) (none : Option FieldType)) ∈ kG := gwi 608 (by decide +kernel) rfl
theorem gw609 : (Cond.methodLink "RopeBorder$Border" (134 : Nat) ({ cls := "RopeBorder$Border", name := "isStanding", desc := "()Z" } : MethodName)) ∈ kG := gwi 609 (by decide +kernel) rfl
theorem gw610 : (Cond.instanceMethod ({ cls := "RopeBorder$Border", name := "isStanding", desc := "()Z" } : MethodName)) ∈ kG := gwi 610 (by decide +kernel) rfl
theorem gw611 : (Cond.selects "RopeBorder$Border" ({ cls := "RopeBorder$Border", name := "isStanding", desc := "()Z" } : MethodName) ({ cls := "RopeBorder$Border", name := "isStanding", desc := "()Z" } : MethodName)) ∈ kG := gwi 611 (by decide +kernel) rfl
theorem gw612 : (Cond.code ({ cls := "RopeBorder$Border", name := "isStanding", desc := "()Z" } : MethodName) prog_2_method_8_code (1 : Nat) (some FieldType.boolean)) ∈ kG := gwi 612 (by decide +kernel) rfl
theorem gw613 : (Cond.methodLink "RopeBorder$Border" (99 : Nat) ({ cls := "RopeBorder$Turner", name := "strengthLeft", desc := "()I" } : MethodName)) ∈ kG := gwi 613 (by decide +kernel) rfl
theorem gw614 : (Cond.instanceMethod ({ cls := "RopeBorder$Turner", name := "strengthLeft", desc := "()I" } : MethodName)) ∈ kG := gwi 614 (by decide +kernel) rfl
theorem gw615 : (Cond.selects "RopeBorder$Turner" ({ cls := "RopeBorder$Turner", name := "strengthLeft", desc := "()I" } : MethodName) ({ cls := "RopeBorder$Turner", name := "strengthLeft", desc := "()I" } : MethodName)) ∈ kG := gwi 615 (by decide +kernel) rfl
theorem gw616 : (Cond.code ({ cls := "RopeBorder$Turner", name := "strengthLeft", desc := "()I" } : MethodName) prog_8_method_2_code (1 : Nat) (some FieldType.int)) ∈ kG := gwi 616 (by decide +kernel) rfl
theorem gw617 : (Cond.methodLink "RopeBorder$Border" (137 : Nat) ({ cls := "RopeBorder$Border", name := "letAllOver", desc := "()V" } : MethodName)) ∈ kG := gwi 617 (by decide +kernel) rfl
theorem gw619 : (Cond.instanceMethod ({ cls := "RopeBorder$Border", name := "letAllOver", desc := "()V" } : MethodName)) ∈ kG := gwi 619 (by decide +kernel) rfl
theorem gw620 : (Cond.code ({ cls := "RopeBorder$Border", name := "letAllOver", desc := "()V" } : MethodName) prog_2_method_17_code (3 : Nat) (none : Option FieldType)) ∈ kG := gwi 620 (by decide +kernel) rfl
theorem gw621 : (Cond.methodLink "RopeBorder$Border" (146 : Nat) ({ cls := "RopeBorder$Border", name := "isGoing", desc := "(I)Z" } : MethodName)) ∈ kG := gwi 621 (by decide +kernel) rfl
theorem gw622 : (Cond.methodLink "RopeBorder$Border" (140 : Nat) ({ cls := "RopeBorder$Border", name := "tireTurners", desc := "()V" } : MethodName)) ∈ kG := gwi 622 (by decide +kernel) rfl
theorem gw624 : (Cond.instanceMethod ({ cls := "RopeBorder$Border", name := "tireTurners", desc := "()V" } : MethodName)) ∈ kG := gwi 624 (by decide +kernel) rfl
theorem gw625 : (Cond.code ({ cls := "RopeBorder$Border", name := "tireTurners", desc := "()V" } : MethodName) prog_2_method_18_code (3 : Nat) (none : Option FieldType)) ∈ kG := gwi 625 (by decide +kernel) rfl
theorem gw626 : (Cond.methodLink "RopeBorder$Border" (154 : Nat) ({ cls := "java/lang/Math", name := "min", desc := "(II)I" } : MethodName)) ∈ kG := gwi 626 (by decide +kernel) rfl
theorem gw627 : (Cond.methodLink "RopeBorder$Border" (121 : Nat) ({ cls := "java/lang/Math", name := "max", desc := "(II)I" } : MethodName)) ∈ kG := gwi 627 (by decide +kernel) rfl
theorem gw628 : (Cond.methodLink "RopeBorder$Border" (143 : Nat) ({ cls := "RopeBorder$Border", name := "placeInRhyme", desc := "()I" } : MethodName)) ∈ kG := gwi 628 (by decide +kernel) rfl
theorem gw629 : (Cond.instanceMethod ({ cls := "RopeBorder$Border", name := "placeInRhyme", desc := "()I" } : MethodName)) ∈ kG := gwi 629 (by decide +kernel) rfl
theorem gw630 : (Cond.selects "RopeBorder$Border" ({ cls := "RopeBorder$Border", name := "placeInRhyme", desc := "()I" } : MethodName) ({ cls := "RopeBorder$Border", name := "placeInRhyme", desc := "()I" } : MethodName)) ∈ kG := gwi 630 (by decide +kernel) rfl
theorem gw631 : (Cond.code ({ cls := "RopeBorder$Border", name := "placeInRhyme", desc := "()I" } : MethodName) prog_2_method_7_code (1 : Nat) (some FieldType.int)) ∈ kG := gwi 631 (by decide +kernel) rfl
theorem gw632 : (Cond.methodLink "RopeBorder$Border" (150 : Nat) ({ cls := "RopeBorder$Border", name := "meetRope", desc := "(LRopeBorder$Crosser;ZZ)V" } : MethodName)) ∈ kG := gwi 632 (by decide +kernel) rfl
theorem gw634 : (Cond.instanceMethod ({ cls := "RopeBorder$Border", name := "meetRope", desc := "(LRopeBorder$Crosser;ZZ)V" } : MethodName)) ∈ kG := gwi 634 (by decide +kernel) rfl
theorem gw635 : (Cond.code ({ cls := "RopeBorder$Border", name := "meetRope", desc := "(LRopeBorder$Crosser;ZZ)V" } : MethodName) prog_2_method_19_code (4 : Nat) (none : Option FieldType)) ∈ kG := gwi 635 (by decide +kernel) rfl
theorem gw636 : (Cond.methodLink "RopeBorder$Border" (157 : Nat) ({ cls := "RopeBorder$Border", name := "jumpOrTrip", desc := "(LRopeBorder$Crosser;)V" } : MethodName)) ∈ kG := gwi 636 (by decide +kernel) rfl
theorem gw638 : (Cond.instanceMethod ({ cls := "RopeBorder$Border", name := "jumpOrTrip", desc := "(LRopeBorder$Crosser;)V" } : MethodName)) ∈ kG := gwi 638 (by decide +kernel) rfl
theorem gw639 : (Cond.code ({ cls := "RopeBorder$Border", name := "jumpOrTrip", desc := "(LRopeBorder$Crosser;)V" } : MethodName) prog_2_method_20_code (3 : Nat) (none : Option FieldType)) ∈ kG := gwi 639 (by decide +kernel) rfl
theorem gw640 : (Cond.methodLink "RopeBorder$Border" (167 : Nat) ({ cls := "RopeBorder$Crosser", name := "wearsByJump", desc := "()I" } : MethodName)) ∈ kG := gwi 640 (by decide +kernel) rfl
theorem gw641 : (Cond.methodLink "RopeBorder$Border" (160 : Nat) ({ cls := "RopeBorder$Border", name := "isFree", desc := "(I)Z" } : MethodName)) ∈ kG := gwi 641 (by decide +kernel) rfl
theorem gw643 : (Cond.instanceMethod ({ cls := "RopeBorder$Border", name := "isFree", desc := "(I)Z" } : MethodName)) ∈ kG := gwi 643 (by decide +kernel) rfl
theorem gw644 : (Cond.code ({ cls := "RopeBorder$Border", name := "isFree", desc := "(I)Z" } : MethodName) prog_2_method_21_code (3 : Nat) (some FieldType.boolean)) ∈ kG := gwi 644 (by decide +kernel) rfl
theorem gw645 : (Cond.methodLink "RopeBorder$Border" (163 : Nat) ({ cls := "RopeBorder$Border", name := "needsOf", desc := "(LRopeBorder$Crosser;)I" } : MethodName)) ∈ kG := gwi 645 (by decide +kernel) rfl
theorem gw646 : (Cond.methodLink "RopeBorder" (234 : Nat) ({ cls := "RopeBorder$Border", name := "countOf", desc := "(I)I" } : MethodName)) ∈ kG := gwi 646 (by decide +kernel) rfl
theorem gw647 : (Cond.instanceMethod ({ cls := "RopeBorder$Border", name := "countOf", desc := "(I)I" } : MethodName)) ∈ kG := gwi 647 (by decide +kernel) rfl
theorem gw648 : (Cond.selects "RopeBorder$Border" ({ cls := "RopeBorder$Border", name := "countOf", desc := "(I)I" } : MethodName) ({ cls := "RopeBorder$Border", name := "countOf", desc := "(I)I" } : MethodName)) ∈ kG := gwi 648 (by decide +kernel) rfl
theorem gw649 : (Cond.code ({ cls := "RopeBorder$Border", name := "countOf", desc := "(I)I" } : MethodName) prog_2_method_11_code (2 : Nat) (some FieldType.int)) ∈ kG := gwi 649 (by decide +kernel) rfl
theorem gw650 : (Cond.methodLink "RopeBorder$Border" (113 : Nat) ({ cls := "RopeBorder$Border", name := "setOf", desc := "(I)I" } : MethodName)) ∈ kG := gwi 650 (by decide +kernel) rfl
theorem gw651 : (Cond.instanceMethod ({ cls := "RopeBorder$Border", name := "setOf", desc := "(I)I" } : MethodName)) ∈ kG := gwi 651 (by decide +kernel) rfl
theorem gw652 : (Cond.selects "RopeBorder$Border" ({ cls := "RopeBorder$Border", name := "setOf", desc := "(I)I" } : MethodName) ({ cls := "RopeBorder$Border", name := "setOf", desc := "(I)I" } : MethodName)) ∈ kG := gwi 652 (by decide +kernel) rfl
theorem gw653 : (Cond.code ({ cls := "RopeBorder$Border", name := "setOf", desc := "(I)I" } : MethodName) prog_2_method_10_code (4 : Nat) (some FieldType.int)) ∈ kG := gwi 653 (by decide +kernel) rfl
theorem gw654 : (Cond.methodLink "RopeBorder$Border" (116 : Nat) ({ cls := "java/lang/Integer", name := "bitCount", desc := "(I)I" } : MethodName)) ∈ kG := gwi 654 (by decide +kernel) rfl
theorem gw655 : (Cond.static ({ cls := "java/lang/Integer", name := "bitCount", desc := "(I)I" } : MethodName)) ∈ kG := gwi 655 (by decide +kernel) rfl
theorem gw656 : (Cond.code ({ cls := "java/lang/Integer", name := "bitCount", desc := "(I)I" } : MethodName) prog_13_method_49_code (1 : Nat) (some FieldType.int)) ∈ kG := gwi 656 (by decide +kernel) rfl
theorem gw657 : (Cond.constant "java/lang/Integer" (265 : Nat) (1431655765 : Int32)) ∈ kG := gwi 657 (by decide +kernel) rfl
theorem gw658 : (Cond.constant "java/lang/Integer" (266 : Nat) (858993459 : Int32)) ∈ kG := gwi 658 (by decide +kernel) rfl
theorem gw659 : (Cond.constant "java/lang/Integer" (267 : Nat) (252645135 : Int32)) ∈ kG := gwi 659 (by decide +kernel) rfl
theorem gw660 : (Cond.methodLink "RopeBorderLaw" (84 : Nat) ({ cls := "RopeBorder", name := "loose", desc := "(I)I" } : MethodName)) ∈ kG := gwi 660 (by decide +kernel) rfl
theorem gw661 : (Cond.instanceMethod ({ cls := "RopeBorder", name := "loose", desc := "(I)I" } : MethodName)) ∈ kG := gwi 661 (by decide +kernel) rfl
theorem gw662 : (Cond.selects "RopeBorder" ({ cls := "RopeBorder", name := "loose", desc := "(I)I" } : MethodName) ({ cls := "RopeBorder", name := "loose", desc := "(I)I" } : MethodName)) ∈ kG := gwi 662 (by decide +kernel) rfl
theorem gw663 : (Cond.code ({ cls := "RopeBorder", name := "loose", desc := "(I)I" } : MethodName) prog_1_method_18_code (3 : Nat) (some FieldType.int)) ∈ kG := gwi 663 (by decide +kernel) rfl
theorem gw664 : (Cond.methodLink "RopeBorder" (237 : Nat) ({ cls := "RopeBorder", name := "drawWhoGoes", desc := "()V" } : MethodName)) ∈ kG := gwi 664 (by decide +kernel) rfl
theorem gw666 : (Cond.instanceMethod ({ cls := "RopeBorder", name := "drawWhoGoes", desc := "()V" } : MethodName)) ∈ kG := gwi 666 (by decide +kernel) rfl
theorem gw667 : (Cond.code ({ cls := "RopeBorder", name := "drawWhoGoes", desc := "()V" } : MethodName) prog_1_method_62_code (2 : Nat) (none : Option FieldType)) ∈ kG := gwi 667 (by decide +kernel) rfl
theorem gw668 : (Cond.constant "RopeBorder" (354 : Nat) (1103515245 : Int32)) ∈ kG := gwi 668 (by decide +kernel) rfl
theorem gw669 : (Cond.methodLink "RopeBorder" (240 : Nat) ({ cls := "RopeBorder$Border", name := "turnOnce", desc := "()V" } : MethodName)) ∈ kG := gwi 669 (by decide +kernel) rfl
theorem gw670 : (Cond.methodLink "RopeBorderLaw" (88 : Nat) ({ cls := "RopeBorder", name := "wear", desc := "(I)I" } : MethodName)) ∈ kG := gwi 670 (by decide +kernel) rfl
theorem gw671 : (Cond.instanceMethod ({ cls := "RopeBorder", name := "wear", desc := "(I)I" } : MethodName)) ∈ kG := gwi 671 (by decide +kernel) rfl
theorem gw672 : (Cond.selects "RopeBorder" ({ cls := "RopeBorder", name := "wear", desc := "(I)I" } : MethodName) ({ cls := "RopeBorder", name := "wear", desc := "(I)I" } : MethodName)) ∈ kG := gwi 672 (by decide +kernel) rfl
theorem gw673 : (Cond.code ({ cls := "RopeBorder", name := "wear", desc := "(I)I" } : MethodName) prog_1_method_19_code (2 : Nat) (some FieldType.int)) ∈ kG := gwi 673 (by decide +kernel) rfl
theorem gw674 : (Cond.methodLink "RopeBorderLaw" (92 : Nat) ({ cls := "RopeBorder", name := "then", desc := "(III)I" } : MethodName)) ∈ kG := gwi 674 (by decide +kernel) rfl
theorem gw675 : (Cond.instanceMethod ({ cls := "RopeBorder", name := "then", desc := "(III)I" } : MethodName)) ∈ kG := gwi 675 (by decide +kernel) rfl
theorem gw676 : (Cond.selects "RopeBorder" ({ cls := "RopeBorder", name := "then", desc := "(III)I" } : MethodName) ({ cls := "RopeBorder", name := "then", desc := "(III)I" } : MethodName)) ∈ kG := gwi 676 (by decide +kernel) rfl
theorem gw677 : (Cond.code ({ cls := "RopeBorder", name := "then", desc := "(III)I" } : MethodName) prog_1_method_20_code (5 : Nat) (some FieldType.int)) ∈ kG := gwi 677 (by decide +kernel) rfl
theorem gw678 : (Cond.methodLink "RopeBorder" (243 : Nat) ({ cls := "RopeBorder", name := "thinkOfNow", desc := "()V" } : MethodName)) ∈ kG := gwi 678 (by decide +kernel) rfl
theorem gw680 : (Cond.instanceMethod ({ cls := "RopeBorder", name := "thinkOfNow", desc := "()V" } : MethodName)) ∈ kG := gwi 680 (by decide +kernel) rfl
theorem gw681 : (Cond.code ({ cls := "RopeBorder", name := "thinkOfNow", desc := "()V" } : MethodName) prog_1_method_55_code (1 : Nat) (none : Option FieldType)) ∈ kG := gwi 681 (by decide +kernel) rfl
theorem gw682 : (Cond.methodLink "RopeBorder" (348 : Nat) ({ cls := "RopeBorder$Border", name := "copyFrom", desc := "(LRopeBorder$Border;)V" } : MethodName)) ∈ kG := gwi 682 (by decide +kernel) rfl
theorem gw683 : (Cond.instanceMethod ({ cls := "RopeBorder$Border", name := "copyFrom", desc := "(LRopeBorder$Border;)V" } : MethodName)) ∈ kG := gwi 683 (by decide +kernel) rfl
theorem gw684 : (Cond.selects "RopeBorder$Border" ({ cls := "RopeBorder$Border", name := "copyFrom", desc := "(LRopeBorder$Border;)V" } : MethodName) ({ cls := "RopeBorder$Border", name := "copyFrom", desc := "(LRopeBorder$Border;)V" } : MethodName)) ∈ kG := gwi 684 (by decide +kernel) rfl
theorem gw685 : (Cond.code ({ cls := "RopeBorder$Border", name := "copyFrom", desc := "(LRopeBorder$Border;)V" } : MethodName) prog_2_method_2_code (3 : Nat) (none : Option FieldType)) ∈ kG := gwi 685 (by decide +kernel) rfl
theorem gw686 : (Cond.methodLink "RopeBorder$Border" (46 : Nat) ({ cls := "java/lang/System", name := "arraycopy", desc := "(Ljava/lang/Object;ILjava/lang/Object;II)V" } : MethodName)) ∈ kG := gwi 686 (by decide +kernel) rfl
theorem gw687 : (Cond.methodLink "RopeBorder$Border" (55 : Nat) ({ cls := "RopeBorder$Turner", name := "copyFrom", desc := "(LRopeBorder$Turner;)V" } : MethodName)) ∈ kG := gwi 687 (by decide +kernel) rfl
theorem gw688 : (Cond.instanceMethod ({ cls := "RopeBorder$Turner", name := "copyFrom", desc := "(LRopeBorder$Turner;)V" } : MethodName)) ∈ kG := gwi 688 (by decide +kernel) rfl
theorem gw689 : (Cond.selects "RopeBorder$Turner" ({ cls := "RopeBorder$Turner", name := "copyFrom", desc := "(LRopeBorder$Turner;)V" } : MethodName) ({ cls := "RopeBorder$Turner", name := "copyFrom", desc := "(LRopeBorder$Turner;)V" } : MethodName)) ∈ kG := gwi 689 (by decide +kernel) rfl
theorem gw690 : (Cond.code ({ cls := "RopeBorder$Turner", name := "copyFrom", desc := "(LRopeBorder$Turner;)V" } : MethodName) prog_8_method_3_code (2 : Nat) (none : Option FieldType)) ∈ kG := gwi 690 (by decide +kernel) rfl
theorem gw691 : (Cond.methodLink "RopeBorder$Border" (62 : Nat) ({ cls := "RopeBorder$Crosser", name := "copyFrom", desc := "(LRopeBorder$Crosser;)V" } : MethodName)) ∈ kG := gwi 691 (by decide +kernel) rfl
theorem gw692 : (Cond.instanceMethod ({ cls := "RopeBorder$Crosser", name := "copyFrom", desc := "(LRopeBorder$Crosser;)V" } : MethodName)) ∈ kG := gwi 692 (by decide +kernel) rfl
theorem gw693 : (Cond.selects "RopeBorder$Crosser" ({ cls := "RopeBorder$Crosser", name := "copyFrom", desc := "(LRopeBorder$Crosser;)V" } : MethodName) ({ cls := "RopeBorder$Crosser", name := "copyFrom", desc := "(LRopeBorder$Crosser;)V" } : MethodName)) ∈ kG := gwi 693 (by decide +kernel) rfl
theorem gw694 : (Cond.code ({ cls := "RopeBorder$Crosser", name := "copyFrom", desc := "(LRopeBorder$Crosser;)V" } : MethodName) prog_3_method_2_code (2 : Nat) (none : Option FieldType)) ∈ kG := gwi 694 (by decide +kernel) rfl
theorem gw695 : (Cond.methodLink "RopeBorder" (246 : Nat) ({ cls := "RopeBorder$Border", name := "settleFor", desc := "(I)V" } : MethodName)) ∈ kG := gwi 695 (by decide +kernel) rfl
theorem gw696 : (Cond.instanceMethod ({ cls := "RopeBorder$Border", name := "settleFor", desc := "(I)V" } : MethodName)) ∈ kG := gwi 696 (by decide +kernel) rfl
theorem gw697 : (Cond.selects "RopeBorder$Border" ({ cls := "RopeBorder$Border", name := "settleFor", desc := "(I)V" } : MethodName) ({ cls := "RopeBorder$Border", name := "settleFor", desc := "(I)V" } : MethodName)) ∈ kG := gwi 697 (by decide +kernel) rfl
theorem gw698 : (Cond.code ({ cls := "RopeBorder$Border", name := "settleFor", desc := "(I)V" } : MethodName) prog_2_method_14_code (3 : Nat) (none : Option FieldType)) ∈ kG := gwi 698 (by decide +kernel) rfl
theorem gw699 : (Cond.methodLink "RopeBorder$Border" (130 : Nat) ({ cls := "RopeBorder$Border", name := "isStirring", desc := "()Z" } : MethodName)) ∈ kG := gwi 699 (by decide +kernel) rfl
theorem gw701 : (Cond.instanceMethod ({ cls := "RopeBorder$Border", name := "isStirring", desc := "()Z" } : MethodName)) ∈ kG := gwi 701 (by decide +kernel) rfl
theorem gw702 : (Cond.code ({ cls := "RopeBorder$Border", name := "isStirring", desc := "()Z" } : MethodName) prog_2_method_15_code (1 : Nat) (some FieldType.boolean)) ∈ kG := gwi 702 (by decide +kernel) rfl
theorem gw703 : (Cond.methodLink "RopeBorderLaw" (96 : Nat) ({ cls := "RopeBorder", name := "over", desc := "(I)I" } : MethodName)) ∈ kG := gwi 703 (by decide +kernel) rfl
theorem gw704 : (Cond.instanceMethod ({ cls := "RopeBorder", name := "over", desc := "(I)I" } : MethodName)) ∈ kG := gwi 704 (by decide +kernel) rfl
theorem gw705 : (Cond.selects "RopeBorder" ({ cls := "RopeBorder", name := "over", desc := "(I)I" } : MethodName) ({ cls := "RopeBorder", name := "over", desc := "(I)I" } : MethodName)) ∈ kG := gwi 705 (by decide +kernel) rfl
theorem gw706 : (Cond.code ({ cls := "RopeBorder", name := "over", desc := "(I)I" } : MethodName) prog_1_method_21_code (4 : Nat) (some FieldType.int)) ∈ kG := gwi 706 (by decide +kernel) rfl
theorem gw707 : (Cond.methodLink "RopeBorderLaw" (100 : Nat) ({ cls := "RopeBorder", name := "begin", desc := "(I)I" } : MethodName)) ∈ kG := gwi 707 (by decide +kernel) rfl
theorem gw708 : (Cond.instanceMethod ({ cls := "RopeBorder", name := "begin", desc := "(I)I" } : MethodName)) ∈ kG := gwi 708 (by decide +kernel) rfl
theorem gw709 : (Cond.selects "RopeBorder" ({ cls := "RopeBorder", name := "begin", desc := "(I)I" } : MethodName) ({ cls := "RopeBorder", name := "begin", desc := "(I)I" } : MethodName)) ∈ kG := gwi 709 (by decide +kernel) rfl
theorem gw710 : (Cond.code ({ cls := "RopeBorder", name := "begin", desc := "(I)I" } : MethodName) prog_1_method_22_code (3 : Nat) (some FieldType.int)) ∈ kG := gwi 710 (by decide +kernel) rfl
theorem gw711 : (Cond.methodLink "RopeBorder" (249 : Nat) ({ cls := "RopeBorder", name := "isNorthIfHeWaits", desc := "(II)Z" } : MethodName)) ∈ kG := gwi 711 (by decide +kernel) rfl
theorem gw713 : (Cond.instanceMethod ({ cls := "RopeBorder", name := "isNorthIfHeWaits", desc := "(II)Z" } : MethodName)) ∈ kG := gwi 713 (by decide +kernel) rfl
theorem gw714 : (Cond.code ({ cls := "RopeBorder", name := "isNorthIfHeWaits", desc := "(II)Z" } : MethodName) prog_1_method_56_code (4 : Nat) (some FieldType.boolean)) ∈ kG := gwi 714 (by decide +kernel) rfl
theorem gw715 : (Cond.methodLink "RopeBorderLaw" (104 : Nat) ({ cls := "RopeBorder", name := "rhymes", desc := "(IIII)I" } : MethodName)) ∈ kG := gwi 715 (by decide +kernel) rfl
theorem gw716 : (Cond.instanceMethod ({ cls := "RopeBorder", name := "rhymes", desc := "(IIII)I" } : MethodName)) ∈ kG := gwi 716 (by decide +kernel) rfl
theorem gw717 : (Cond.selects "RopeBorder" ({ cls := "RopeBorder", name := "rhymes", desc := "(IIII)I" } : MethodName) ({ cls := "RopeBorder", name := "rhymes", desc := "(IIII)I" } : MethodName)) ∈ kG := gwi 717 (by decide +kernel) rfl
theorem gw718 : (Cond.code ({ cls := "RopeBorder", name := "rhymes", desc := "(IIII)I" } : MethodName) prog_1_method_23_code (8 : Nat) (some FieldType.int)) ∈ kG := gwi 718 (by decide +kernel) rfl
theorem gw719 : (Cond.methodLink "RopeBorder" (252 : Nat) ({ cls := "RopeBorder", name := "isRhymeFor", desc := "(IIII)Z" } : MethodName)) ∈ kG := gwi 719 (by decide +kernel) rfl
theorem gw721 : (Cond.instanceMethod ({ cls := "RopeBorder", name := "isRhymeFor", desc := "(IIII)Z" } : MethodName)) ∈ kG := gwi 721 (by decide +kernel) rfl
theorem gw722 : (Cond.code ({ cls := "RopeBorder", name := "isRhymeFor", desc := "(IIII)Z" } : MethodName) prog_1_method_57_code (6 : Nat) (some FieldType.boolean)) ∈ kG := gwi 722 (by decide +kernel) rfl
theorem gw723 : (Cond.methodLink "RopeBorder" (256 : Nat) ({ cls := "RopeBorder$Border", name := "setOf", desc := "(I)I" } : MethodName)) ∈ kG := gwi 723 (by decide +kernel) rfl
theorem gw724 : (Cond.methodLink "RopeBorderLaw" (108 : Nat) ({ cls := "RopeBorder", name := "most", desc := "(I)I" } : MethodName)) ∈ kG := gwi 724 (by decide +kernel) rfl
theorem gw725 : (Cond.instanceMethod ({ cls := "RopeBorder", name := "most", desc := "(I)I" } : MethodName)) ∈ kG := gwi 725 (by decide +kernel) rfl
theorem gw726 : (Cond.selects "RopeBorder" ({ cls := "RopeBorder", name := "most", desc := "(I)I" } : MethodName) ({ cls := "RopeBorder", name := "most", desc := "(I)I" } : MethodName)) ∈ kG := gwi 726 (by decide +kernel) rfl
theorem gw727 : (Cond.code ({ cls := "RopeBorder", name := "most", desc := "(I)I" } : MethodName) prog_1_method_24_code (5 : Nat) (some FieldType.int)) ∈ kG := gwi 727 (by decide +kernel) rfl
theorem gw728 : (Cond.methodLink "RopeBorder" (259 : Nat) ({ cls := "java/lang/Integer", name := "bitCount", desc := "(I)I" } : MethodName)) ∈ kG := gwi 728 (by decide +kernel) rfl
theorem gw729 : (Cond.methodLink "RopeBorder" (264 : Nat) ({ cls := "RopeBorder", name := "areNorthIfJustTheyGo", desc := "(II)Z" } : MethodName)) ∈ kG := gwi 729 (by decide +kernel) rfl
theorem gw731 : (Cond.instanceMethod ({ cls := "RopeBorder", name := "areNorthIfJustTheyGo", desc := "(II)Z" } : MethodName)) ∈ kG := gwi 731 (by decide +kernel) rfl
theorem gw732 : (Cond.code ({ cls := "RopeBorder", name := "areNorthIfJustTheyGo", desc := "(II)Z" } : MethodName) prog_1_method_58_code (3 : Nat) (some FieldType.boolean)) ∈ kG := gwi 732 (by decide +kernel) rfl
theorem gw733 : (Cond.methodLink "RopeBorderLaw" (112 : Nat) ({ cls := "RopeBorder", name := "relief", desc := "()I" } : MethodName)) ∈ kG := gwi 733 (by decide +kernel) rfl
theorem gw734 : (Cond.instanceMethod ({ cls := "RopeBorder", name := "relief", desc := "()I" } : MethodName)) ∈ kG := gwi 734 (by decide +kernel) rfl
theorem gw735 : (Cond.selects "RopeBorder" ({ cls := "RopeBorder", name := "relief", desc := "()I" } : MethodName) ({ cls := "RopeBorder", name := "relief", desc := "()I" } : MethodName)) ∈ kG := gwi 735 (by decide +kernel) rfl
theorem gw736 : (Cond.code ({ cls := "RopeBorder", name := "relief", desc := "()I" } : MethodName) prog_1_method_25_code (3 : Nat) (some FieldType.int)) ∈ kG := gwi 736 (by decide +kernel) rfl
theorem gw737 : (Cond.methodLink "RopeBorder" (267 : Nat) ({ cls := "RopeBorder$Turner", name := "strengthLeft", desc := "()I" } : MethodName)) ∈ kG := gwi 737 (by decide +kernel) rfl
theorem gw738 : (Cond.methodLink "RopeBorderLaw" (117 : Nat) ({ cls := "RopeBorder", name := "stands", desc := "()I" } : MethodName)) ∈ kG := gwi 738 (by decide +kernel) rfl
theorem gw739 : (Cond.instanceMethod ({ cls := "RopeBorder", name := "stands", desc := "()I" } : MethodName)) ∈ kG := gwi 739 (by decide +kernel) rfl
theorem gw740 : (Cond.selects "RopeBorder" ({ cls := "RopeBorder", name := "stands", desc := "()I" } : MethodName) ({ cls := "RopeBorder", name := "stands", desc := "()I" } : MethodName)) ∈ kG := gwi 740 (by decide +kernel) rfl
theorem gw741 : (Cond.code ({ cls := "RopeBorder", name := "stands", desc := "()I" } : MethodName) prog_1_method_26_code (2 : Nat) (some FieldType.int)) ∈ kG := gwi 741 (by decide +kernel) rfl
theorem gw742 : (Cond.methodLink "RopeBorder" (270 : Nat) ({ cls := "RopeBorder$Border", name := "isStanding", desc := "()Z" } : MethodName)) ∈ kG := gwi 742 (by decide +kernel) rfl
theorem gw743 : (Cond.methodLink "RopeBorderLaw" (121 : Nat) ({ cls := "RopeBorder", name := "parts", desc := "(I)I" } : MethodName)) ∈ kG := gwi 743 (by decide +kernel) rfl
theorem gw744 : (Cond.instanceMethod ({ cls := "RopeBorder", name := "parts", desc := "(I)I" } : MethodName)) ∈ kG := gwi 744 (by decide +kernel) rfl
theorem gw745 : (Cond.selects "RopeBorder" ({ cls := "RopeBorder", name := "parts", desc := "(I)I" } : MethodName) ({ cls := "RopeBorder", name := "parts", desc := "(I)I" } : MethodName)) ∈ kG := gwi 745 (by decide +kernel) rfl
theorem gw746 : (Cond.code ({ cls := "RopeBorder", name := "parts", desc := "(I)I" } : MethodName) prog_1_method_27_code (3 : Nat) (some FieldType.int)) ∈ kG := gwi 746 (by decide +kernel) rfl
theorem gw747 : (Cond.methodLink "RopeBorder" (274 : Nat) ({ cls := "RopeBorder$Border", name := "mostWear", desc := "()I" } : MethodName)) ∈ kG := gwi 747 (by decide +kernel) rfl
theorem gw748 : (Cond.instanceMethod ({ cls := "RopeBorder$Border", name := "mostWear", desc := "()I" } : MethodName)) ∈ kG := gwi 748 (by decide +kernel) rfl
theorem gw749 : (Cond.selects "RopeBorder$Border" ({ cls := "RopeBorder$Border", name := "mostWear", desc := "()I" } : MethodName) ({ cls := "RopeBorder$Border", name := "mostWear", desc := "()I" } : MethodName)) ∈ kG := gwi 749 (by decide +kernel) rfl
theorem gw750 : (Cond.code ({ cls := "RopeBorder$Border", name := "mostWear", desc := "()I" } : MethodName) prog_2_method_12_code (3 : Nat) (some FieldType.int)) ∈ kG := gwi 750 (by decide +kernel) rfl
theorem gw751 : (Cond.methodLink "RopeBorderLaw" (125 : Nat) ({ cls := "RopeBorder", name := "who", desc := "(II)I" } : MethodName)) ∈ kG := gwi 751 (by decide +kernel) rfl
theorem gw752 : (Cond.instanceMethod ({ cls := "RopeBorder", name := "who", desc := "(II)I" } : MethodName)) ∈ kG := gwi 752 (by decide +kernel) rfl
theorem gw753 : (Cond.selects "RopeBorder" ({ cls := "RopeBorder", name := "who", desc := "(II)I" } : MethodName) ({ cls := "RopeBorder", name := "who", desc := "(II)I" } : MethodName)) ∈ kG := gwi 753 (by decide +kernel) rfl
theorem gw754 : (Cond.code ({ cls := "RopeBorder", name := "who", desc := "(II)I" } : MethodName) prog_1_method_28_code (6 : Nat) (some FieldType.int)) ∈ kG := gwi 754 (by decide +kernel) rfl
theorem gw755 : (Cond.methodLink "RopeBorder" (277 : Nat) ({ cls := "RopeBorder", name := "isSheet", desc := "(I)Z" } : MethodName)) ∈ kG := gwi 755 (by decide +kernel) rfl
theorem gw756 : (Cond.static ({ cls := "RopeBorder", name := "isSheet", desc := "(I)Z" } : MethodName)) ∈ kG := gwi 756 (by decide +kernel) rfl
theorem gw757 : (Cond.code ({ cls := "RopeBorder", name := "isSheet", desc := "(I)Z" } : MethodName) prog_1_method_49_code (1 : Nat) (some FieldType.boolean)) ∈ kG := gwi 757 (by decide +kernel) rfl
theorem gw758 : (Cond.methodLink "RopeBorder" (280 : Nat) ({ cls := "RopeBorder$Sheet", name := "isMissing", desc := "()Z" } : MethodName)) ∈ kG := gwi 758 (by decide +kernel) rfl
theorem gw759 : (Cond.instanceMethod ({ cls := "RopeBorder$Sheet", name := "isMissing", desc := "()Z" } : MethodName)) ∈ kG := gwi 759 (by decide +kernel) rfl
theorem gw760 : (Cond.selects "RopeBorder$Sheet" ({ cls := "RopeBorder$Sheet", name := "isMissing", desc := "()Z" } : MethodName) ({ cls := "RopeBorder$Sheet", name := "isMissing", desc := "()Z" } : MethodName)) ∈ kG := gwi 760 (by decide +kernel) rfl
theorem gw761 : (Cond.code ({ cls := "RopeBorder$Sheet", name := "isMissing", desc := "()Z" } : MethodName) prog_7_method_2_code (1 : Nat) (some FieldType.boolean)) ∈ kG := gwi 761 (by decide +kernel) rfl
theorem gw762 : (Cond.methodLink "RopeBorder" (284 : Nat) ({ cls := "RopeBorder", name := "wearsAsToldIfJustHeGoes", desc := "(IILRopeBorder$Sheet;)Z" } : MethodName)) ∈ kG := gwi 762 (by decide +kernel) rfl
theorem gw764 : (Cond.instanceMethod ({ cls := "RopeBorder", name := "wearsAsToldIfJustHeGoes", desc := "(IILRopeBorder$Sheet;)Z" } : MethodName)) ∈ kG := gwi 764 (by decide +kernel) rfl
theorem gw765 : (Cond.code ({ cls := "RopeBorder", name := "wearsAsToldIfJustHeGoes", desc := "(IILRopeBorder$Sheet;)Z" } : MethodName) prog_1_method_59_code (5 : Nat) (some FieldType.boolean)) ∈ kG := gwi 765 (by decide +kernel) rfl
theorem gw766 : (Cond.methodLink "RopeBorderLaw" (129 : Nat) ({ cls := "RopeBorder", name := "odds", desc := "(III)I" } : MethodName)) ∈ kG := gwi 766 (by decide +kernel) rfl
theorem gw767 : (Cond.instanceMethod ({ cls := "RopeBorder", name := "odds", desc := "(III)I" } : MethodName)) ∈ kG := gwi 767 (by decide +kernel) rfl
theorem gw768 : (Cond.selects "RopeBorder" ({ cls := "RopeBorder", name := "odds", desc := "(III)I" } : MethodName) ({ cls := "RopeBorder", name := "odds", desc := "(III)I" } : MethodName)) ∈ kG := gwi 768 (by decide +kernel) rfl
theorem gw769 : (Cond.code ({ cls := "RopeBorder", name := "odds", desc := "(III)I" } : MethodName) prog_1_method_29_code (7 : Nat) (some FieldType.int)) ∈ kG := gwi 769 (by decide +kernel) rfl
theorem gw770 : (Cond.methodLink "RopeBorder" (288 : Nat) ({ cls := "RopeBorder", name := "isNorthFromPlace", desc := "(III)Z" } : MethodName)) ∈ kG := gwi 770 (by decide +kernel) rfl
theorem gw772 : (Cond.instanceMethod ({ cls := "RopeBorder", name := "isNorthFromPlace", desc := "(III)Z" } : MethodName)) ∈ kG := gwi 772 (by decide +kernel) rfl
theorem gw773 : (Cond.code ({ cls := "RopeBorder", name := "isNorthFromPlace", desc := "(III)Z" } : MethodName) prog_1_method_60_code (4 : Nat) (some FieldType.boolean)) ∈ kG := gwi 773 (by decide +kernel) rfl
theorem gw774 : (Cond.methodLink "RopeBorder" (351 : Nat) ({ cls := "RopeBorder$Border", name := "placeInRhyme", desc := "()I" } : MethodName)) ∈ kG := gwi 774 (by decide +kernel) rfl
theorem gw775 : (Cond.methodLink "RopeBorder" (291 : Nat) ({ cls := "RopeBorder", name := "greatestShared", desc := "(II)I" } : MethodName)) ∈ kG := gwi 775 (by decide +kernel) rfl
theorem gw776 : (Cond.static ({ cls := "RopeBorder", name := "greatestShared", desc := "(II)I" } : MethodName)) ∈ kG := gwi 776 (by decide +kernel) rfl
theorem gw777 : (Cond.code ({ cls := "RopeBorder", name := "greatestShared", desc := "(II)I" } : MethodName) prog_1_method_61_code (3 : Nat) (some FieldType.int)) ∈ kG := gwi 777 (by decide +kernel) rfl
theorem gw778 : (Cond.methodLink "RopeBorderLaw" (133 : Nat) ({ cls := "RopeBorder", name := "seed", desc := "(I)I" } : MethodName)) ∈ kG := gwi 778 (by decide +kernel) rfl
theorem gw779 : (Cond.instanceMethod ({ cls := "RopeBorder", name := "seed", desc := "(I)I" } : MethodName)) ∈ kG := gwi 779 (by decide +kernel) rfl
theorem gw780 : (Cond.selects "RopeBorder" ({ cls := "RopeBorder", name := "seed", desc := "(I)I" } : MethodName) ({ cls := "RopeBorder", name := "seed", desc := "(I)I" } : MethodName)) ∈ kG := gwi 780 (by decide +kernel) rfl
theorem gw781 : (Cond.code ({ cls := "RopeBorder", name := "seed", desc := "(I)I" } : MethodName) prog_1_method_30_code (3 : Nat) (some FieldType.int)) ∈ kG := gwi 781 (by decide +kernel) rfl
theorem gw782 : (Cond.methodLink "RopeBorderLaw" (137 : Nat) ({ cls := "RopeBorder", name := "voice", desc := "(III)I" } : MethodName)) ∈ kG := gwi 782 (by decide +kernel) rfl
theorem gw783 : (Cond.instanceMethod ({ cls := "RopeBorder", name := "voice", desc := "(III)I" } : MethodName)) ∈ kG := gwi 783 (by decide +kernel) rfl
theorem gw784 : (Cond.selects "RopeBorder" ({ cls := "RopeBorder", name := "voice", desc := "(III)I" } : MethodName) ({ cls := "RopeBorder", name := "voice", desc := "(III)I" } : MethodName)) ∈ kG := gwi 784 (by decide +kernel) rfl
theorem gw785 : (Cond.code ({ cls := "RopeBorder", name := "voice", desc := "(III)I" } : MethodName) prog_1_method_31_code (5 : Nat) (some FieldType.int)) ∈ kG := gwi 785 (by decide +kernel) rfl
theorem gw786 : (Cond.methodLink "RopeBorder" (297 : Nat) ({ cls := "RopeBorder$Voices", name := "speak", desc := "(IIIII)I" } : MethodName)) ∈ kG := gwi 786 (by decide +kernel) rfl
theorem gw787 : (Cond.instanceMethod ({ cls := "RopeBorder$Voices", name := "speak", desc := "(IIIII)I" } : MethodName)) ∈ kG := gwi 787 (by decide +kernel) rfl
theorem gw788 : (Cond.selects "RopeBorder$Voices" ({ cls := "RopeBorder$Voices", name := "speak", desc := "(IIIII)I" } : MethodName) ({ cls := "RopeBorder$Voices", name := "speak", desc := "(IIIII)I" } : MethodName)) ∈ kG := gwi 788 (by decide +kernel) rfl
theorem gw789 : (Cond.code ({ cls := "RopeBorder$Voices", name := "speak", desc := "(IIIII)I" } : MethodName) prog_9_method_2_code (6 : Nat) (some FieldType.int)) ∈ kG := gwi 789 (by decide +kernel) rfl
theorem gw790 : (Cond.methodLink "RopeBorder$Voices" (28 : Nat) ({ cls := "RopeBorder$Voices", name := "say", desc := "(IIII)I" } : MethodName)) ∈ kG := gwi 790 (by decide +kernel) rfl
theorem gw792 : (Cond.instanceMethod ({ cls := "RopeBorder$Voices", name := "say", desc := "(IIII)I" } : MethodName)) ∈ kG := gwi 792 (by decide +kernel) rfl
theorem gw793 : (Cond.code ({ cls := "RopeBorder$Voices", name := "say", desc := "(IIII)I" } : MethodName) prog_9_method_3_code (8 : Nat) (some FieldType.int)) ∈ kG := gwi 793 (by decide +kernel) rfl
theorem gw797 : (Cond.methodLink "RopeBorder$Voices" (38 : Nat) ({ cls := "RopeBorder$Voices", name := "work", desc := "(IIII)I" } : MethodName)) ∈ kG := gwi 797 (by decide +kernel) rfl
theorem gw799 : (Cond.instanceMethod ({ cls := "RopeBorder$Voices", name := "work", desc := "(IIII)I" } : MethodName)) ∈ kG := gwi 799 (by decide +kernel) rfl
theorem gw800 : (Cond.code ({ cls := "RopeBorder$Voices", name := "work", desc := "(IIII)I" } : MethodName) prog_9_method_4_code (5 : Nat) (some FieldType.int)) ∈ kG := gwi 800 (by decide +kernel) rfl
theorem gw801 : (Cond.methodLink "RopeBorderLaw" (141 : Nat) ({ cls := "RopeBorder", name := "trace", desc := "(I)I" } : MethodName)) ∈ kG := gwi 801 (by decide +kernel) rfl
theorem gw802 : (Cond.instanceMethod ({ cls := "RopeBorder", name := "trace", desc := "(I)I" } : MethodName)) ∈ kG := gwi 802 (by decide +kernel) rfl
theorem gw803 : (Cond.selects "RopeBorder" ({ cls := "RopeBorder", name := "trace", desc := "(I)I" } : MethodName) ({ cls := "RopeBorder", name := "trace", desc := "(I)I" } : MethodName)) ∈ kG := gwi 803 (by decide +kernel) rfl
theorem gw804 : (Cond.code ({ cls := "RopeBorder", name := "trace", desc := "(I)I" } : MethodName) prog_1_method_32_code (2 : Nat) (some FieldType.int)) ∈ kG := gwi 804 (by decide +kernel) rfl
theorem gw805 : (Cond.methodLink "RopeBorderLaw" (145 : Nat) ({ cls := "RopeBorder", name := "sheet", desc := "(III)I" } : MethodName)) ∈ kG := gwi 805 (by decide +kernel) rfl
theorem gw806 : (Cond.instanceMethod ({ cls := "RopeBorder", name := "sheet", desc := "(III)I" } : MethodName)) ∈ kG := gwi 806 (by decide +kernel) rfl
theorem gw807 : (Cond.selects "RopeBorder" ({ cls := "RopeBorder", name := "sheet", desc := "(III)I" } : MethodName) ({ cls := "RopeBorder", name := "sheet", desc := "(III)I" } : MethodName)) ∈ kG := gwi 807 (by decide +kernel) rfl
theorem gw808 : (Cond.code ({ cls := "RopeBorder", name := "sheet", desc := "(III)I" } : MethodName) prog_1_method_33_code (5 : Nat) (some FieldType.int)) ∈ kG := gwi 808 (by decide +kernel) rfl
theorem gw809 : (Cond.methodLink "RopeBorder" (307 : Nat) ({ cls := "RopeBorder$Sheet", name := "clearTo", desc := "(II)V" } : MethodName)) ∈ kG := gwi 809 (by decide +kernel) rfl
theorem gw810 : (Cond.instanceMethod ({ cls := "RopeBorder$Sheet", name := "clearTo", desc := "(II)V" } : MethodName)) ∈ kG := gwi 810 (by decide +kernel) rfl
theorem gw811 : (Cond.selects "RopeBorder$Sheet" ({ cls := "RopeBorder$Sheet", name := "clearTo", desc := "(II)V" } : MethodName) ({ cls := "RopeBorder$Sheet", name := "clearTo", desc := "(II)V" } : MethodName)) ∈ kG := gwi 811 (by decide +kernel) rfl
theorem gw812 : (Cond.code ({ cls := "RopeBorder$Sheet", name := "clearTo", desc := "(II)V" } : MethodName) prog_7_method_3_code (4 : Nat) (none : Option FieldType)) ∈ kG := gwi 812 (by decide +kernel) rfl
theorem gw813 : (Cond.methodLink "RopeBorderLaw" (149 : Nat) ({ cls := "RopeBorder", name := "put", desc := "(III)I" } : MethodName)) ∈ kG := gwi 813 (by decide +kernel) rfl
theorem gw814 : (Cond.instanceMethod ({ cls := "RopeBorder", name := "put", desc := "(III)I" } : MethodName)) ∈ kG := gwi 814 (by decide +kernel) rfl
theorem gw815 : (Cond.selects "RopeBorder" ({ cls := "RopeBorder", name := "put", desc := "(III)I" } : MethodName) ({ cls := "RopeBorder", name := "put", desc := "(III)I" } : MethodName)) ∈ kG := gwi 815 (by decide +kernel) rfl
theorem gw816 : (Cond.code ({ cls := "RopeBorder", name := "put", desc := "(III)I" } : MethodName) prog_1_method_34_code (5 : Nat) (some FieldType.int)) ∈ kG := gwi 816 (by decide +kernel) rfl
theorem gw817 : (Cond.methodLink "RopeBorder" (311 : Nat) ({ cls := "RopeBorder$Sheet", name := "write", desc := "(II)V" } : MethodName)) ∈ kG := gwi 817 (by decide +kernel) rfl
theorem gw818 : (Cond.instanceMethod ({ cls := "RopeBorder$Sheet", name := "write", desc := "(II)V" } : MethodName)) ∈ kG := gwi 818 (by decide +kernel) rfl
theorem gw819 : (Cond.selects "RopeBorder$Sheet" ({ cls := "RopeBorder$Sheet", name := "write", desc := "(II)V" } : MethodName) ({ cls := "RopeBorder$Sheet", name := "write", desc := "(II)V" } : MethodName)) ∈ kG := gwi 819 (by decide +kernel) rfl
theorem gw820 : (Cond.code ({ cls := "RopeBorder$Sheet", name := "write", desc := "(II)V" } : MethodName) prog_7_method_4_code (3 : Nat) (none : Option FieldType)) ∈ kG := gwi 820 (by decide +kernel) rfl
theorem gw821 : (Cond.methodLink "RopeBorderLaw" (153 : Nat) ({ cls := "RopeBorder", name := "move", desc := "(IIIII)I" } : MethodName)) ∈ kG := gwi 821 (by decide +kernel) rfl
theorem gw822 : (Cond.instanceMethod ({ cls := "RopeBorder", name := "move", desc := "(IIIII)I" } : MethodName)) ∈ kG := gwi 822 (by decide +kernel) rfl
theorem gw823 : (Cond.selects "RopeBorder" ({ cls := "RopeBorder", name := "move", desc := "(IIIII)I" } : MethodName) ({ cls := "RopeBorder", name := "move", desc := "(IIIII)I" } : MethodName)) ∈ kG := gwi 823 (by decide +kernel) rfl
theorem gw824 : (Cond.code ({ cls := "RopeBorder", name := "move", desc := "(IIIII)I" } : MethodName) prog_1_method_35_code (8 : Nat) (some FieldType.int)) ∈ kG := gwi 824 (by decide +kernel) rfl
theorem gw825 : (Cond.methodLink "RopeBorder" (317 : Nat) ({ cls := "RopeBorder$Sheet", name := "hasRun", desc := "(II)Z" } : MethodName)) ∈ kG := gwi 825 (by decide +kernel) rfl
theorem gw826 : (Cond.instanceMethod ({ cls := "RopeBorder$Sheet", name := "hasRun", desc := "(II)Z" } : MethodName)) ∈ kG := gwi 826 (by decide +kernel) rfl
theorem gw827 : (Cond.selects "RopeBorder$Sheet" ({ cls := "RopeBorder$Sheet", name := "hasRun", desc := "(II)Z" } : MethodName) ({ cls := "RopeBorder$Sheet", name := "hasRun", desc := "(II)Z" } : MethodName)) ∈ kG := gwi 827 (by decide +kernel) rfl
theorem gw828 : (Cond.code ({ cls := "RopeBorder$Sheet", name := "hasRun", desc := "(II)Z" } : MethodName) prog_7_method_5_code (3 : Nat) (some FieldType.boolean)) ∈ kG := gwi 828 (by decide +kernel) rfl
theorem gw829 : (Cond.methodLink "RopeBorder" (323 : Nat) ({ cls := "java/lang/System", name := "arraycopy", desc := "(Ljava/lang/Object;ILjava/lang/Object;II)V" } : MethodName)) ∈ kG := gwi 829 (by decide +kernel) rfl
theorem gw830 : (Cond.methodLink "RopeBorderLaw" (158 : Nat) ({ cls := "RopeBorder", name := "loads", desc := "(I)I" } : MethodName)) ∈ kG := gwi 830 (by decide +kernel) rfl
theorem gw831 : (Cond.instanceMethod ({ cls := "RopeBorder", name := "loads", desc := "(I)I" } : MethodName)) ∈ kG := gwi 831 (by decide +kernel) rfl
theorem gw832 : (Cond.selects "RopeBorder" ({ cls := "RopeBorder", name := "loads", desc := "(I)I" } : MethodName) ({ cls := "RopeBorder", name := "loads", desc := "(I)I" } : MethodName)) ∈ kG := gwi 832 (by decide +kernel) rfl
theorem gw833 : (Cond.code ({ cls := "RopeBorder", name := "loads", desc := "(I)I" } : MethodName) prog_1_method_36_code (5 : Nat) (some FieldType.int)) ∈ kG := gwi 833 (by decide +kernel) rfl
theorem gw834 : (Cond.methodLink "RopeBorder" (329 : Nat) ({ cls := "java/lang/Math", name := "min", desc := "(II)I" } : MethodName)) ∈ kG := gwi 834 (by decide +kernel) rfl
theorem gw835 : (Cond.methodLink "RopeBorderLaw" (162 : Nat) ({ cls := "RopeBorder", name := "judge", desc := "(I)I" } : MethodName)) ∈ kG := gwi 835 (by decide +kernel) rfl
theorem gw836 : (Cond.instanceMethod ({ cls := "RopeBorder", name := "judge", desc := "(I)I" } : MethodName)) ∈ kG := gwi 836 (by decide +kernel) rfl
theorem gw837 : (Cond.selects "RopeBorder" ({ cls := "RopeBorder", name := "judge", desc := "(I)I" } : MethodName) ({ cls := "RopeBorder", name := "judge", desc := "(I)I" } : MethodName)) ∈ kG := gwi 837 (by decide +kernel) rfl
theorem gw838 : (Cond.code ({ cls := "RopeBorder", name := "judge", desc := "(I)I" } : MethodName) prog_1_method_37_code (5 : Nat) (some FieldType.int)) ∈ kG := gwi 838 (by decide +kernel) rfl
theorem gw839 : (Cond.methodLink "RopeBorderLaw" (166 : Nat) ({ cls := "RopeBorder", name := "image", desc := "()I" } : MethodName)) ∈ kG := gwi 839 (by decide +kernel) rfl
theorem gw840 : (Cond.instanceMethod ({ cls := "RopeBorder", name := "image", desc := "()I" } : MethodName)) ∈ kG := gwi 840 (by decide +kernel) rfl
theorem gw841 : (Cond.selects "RopeBorder" ({ cls := "RopeBorder", name := "image", desc := "()I" } : MethodName) ({ cls := "RopeBorder", name := "image", desc := "()I" } : MethodName)) ∈ kG := gwi 841 (by decide +kernel) rfl
theorem gw842 : (Cond.code ({ cls := "RopeBorder", name := "image", desc := "()I" } : MethodName) prog_1_method_38_code (1 : Nat) (some FieldType.int)) ∈ kG := gwi 842 (by decide +kernel) rfl
theorem gw843 : (Cond.methodLink "RopeBorder" (334 : Nat) ({ cls := "RopeBorder$Kept", name := "copyFrom", desc := "(LRopeBorder$Kept;)V" } : MethodName)) ∈ kG := gwi 843 (by decide +kernel) rfl
theorem gw844 : (Cond.instanceMethod ({ cls := "RopeBorder$Kept", name := "copyFrom", desc := "(LRopeBorder$Kept;)V" } : MethodName)) ∈ kG := gwi 844 (by decide +kernel) rfl
theorem gw845 : (Cond.selects "RopeBorder$Kept" ({ cls := "RopeBorder$Kept", name := "copyFrom", desc := "(LRopeBorder$Kept;)V" } : MethodName) ({ cls := "RopeBorder$Kept", name := "copyFrom", desc := "(LRopeBorder$Kept;)V" } : MethodName)) ∈ kG := gwi 845 (by decide +kernel) rfl
theorem gw846 : (Cond.code ({ cls := "RopeBorder$Kept", name := "copyFrom", desc := "(LRopeBorder$Kept;)V" } : MethodName) prog_4_method_3_code (2 : Nat) (none : Option FieldType)) ∈ kG := gwi 846 (by decide +kernel) rfl
theorem gw847 : (Cond.methodLink "RopeBorder$Kept" (55 : Nat) ({ cls := "RopeBorder$Law", name := "takeCode", desc := "([II)V" } : MethodName)) ∈ kG := gwi 847 (by decide +kernel) rfl
theorem gw848 : (Cond.methodLink "RopeBorder$Kept" (59 : Nat) ({ cls := "RopeBorder$Border", name := "copyFrom", desc := "(LRopeBorder$Border;)V" } : MethodName)) ∈ kG := gwi 848 (by decide +kernel) rfl
theorem gw849 : (Cond.methodLink "RopeBorder$Kept" (63 : Nat) ({ cls := "java/lang/System", name := "arraycopy", desc := "(Ljava/lang/Object;ILjava/lang/Object;II)V" } : MethodName)) ∈ kG := gwi 849 (by decide +kernel) rfl
theorem gw850 : (Cond.methodLink "RopeBorderLaw" (170 : Nat) ({ cls := "RopeBorder", name := "restore", desc := "()I" } : MethodName)) ∈ kG := gwi 850 (by decide +kernel) rfl
theorem gw851 : (Cond.instanceMethod ({ cls := "RopeBorder", name := "restore", desc := "()I" } : MethodName)) ∈ kG := gwi 851 (by decide +kernel) rfl
theorem gw852 : (Cond.selects "RopeBorder" ({ cls := "RopeBorder", name := "restore", desc := "()I" } : MethodName) ({ cls := "RopeBorder", name := "restore", desc := "()I" } : MethodName)) ∈ kG := gwi 852 (by decide +kernel) rfl
theorem gw853 : (Cond.code ({ cls := "RopeBorder", name := "restore", desc := "()I" } : MethodName) prog_1_method_39_code (1 : Nat) (some FieldType.int)) ∈ kG := gwi 853 (by decide +kernel) rfl
theorem gw854 : (Cond.methodLink "RopeBorderLaw" (174 : Nat) ({ cls := "RopeBorder", name := "tell", desc := "(I)I" } : MethodName)) ∈ kG := gwi 854 (by decide +kernel) rfl
theorem gw855 : (Cond.instanceMethod ({ cls := "RopeBorder", name := "tell", desc := "(I)I" } : MethodName)) ∈ kG := gwi 855 (by decide +kernel) rfl
theorem gw856 : (Cond.selects "RopeBorder" ({ cls := "RopeBorder", name := "tell", desc := "(I)I" } : MethodName) ({ cls := "RopeBorder", name := "tell", desc := "(I)I" } : MethodName)) ∈ kG := gwi 856 (by decide +kernel) rfl
theorem gw857 : (Cond.code ({ cls := "RopeBorder", name := "tell", desc := "(I)I" } : MethodName) prog_1_method_40_code (2 : Nat) (some FieldType.int)) ∈ kG := gwi 857 (by decide +kernel) rfl
theorem gw858 : (Cond.methodLink "RopeBorderLaw" (178 : Nat) ({ cls := "RopeBorder", name := "check", desc := "()I" } : MethodName)) ∈ kG := gwi 858 (by decide +kernel) rfl
theorem gw859 : (Cond.instanceMethod ({ cls := "RopeBorder", name := "check", desc := "()I" } : MethodName)) ∈ kG := gwi 859 (by decide +kernel) rfl
theorem gw860 : (Cond.selects "RopeBorder" ({ cls := "RopeBorder", name := "check", desc := "()I" } : MethodName) ({ cls := "RopeBorder", name := "check", desc := "()I" } : MethodName)) ∈ kG := gwi 860 (by decide +kernel) rfl
theorem gw861 : (Cond.code ({ cls := "RopeBorder", name := "check", desc := "()I" } : MethodName) prog_1_method_41_code (3 : Nat) (some FieldType.int)) ∈ kG := gwi 861 (by decide +kernel) rfl
theorem gw862 : (Cond.methodLink "RopeBorderLaw" (182 : Nat) ({ cls := "RopeBorder", name := "count", desc := "(I)I" } : MethodName)) ∈ kG := gwi 862 (by decide +kernel) rfl
theorem gw863 : (Cond.instanceMethod ({ cls := "RopeBorder", name := "count", desc := "(I)I" } : MethodName)) ∈ kG := gwi 863 (by decide +kernel) rfl
theorem gw864 : (Cond.selects "RopeBorder" ({ cls := "RopeBorder", name := "count", desc := "(I)I" } : MethodName) ({ cls := "RopeBorder", name := "count", desc := "(I)I" } : MethodName)) ∈ kG := gwi 864 (by decide +kernel) rfl
theorem gw865 : (Cond.code ({ cls := "RopeBorder", name := "count", desc := "(I)I" } : MethodName) prog_1_method_42_code (2 : Nat) (some FieldType.int)) ∈ kG := gwi 865 (by decide +kernel) rfl
theorem gw866 : (Cond.methodLink "RopeBorderLaw" (186 : Nat) ({ cls := "RopeBorder", name := "told", desc := "(I)I" } : MethodName)) ∈ kG := gwi 866 (by decide +kernel) rfl
theorem gw867 : (Cond.instanceMethod ({ cls := "RopeBorder", name := "told", desc := "(I)I" } : MethodName)) ∈ kG := gwi 867 (by decide +kernel) rfl
theorem gw868 : (Cond.selects "RopeBorder" ({ cls := "RopeBorder", name := "told", desc := "(I)I" } : MethodName) ({ cls := "RopeBorder", name := "told", desc := "(I)I" } : MethodName)) ∈ kG := gwi 868 (by decide +kernel) rfl
theorem gw869 : (Cond.code ({ cls := "RopeBorder", name := "told", desc := "(I)I" } : MethodName) prog_1_method_43_code (2 : Nat) (some FieldType.int)) ∈ kG := gwi 869 (by decide +kernel) rfl
theorem gw872 : (Cond.methodLink "RopeBorderLaw" (12 : Nat) ({ cls := "RopeBorderModel", name := "<init>", desc := "()V" } : MethodName)) ∈ kG := gwi 872 (by decide +kernel) rfl
theorem gw873 : (Cond.instanceMethod ({ cls := "RopeBorderModel", name := "<init>", desc := "()V" } : MethodName)) ∈ kG := gwi 873 (by decide +kernel) rfl
theorem gw874 : (Cond.code ({ cls := "RopeBorderModel", name := "<init>", desc := "()V" } : MethodName) prog_11_method_1_code (1 : Nat) (none : Option FieldType)) ∈ kG := gwi 874 (by decide +kernel) rfl
theorem gw875 : (Cond.methodLink "RopeBorderModel" (1 : Nat) ({ cls := "java/lang/Object", name := "<init>", desc := "()V" } : MethodName)) ∈ kG := gwi 875 (by decide +kernel) rfl
theorem gw876 : (Cond.fieldLink "RopeBorderModel" (7 : Nat) "RopeBorderModel" "row" "[I") ∈ kG := gwi 876 (by decide +kernel) rfl
theorem gw877 : (Cond.fieldLink "RopeBorderModel" (13 : Nat) "RopeBorderModel" "kept" "[I") ∈ kG := gwi 877 (by decide +kernel) rfl
theorem gw878 : (Cond.fieldLink "RopeBorderModel" (16 : Nat) "RopeBorderModel" "tried" "[I") ∈ kG := gwi 878 (by decide +kernel) rfl
theorem gw879 : (Cond.fieldLink "RopeBorderModel" (19 : Nat) "RopeBorderModel" "before" "[I") ∈ kG := gwi 879 (by decide +kernel) rfl
theorem gw880 : (Cond.fieldLink "RopeBorderModel" (242 : Nat) "RopeBorderModel" "isKept" "Z") ∈ kG := gwi 880 (by decide +kernel) rfl
theorem gw881 : (Cond.fieldLink "RopeBorderModel" (245 : Nat) "RopeBorderModel" "images" "I") ∈ kG := gwi 881 (by decide +kernel) rfl
theorem gw882 : (Cond.fieldLink "RopeBorderModel" (22 : Nat) "RopeBorderModel" "found" "[I") ∈ kG := gwi 882 (by decide +kernel) rfl
theorem gw883 : (Cond.fieldLink "RopeBorderModel" (94 : Nat) "RopeBorderModel" "use" "I") ∈ kG := gwi 883 (by decide +kernel) rfl
theorem gw884 : (Cond.fieldLink "RopeBorderModel" (101 : Nat) "RopeBorderModel" "at" "I") ∈ kG := gwi 884 (by decide +kernel) rfl
theorem gw885 : (Cond.fieldLink "RopeBorderModel" (90 : Nat) "RopeBorderModel" "end" "I") ∈ kG := gwi 885 (by decide +kernel) rfl
theorem gw886 : (Cond.fieldLink "RopeBorderModel" (129 : Nat) "RopeBorderModel" "open" "I") ∈ kG := gwi 886 (by decide +kernel) rfl
theorem gw887 : (Cond.fieldLink "RopeBorderModel" (114 : Nat) "RopeBorderModel" "namedA" "I") ∈ kG := gwi 887 (by decide +kernel) rfl
theorem gw888 : (Cond.fieldLink "RopeBorderModel" (117 : Nat) "RopeBorderModel" "namedB" "I") ∈ kG := gwi 888 (by decide +kernel) rfl
theorem gw889 : (Cond.fieldLink "RopeBorderModel" (120 : Nat) "RopeBorderModel" "namedC" "I") ∈ kG := gwi 889 (by decide +kernel) rfl
theorem gw890 : (Cond.fieldLink "RopeBorderModel" (97 : Nat) "RopeBorderModel" "good" "Z") ∈ kG := gwi 890 (by decide +kernel) rfl
theorem gw891 : (Cond.fieldLink "RopeBorderModel" (25 : Nat) "RopeBorderModel" "bitsOf" "[I") ∈ kG := gwi 891 (by decide +kernel) rfl
theorem gw892 : (Cond.fieldLink "RopeBorderModel" (28 : Nat) "RopeBorderModel" "sizeOf" "[I") ∈ kG := gwi 892 (by decide +kernel) rfl
theorem gw893 : (Cond.fieldLink "RopeBorderModel" (31 : Nat) "RopeBorderModel" "sheets" "[I") ∈ kG := gwi 893 (by decide +kernel) rfl
theorem gw894 : (Cond.fieldLink "RopeBorderModel" (34 : Nat) "RopeBorderModel" "moved" "[I") ∈ kG := gwi 894 (by decide +kernel) rfl
theorem gw895 : (Cond.fieldLink "RopeBorderModel" (37 : Nat) "RopeBorderModel" "traced" "[I") ∈ kG := gwi 895 (by decide +kernel) rfl
theorem gw896 : (Cond.fieldLink "RopeBorderModel" (212 : Nat) "RopeBorderModel" "tracedMany" "I") ∈ kG := gwi 896 (by decide +kernel) rfl
theorem gw897 : (Cond.fieldLink "RopeBorderModel" (230 : Nat) "RopeBorderModel" "voiceKind" "I") ∈ kG := gwi 897 (by decide +kernel) rfl
theorem gw898 : (Cond.fieldLink "RopeBorderModel" (218 : Nat) "RopeBorderModel" "voiceN" "I") ∈ kG := gwi 898 (by decide +kernel) rfl
theorem gw899 : (Cond.fieldLink "RopeBorderModel" (224 : Nat) "RopeBorderModel" "voiceM" "I") ∈ kG := gwi 899 (by decide +kernel) rfl
theorem gw949 : (Cond.methodLink "RopeBorderLaw" (17 : Nat) ({ cls := "RopeBorderModel", name := "rope", desc := "(I)I" } : MethodName)) ∈ kG := gwi 949 (by decide +kernel) rfl
theorem gw950 : (Cond.instanceMethod ({ cls := "RopeBorderModel", name := "rope", desc := "(I)I" } : MethodName)) ∈ kG := gwi 950 (by decide +kernel) rfl
theorem gw951 : (Cond.selects "RopeBorderModel" ({ cls := "RopeBorderModel", name := "rope", desc := "(I)I" } : MethodName) ({ cls := "RopeBorderModel", name := "rope", desc := "(I)I" } : MethodName)) ∈ kG := gwi 951 (by decide +kernel) rfl
theorem gw952 : (Cond.code ({ cls := "RopeBorderModel", name := "rope", desc := "(I)I" } : MethodName) prog_11_method_15_code (3 : Nat) (some FieldType.int)) ∈ kG := gwi 952 (by decide +kernel) rfl
theorem gw953 : (Cond.methodLink "RopeBorderModel" (41 : Nat) ({ cls := "RopeBorderModel", name := "in", desc := "(III)Z" } : MethodName)) ∈ kG := gwi 953 (by decide +kernel) rfl
theorem gw954 : (Cond.static ({ cls := "RopeBorderModel", name := "in", desc := "(III)Z" } : MethodName)) ∈ kG := gwi 954 (by decide +kernel) rfl
theorem gw955 : (Cond.code ({ cls := "RopeBorderModel", name := "in", desc := "(III)Z" } : MethodName) prog_11_method_2_code (3 : Nat) (some FieldType.boolean)) ∈ kG := gwi 955 (by decide +kernel) rfl
theorem gw956 : (Cond.constant "RopeBorderModel" (45 : Nat) (-1000000001 : Int32)) ∈ kG := gwi 956 (by decide +kernel) rfl
theorem gw957 : (Cond.methodLink "RopeBorderModel" (46 : Nat) ({ cls := "RopeBorderModel", name := "errs", desc := "(I)I" } : MethodName)) ∈ kG := gwi 957 (by decide +kernel) rfl
theorem gw959 : (Cond.instanceMethod ({ cls := "RopeBorderModel", name := "errs", desc := "(I)I" } : MethodName)) ∈ kG := gwi 959 (by decide +kernel) rfl
theorem gw960 : (Cond.code ({ cls := "RopeBorderModel", name := "errs", desc := "(I)I" } : MethodName) prog_11_method_3_code (2 : Nat) (some FieldType.int)) ∈ kG := gwi 960 (by decide +kernel) rfl
theorem gw961 : (Cond.constant "RopeBorderModel" (40 : Nat) (-1000000000 : Int32)) ∈ kG := gwi 961 (by decide +kernel) rfl
theorem gw962 : (Cond.constant "RopeBorderModel" (50 : Nat) (-1000000003 : Int32)) ∈ kG := gwi 962 (by decide +kernel) rfl
theorem gw963 : (Cond.methodLink "RopeBorderModel" (51 : Nat) ({ cls := "RopeBorderModel", name := "becomes", desc := "(II)I" } : MethodName)) ∈ kG := gwi 963 (by decide +kernel) rfl
theorem gw965 : (Cond.instanceMethod ({ cls := "RopeBorderModel", name := "becomes", desc := "(II)I" } : MethodName)) ∈ kG := gwi 965 (by decide +kernel) rfl
theorem gw966 : (Cond.code ({ cls := "RopeBorderModel", name := "becomes", desc := "(II)I" } : MethodName) prog_11_method_14_code (4 : Nat) (some FieldType.int)) ∈ kG := gwi 966 (by decide +kernel) rfl
theorem gw967 : (Cond.methodLink "RopeBorderLaw" (22 : Nat) ({ cls := "RopeBorderModel", name := "rhyme", desc := "(II)I" } : MethodName)) ∈ kG := gwi 967 (by decide +kernel) rfl
theorem gw968 : (Cond.instanceMethod ({ cls := "RopeBorderModel", name := "rhyme", desc := "(II)I" } : MethodName)) ∈ kG := gwi 968 (by decide +kernel) rfl
theorem gw969 : (Cond.selects "RopeBorderModel" ({ cls := "RopeBorderModel", name := "rhyme", desc := "(II)I" } : MethodName) ({ cls := "RopeBorderModel", name := "rhyme", desc := "(II)I" } : MethodName)) ∈ kG := gwi 969 (by decide +kernel) rfl
theorem gw970 : (Cond.code ({ cls := "RopeBorderModel", name := "rhyme", desc := "(II)I" } : MethodName) prog_11_method_16_code (3 : Nat) (some FieldType.int)) ∈ kG := gwi 970 (by decide +kernel) rfl
theorem gw971 : (Cond.methodLink "RopeBorderLaw" (26 : Nat) ({ cls := "RopeBorderModel", name := "turner", desc := "(I)I" } : MethodName)) ∈ kG := gwi 971 (by decide +kernel) rfl
theorem gw972 : (Cond.instanceMethod ({ cls := "RopeBorderModel", name := "turner", desc := "(I)I" } : MethodName)) ∈ kG := gwi 972 (by decide +kernel) rfl
theorem gw973 : (Cond.selects "RopeBorderModel" ({ cls := "RopeBorderModel", name := "turner", desc := "(I)I" } : MethodName) ({ cls := "RopeBorderModel", name := "turner", desc := "(I)I" } : MethodName)) ∈ kG := gwi 973 (by decide +kernel) rfl
theorem gw974 : (Cond.code ({ cls := "RopeBorderModel", name := "turner", desc := "(I)I" } : MethodName) prog_11_method_17_code (3 : Nat) (some FieldType.int)) ∈ kG := gwi 974 (by decide +kernel) rfl
theorem gw975 : (Cond.constant "RopeBorderModel" (55 : Nat) (-1000000004 : Int32)) ∈ kG := gwi 975 (by decide +kernel) rfl
theorem gw976 : (Cond.methodLink "RopeBorderLaw" (30 : Nat) ({ cls := "RopeBorderModel", name := "ofTurner", desc := "(II)I" } : MethodName)) ∈ kG := gwi 976 (by decide +kernel) rfl
theorem gw977 : (Cond.instanceMethod ({ cls := "RopeBorderModel", name := "ofTurner", desc := "(II)I" } : MethodName)) ∈ kG := gwi 977 (by decide +kernel) rfl
theorem gw978 : (Cond.selects "RopeBorderModel" ({ cls := "RopeBorderModel", name := "ofTurner", desc := "(II)I" } : MethodName) ({ cls := "RopeBorderModel", name := "ofTurner", desc := "(II)I" } : MethodName)) ∈ kG := gwi 978 (by decide +kernel) rfl
theorem gw979 : (Cond.code ({ cls := "RopeBorderModel", name := "ofTurner", desc := "(II)I" } : MethodName) prog_11_method_18_code (3 : Nat) (some FieldType.int)) ∈ kG := gwi 979 (by decide +kernel) rfl
theorem gw980 : (Cond.methodLink "RopeBorderModel" (56 : Nat) ({ cls := "RopeBorderModel", name := "isTurner", desc := "(I)Z" } : MethodName)) ∈ kG := gwi 980 (by decide +kernel) rfl
theorem gw982 : (Cond.instanceMethod ({ cls := "RopeBorderModel", name := "isTurner", desc := "(I)Z" } : MethodName)) ∈ kG := gwi 982 (by decide +kernel) rfl
theorem gw983 : (Cond.code ({ cls := "RopeBorderModel", name := "isTurner", desc := "(I)Z" } : MethodName) prog_11_method_11_code (2 : Nat) (some FieldType.boolean)) ∈ kG := gwi 983 (by decide +kernel) rfl
theorem gw984 : (Cond.methodLink "RopeBorderLaw" (34 : Nat) ({ cls := "RopeBorderModel", name := "relieve", desc := "(I)I" } : MethodName)) ∈ kG := gwi 984 (by decide +kernel) rfl
theorem gw985 : (Cond.instanceMethod ({ cls := "RopeBorderModel", name := "relieve", desc := "(I)I" } : MethodName)) ∈ kG := gwi 985 (by decide +kernel) rfl
theorem gw986 : (Cond.selects "RopeBorderModel" ({ cls := "RopeBorderModel", name := "relieve", desc := "(I)I" } : MethodName) ({ cls := "RopeBorderModel", name := "relieve", desc := "(I)I" } : MethodName)) ∈ kG := gwi 986 (by decide +kernel) rfl
theorem gw987 : (Cond.code ({ cls := "RopeBorderModel", name := "relieve", desc := "(I)I" } : MethodName) prog_11_method_19_code (2 : Nat) (some FieldType.int)) ∈ kG := gwi 987 (by decide +kernel) rfl
theorem gw988 : (Cond.methodLink "RopeBorderLaw" (39 : Nat) ({ cls := "RopeBorderModel", name := "crosser", desc := "(III)I" } : MethodName)) ∈ kG := gwi 988 (by decide +kernel) rfl
theorem gw989 : (Cond.instanceMethod ({ cls := "RopeBorderModel", name := "crosser", desc := "(III)I" } : MethodName)) ∈ kG := gwi 989 (by decide +kernel) rfl
theorem gw990 : (Cond.selects "RopeBorderModel" ({ cls := "RopeBorderModel", name := "crosser", desc := "(III)I" } : MethodName) ({ cls := "RopeBorderModel", name := "crosser", desc := "(III)I" } : MethodName)) ∈ kG := gwi 990 (by decide +kernel) rfl
theorem gw991 : (Cond.code ({ cls := "RopeBorderModel", name := "crosser", desc := "(III)I" } : MethodName) prog_11_method_20_code (5 : Nat) (some FieldType.int)) ∈ kG := gwi 991 (by decide +kernel) rfl
theorem gw992 : (Cond.methodLink "RopeBorderModel" (60 : Nat) ({ cls := "RopeBorderModel", name := "isPlace", desc := "(I)Z" } : MethodName)) ∈ kG := gwi 992 (by decide +kernel) rfl
theorem gw994 : (Cond.instanceMethod ({ cls := "RopeBorderModel", name := "isPlace", desc := "(I)Z" } : MethodName)) ∈ kG := gwi 994 (by decide +kernel) rfl
theorem gw995 : (Cond.code ({ cls := "RopeBorderModel", name := "isPlace", desc := "(I)Z" } : MethodName) prog_11_method_10_code (2 : Nat) (some FieldType.boolean)) ∈ kG := gwi 995 (by decide +kernel) rfl
theorem gw996 : (Cond.methodLink "RopeBorderModel" (63 : Nat) ({ cls := "RopeBorderModel", name := "gets", desc := "(III)V" } : MethodName)) ∈ kG := gwi 996 (by decide +kernel) rfl
theorem gw998 : (Cond.instanceMethod ({ cls := "RopeBorderModel", name := "gets", desc := "(III)V" } : MethodName)) ∈ kG := gwi 998 (by decide +kernel) rfl
theorem gw999 : (Cond.code ({ cls := "RopeBorderModel", name := "gets", desc := "(III)V" } : MethodName) prog_11_method_9_code (4 : Nat) (none : Option FieldType)) ∈ kG := gwi 999 (by decide +kernel) rfl
theorem gw1000 : (Cond.methodLink "RopeBorderLaw" (43 : Nat) ({ cls := "RopeBorderModel", name := "ofCrosser", desc := "(II)I" } : MethodName)) ∈ kG := gwi 1000 (by decide +kernel) rfl
theorem gw1001 : (Cond.instanceMethod ({ cls := "RopeBorderModel", name := "ofCrosser", desc := "(II)I" } : MethodName)) ∈ kG := gwi 1001 (by decide +kernel) rfl
theorem gw1002 : (Cond.selects "RopeBorderModel" ({ cls := "RopeBorderModel", name := "ofCrosser", desc := "(II)I" } : MethodName) ({ cls := "RopeBorderModel", name := "ofCrosser", desc := "(II)I" } : MethodName)) ∈ kG := gwi 1002 (by decide +kernel) rfl
theorem gw1003 : (Cond.code ({ cls := "RopeBorderModel", name := "ofCrosser", desc := "(II)I" } : MethodName) prog_11_method_21_code (3 : Nat) (some FieldType.int)) ∈ kG := gwi 1003 (by decide +kernel) rfl
theorem gw1004 : (Cond.methodLink "RopeBorderModel" (67 : Nat) ({ cls := "RopeBorderModel", name := "isCrosser", desc := "(I)Z" } : MethodName)) ∈ kG := gwi 1004 (by decide +kernel) rfl
theorem gw1006 : (Cond.instanceMethod ({ cls := "RopeBorderModel", name := "isCrosser", desc := "(I)Z" } : MethodName)) ∈ kG := gwi 1006 (by decide +kernel) rfl
theorem gw1007 : (Cond.code ({ cls := "RopeBorderModel", name := "isCrosser", desc := "(I)Z" } : MethodName) prog_11_method_12_code (2 : Nat) (some FieldType.boolean)) ∈ kG := gwi 1007 (by decide +kernel) rfl
theorem gw1008 : (Cond.methodLink "RopeBorderModel" (70 : Nat) ({ cls := "RopeBorderModel", name := "needs", desc := "(I)I" } : MethodName)) ∈ kG := gwi 1008 (by decide +kernel) rfl
theorem gw1010 : (Cond.instanceMethod ({ cls := "RopeBorderModel", name := "needs", desc := "(I)I" } : MethodName)) ∈ kG := gwi 1010 (by decide +kernel) rfl
theorem gw1011 : (Cond.code ({ cls := "RopeBorderModel", name := "needs", desc := "(I)I" } : MethodName) prog_11_method_44_code (5 : Nat) (some FieldType.int)) ∈ kG := gwi 1011 (by decide +kernel) rfl
theorem gw1012 : (Cond.methodLink "RopeBorderModel" (80 : Nat) ({ cls := "RopeBorderModel", name := "its", desc := "(II)I" } : MethodName)) ∈ kG := gwi 1012 (by decide +kernel) rfl
theorem gw1014 : (Cond.instanceMethod ({ cls := "RopeBorderModel", name := "its", desc := "(II)I" } : MethodName)) ∈ kG := gwi 1014 (by decide +kernel) rfl
theorem gw1015 : (Cond.code ({ cls := "RopeBorderModel", name := "its", desc := "(II)I" } : MethodName) prog_11_method_8_code (3 : Nat) (some FieldType.int)) ∈ kG := gwi 1015 (by decide +kernel) rfl
theorem gw1016 : (Cond.methodLink "RopeBorderModel" (158 : Nat) ({ cls := "RopeBorderModel", name := "lawOf", desc := "(IIII)I" } : MethodName)) ∈ kG := gwi 1016 (by decide +kernel) rfl
theorem gw1018 : (Cond.instanceMethod ({ cls := "RopeBorderModel", name := "lawOf", desc := "(IIII)I" } : MethodName)) ∈ kG := gwi 1018 (by decide +kernel) rfl
theorem gw1019 : (Cond.code ({ cls := "RopeBorderModel", name := "lawOf", desc := "(IIII)I" } : MethodName) prog_11_method_40_code (7 : Nat) (some FieldType.int)) ∈ kG := gwi 1019 (by decide +kernel) rfl
theorem gw1020 : (Cond.methodLink "RopeBorderModel" (150 : Nat) ({ cls := "RopeBorderModel", name := "walks", desc := "(IIII)I" } : MethodName)) ∈ kG := gwi 1020 (by decide +kernel) rfl
theorem gw1022 : (Cond.instanceMethod ({ cls := "RopeBorderModel", name := "walks", desc := "(IIII)I" } : MethodName)) ∈ kG := gwi 1022 (by decide +kernel) rfl
theorem gw1023 : (Cond.code ({ cls := "RopeBorderModel", name := "walks", desc := "(IIII)I" } : MethodName) prog_11_method_39_code (6 : Nat) (some FieldType.int)) ∈ kG := gwi 1023 (by decide +kernel) rfl
theorem gw1024 : (Cond.methodLink "RopeBorderModel" (135 : Nat) ({ cls := "RopeBorderModel", name := "whole", desc := "()I" } : MethodName)) ∈ kG := gwi 1024 (by decide +kernel) rfl
theorem gw1026 : (Cond.instanceMethod ({ cls := "RopeBorderModel", name := "whole", desc := "()I" } : MethodName)) ∈ kG := gwi 1026 (by decide +kernel) rfl
theorem gw1027 : (Cond.code ({ cls := "RopeBorderModel", name := "whole", desc := "()I" } : MethodName) prog_11_method_38_code (3 : Nat) (some FieldType.int)) ∈ kG := gwi 1027 (by decide +kernel) rfl
theorem gw1028 : (Cond.methodLink "RopeBorderModel" (147 : Nat) ({ cls := "RopeBorderModel", name := "both", desc := "()I" } : MethodName)) ∈ kG := gwi 1028 (by decide +kernel) rfl
theorem gw1030 : (Cond.instanceMethod ({ cls := "RopeBorderModel", name := "both", desc := "()I" } : MethodName)) ∈ kG := gwi 1030 (by decide +kernel) rfl
theorem gw1031 : (Cond.code ({ cls := "RopeBorderModel", name := "both", desc := "()I" } : MethodName) prog_11_method_37_code (3 : Nat) (some FieldType.int)) ∈ kG := gwi 1031 (by decide +kernel) rfl
theorem gw1032 : (Cond.methodLink "RopeBorderModel" (144 : Nat) ({ cls := "RopeBorderModel", name := "compared", desc := "()I" } : MethodName)) ∈ kG := gwi 1032 (by decide +kernel) rfl
theorem gw1034 : (Cond.instanceMethod ({ cls := "RopeBorderModel", name := "compared", desc := "()I" } : MethodName)) ∈ kG := gwi 1034 (by decide +kernel) rfl
theorem gw1035 : (Cond.code ({ cls := "RopeBorderModel", name := "compared", desc := "()I" } : MethodName) prog_11_method_36_code (5 : Nat) (some FieldType.int)) ∈ kG := gwi 1035 (by decide +kernel) rfl
theorem gw1036 : (Cond.methodLink "RopeBorderModel" (141 : Nat) ({ cls := "RopeBorderModel", name := "sum", desc := "()I" } : MethodName)) ∈ kG := gwi 1036 (by decide +kernel) rfl
theorem gw1038 : (Cond.instanceMethod ({ cls := "RopeBorderModel", name := "sum", desc := "()I" } : MethodName)) ∈ kG := gwi 1038 (by decide +kernel) rfl
theorem gw1039 : (Cond.code ({ cls := "RopeBorderModel", name := "sum", desc := "()I" } : MethodName) prog_11_method_35_code (4 : Nat) (some FieldType.int)) ∈ kG := gwi 1039 (by decide +kernel) rfl
theorem gw1040 : (Cond.methodLink "RopeBorderModel" (138 : Nat) ({ cls := "RopeBorderModel", name := "product", desc := "()I" } : MethodName)) ∈ kG := gwi 1040 (by decide +kernel) rfl
theorem gw1042 : (Cond.instanceMethod ({ cls := "RopeBorderModel", name := "product", desc := "()I" } : MethodName)) ∈ kG := gwi 1042 (by decide +kernel) rfl
theorem gw1043 : (Cond.code ({ cls := "RopeBorderModel", name := "product", desc := "()I" } : MethodName) prog_11_method_34_code (4 : Nat) (some FieldType.int)) ∈ kG := gwi 1043 (by decide +kernel) rfl
theorem gw1044 : (Cond.methodLink "RopeBorderModel" (132 : Nat) ({ cls := "RopeBorderModel", name := "factor", desc := "()I" } : MethodName)) ∈ kG := gwi 1044 (by decide +kernel) rfl
theorem gw1046 : (Cond.instanceMethod ({ cls := "RopeBorderModel", name := "factor", desc := "()I" } : MethodName)) ∈ kG := gwi 1046 (by decide +kernel) rfl
theorem gw1047 : (Cond.code ({ cls := "RopeBorderModel", name := "factor", desc := "()I" } : MethodName) prog_11_method_33_code (3 : Nat) (some FieldType.int)) ∈ kG := gwi 1047 (by decide +kernel) rfl
theorem gw1048 : (Cond.methodLink "RopeBorderModel" (104 : Nat) ({ cls := "RopeBorderModel", name := "byteAt", desc := "(I)I" } : MethodName)) ∈ kG := gwi 1048 (by decide +kernel) rfl
theorem gw1050 : (Cond.instanceMethod ({ cls := "RopeBorderModel", name := "byteAt", desc := "(I)I" } : MethodName)) ∈ kG := gwi 1050 (by decide +kernel) rfl
theorem gw1051 : (Cond.code ({ cls := "RopeBorderModel", name := "byteAt", desc := "(I)I" } : MethodName) prog_11_method_28_code (2 : Nat) (some FieldType.int)) ∈ kG := gwi 1051 (by decide +kernel) rfl
theorem gw1052 : (Cond.methodLink "RopeBorderModel" (107 : Nat) ({ cls := "RopeBorderModel", name := "isDigit", desc := "(I)Z" } : MethodName)) ∈ kG := gwi 1052 (by decide +kernel) rfl
theorem gw1053 : (Cond.static ({ cls := "RopeBorderModel", name := "isDigit", desc := "(I)Z" } : MethodName)) ∈ kG := gwi 1053 (by decide +kernel) rfl
theorem gw1054 : (Cond.code ({ cls := "RopeBorderModel", name := "isDigit", desc := "(I)Z" } : MethodName) prog_11_method_29_code (1 : Nat) (some FieldType.boolean)) ∈ kG := gwi 1054 (by decide +kernel) rfl
theorem gw1055 : (Cond.methodLink "RopeBorderModel" (123 : Nat) ({ cls := "RopeBorderModel", name := "number", desc := "()I" } : MethodName)) ∈ kG := gwi 1055 (by decide +kernel) rfl
theorem gw1057 : (Cond.instanceMethod ({ cls := "RopeBorderModel", name := "number", desc := "()I" } : MethodName)) ∈ kG := gwi 1057 (by decide +kernel) rfl
theorem gw1058 : (Cond.code ({ cls := "RopeBorderModel", name := "number", desc := "()I" } : MethodName) prog_11_method_31_code (3 : Nat) (some FieldType.int)) ∈ kG := gwi 1058 (by decide +kernel) rfl
theorem gw1059 : (Cond.methodLink "RopeBorderModel" (126 : Nat) ({ cls := "RopeBorderModel", name := "named", desc := "(I)I" } : MethodName)) ∈ kG := gwi 1059 (by decide +kernel) rfl
theorem gw1061 : (Cond.instanceMethod ({ cls := "RopeBorderModel", name := "named", desc := "(I)I" } : MethodName)) ∈ kG := gwi 1061 (by decide +kernel) rfl
theorem gw1062 : (Cond.code ({ cls := "RopeBorderModel", name := "named", desc := "(I)I" } : MethodName) prog_11_method_32_code (5 : Nat) (some FieldType.int)) ∈ kG := gwi 1062 (by decide +kernel) rfl
theorem gw1063 : (Cond.methodLink "RopeBorderModel" (110 : Nat) ({ cls := "RopeBorderModel", name := "fails", desc := "()I" } : MethodName)) ∈ kG := gwi 1063 (by decide +kernel) rfl
theorem gw1065 : (Cond.instanceMethod ({ cls := "RopeBorderModel", name := "fails", desc := "()I" } : MethodName)) ∈ kG := gwi 1065 (by decide +kernel) rfl
theorem gw1066 : (Cond.code ({ cls := "RopeBorderModel", name := "fails", desc := "()I" } : MethodName) prog_11_method_30_code (1 : Nat) (some FieldType.int)) ∈ kG := gwi 1066 (by decide +kernel) rfl
theorem gw1067 : (Cond.methodLink "RopeBorderModel" (154 : Nat) ({ cls := "RopeBorderModel", name := "held", desc := "(III)I" } : MethodName)) ∈ kG := gwi 1067 (by decide +kernel) rfl
theorem gw1068 : (Cond.static ({ cls := "RopeBorderModel", name := "held", desc := "(III)I" } : MethodName)) ∈ kG := gwi 1068 (by decide +kernel) rfl
theorem gw1069 : (Cond.code ({ cls := "RopeBorderModel", name := "held", desc := "(III)I" } : MethodName) prog_11_method_4_code (3 : Nat) (some FieldType.int)) ∈ kG := gwi 1069 (by decide +kernel) rfl
theorem gw1070 : (Cond.methodLink "RopeBorderModel" (73 : Nat) ({ cls := "RopeBorderModel", name := "wears", desc := "(I)I" } : MethodName)) ∈ kG := gwi 1070 (by decide +kernel) rfl
theorem gw1072 : (Cond.instanceMethod ({ cls := "RopeBorderModel", name := "wears", desc := "(I)I" } : MethodName)) ∈ kG := gwi 1072 (by decide +kernel) rfl
theorem gw1073 : (Cond.code ({ cls := "RopeBorderModel", name := "wears", desc := "(I)I" } : MethodName) prog_11_method_45_code (2 : Nat) (some FieldType.int)) ∈ kG := gwi 1073 (by decide +kernel) rfl
theorem gw1074 : (Cond.methodLink "RopeBorderModel" (76 : Nat) ({ cls := "RopeBorderModel", name := "has", desc := "(II)Z" } : MethodName)) ∈ kG := gwi 1074 (by decide +kernel) rfl
theorem gw1075 : (Cond.static ({ cls := "RopeBorderModel", name := "has", desc := "(II)Z" } : MethodName)) ∈ kG := gwi 1075 (by decide +kernel) rfl
theorem gw1076 : (Cond.code ({ cls := "RopeBorderModel", name := "has", desc := "(II)Z" } : MethodName) prog_11_method_7_code (2 : Nat) (some FieldType.boolean)) ∈ kG := gwi 1076 (by decide +kernel) rfl
theorem gw1077 : (Cond.methodLink "RopeBorderLaw" (47 : Nat) ({ cls := "RopeBorderModel", name := "change", desc := "(III)I" } : MethodName)) ∈ kG := gwi 1077 (by decide +kernel) rfl
theorem gw1078 : (Cond.instanceMethod ({ cls := "RopeBorderModel", name := "change", desc := "(III)I" } : MethodName)) ∈ kG := gwi 1078 (by decide +kernel) rfl
theorem gw1079 : (Cond.selects "RopeBorderModel" ({ cls := "RopeBorderModel", name := "change", desc := "(III)I" } : MethodName) ({ cls := "RopeBorderModel", name := "change", desc := "(III)I" } : MethodName)) ∈ kG := gwi 1079 (by decide +kernel) rfl
theorem gw1080 : (Cond.code ({ cls := "RopeBorderModel", name := "change", desc := "(III)I" } : MethodName) prog_11_method_22_code (5 : Nat) (some FieldType.int)) ∈ kG := gwi 1080 (by decide +kernel) rfl
theorem gw1081 : (Cond.methodLink "RopeBorderLaw" (51 : Nat) ({ cls := "RopeBorderModel", name := "become", desc := "(II)I" } : MethodName)) ∈ kG := gwi 1081 (by decide +kernel) rfl
theorem gw1082 : (Cond.instanceMethod ({ cls := "RopeBorderModel", name := "become", desc := "(II)I" } : MethodName)) ∈ kG := gwi 1082 (by decide +kernel) rfl
theorem gw1083 : (Cond.selects "RopeBorderModel" ({ cls := "RopeBorderModel", name := "become", desc := "(II)I" } : MethodName) ({ cls := "RopeBorderModel", name := "become", desc := "(II)I" } : MethodName)) ∈ kG := gwi 1083 (by decide +kernel) rfl
theorem gw1084 : (Cond.code ({ cls := "RopeBorderModel", name := "become", desc := "(II)I" } : MethodName) prog_11_method_23_code (3 : Nat) (some FieldType.int)) ∈ kG := gwi 1084 (by decide +kernel) rfl
theorem gw1085 : (Cond.methodLink "RopeBorderLaw" (55 : Nat) ({ cls := "RopeBorderModel", name := "as", desc := "(II)I" } : MethodName)) ∈ kG := gwi 1085 (by decide +kernel) rfl
theorem gw1086 : (Cond.instanceMethod ({ cls := "RopeBorderModel", name := "as", desc := "(II)I" } : MethodName)) ∈ kG := gwi 1086 (by decide +kernel) rfl
theorem gw1087 : (Cond.selects "RopeBorderModel" ({ cls := "RopeBorderModel", name := "as", desc := "(II)I" } : MethodName) ({ cls := "RopeBorderModel", name := "as", desc := "(II)I" } : MethodName)) ∈ kG := gwi 1087 (by decide +kernel) rfl
theorem gw1088 : (Cond.code ({ cls := "RopeBorderModel", name := "as", desc := "(II)I" } : MethodName) prog_11_method_25_code (4 : Nat) (some FieldType.int)) ∈ kG := gwi 1088 (by decide +kernel) rfl
theorem gw1089 : (Cond.methodLink "RopeBorderModel" (83 : Nat) ({ cls := "RopeBorderModel", name := "above", desc := "(I)I" } : MethodName)) ∈ kG := gwi 1089 (by decide +kernel) rfl
theorem gw1090 : (Cond.static ({ cls := "RopeBorderModel", name := "above", desc := "(I)I" } : MethodName)) ∈ kG := gwi 1090 (by decide +kernel) rfl
theorem gw1091 : (Cond.code ({ cls := "RopeBorderModel", name := "above", desc := "(I)I" } : MethodName) prog_11_method_24_code (1 : Nat) (some FieldType.int)) ∈ kG := gwi 1091 (by decide +kernel) rfl
theorem gw1092 : (Cond.constant "RopeBorderModel" (86 : Nat) (-1000000005 : Int32)) ∈ kG := gwi 1092 (by decide +kernel) rfl
theorem gw1093 : (Cond.methodLink "RopeBorderLaw" (59 : Nat) ({ cls := "RopeBorderModel", name := "go", desc := "(I)I" } : MethodName)) ∈ kG := gwi 1093 (by decide +kernel) rfl
theorem gw1094 : (Cond.instanceMethod ({ cls := "RopeBorderModel", name := "go", desc := "(I)I" } : MethodName)) ∈ kG := gwi 1094 (by decide +kernel) rfl
theorem gw1095 : (Cond.selects "RopeBorderModel" ({ cls := "RopeBorderModel", name := "go", desc := "(I)I" } : MethodName) ({ cls := "RopeBorderModel", name := "go", desc := "(I)I" } : MethodName)) ∈ kG := gwi 1095 (by decide +kernel) rfl
theorem gw1096 : (Cond.code ({ cls := "RopeBorderModel", name := "go", desc := "(I)I" } : MethodName) prog_11_method_26_code (2 : Nat) (some FieldType.int)) ∈ kG := gwi 1096 (by decide +kernel) rfl
theorem gw1097 : (Cond.methodLink "RopeBorderModel" (87 : Nat) ({ cls := "RopeBorderModel", name := "isSet", desc := "(I)Z" } : MethodName)) ∈ kG := gwi 1097 (by decide +kernel) rfl
theorem gw1099 : (Cond.instanceMethod ({ cls := "RopeBorderModel", name := "isSet", desc := "(I)Z" } : MethodName)) ∈ kG := gwi 1099 (by decide +kernel) rfl
theorem gw1100 : (Cond.code ({ cls := "RopeBorderModel", name := "isSet", desc := "(I)Z" } : MethodName) prog_11_method_13_code (2 : Nat) (some FieldType.boolean)) ∈ kG := gwi 1100 (by decide +kernel) rfl
theorem gw1101 : (Cond.methodLink "RopeBorderLaw" (63 : Nat) ({ cls := "RopeBorderModel", name := "splice", desc := "(II)I" } : MethodName)) ∈ kG := gwi 1101 (by decide +kernel) rfl
theorem gw1102 : (Cond.instanceMethod ({ cls := "RopeBorderModel", name := "splice", desc := "(II)I" } : MethodName)) ∈ kG := gwi 1102 (by decide +kernel) rfl
theorem gw1103 : (Cond.selects "RopeBorderModel" ({ cls := "RopeBorderModel", name := "splice", desc := "(II)I" } : MethodName) ({ cls := "RopeBorderModel", name := "splice", desc := "(II)I" } : MethodName)) ∈ kG := gwi 1103 (by decide +kernel) rfl
theorem gw1104 : (Cond.code ({ cls := "RopeBorderModel", name := "splice", desc := "(II)I" } : MethodName) prog_11_method_27_code (3 : Nat) (some FieldType.int)) ∈ kG := gwi 1104 (by decide +kernel) rfl
theorem gw1105 : (Cond.methodLink "RopeBorderLaw" (79 : Nat) ({ cls := "RopeBorderModel", name := "law", desc := "(IIII)I" } : MethodName)) ∈ kG := gwi 1105 (by decide +kernel) rfl
theorem gw1106 : (Cond.instanceMethod ({ cls := "RopeBorderModel", name := "law", desc := "(IIII)I" } : MethodName)) ∈ kG := gwi 1106 (by decide +kernel) rfl
theorem gw1107 : (Cond.selects "RopeBorderModel" ({ cls := "RopeBorderModel", name := "law", desc := "(IIII)I" } : MethodName) ({ cls := "RopeBorderModel", name := "law", desc := "(IIII)I" } : MethodName)) ∈ kG := gwi 1107 (by decide +kernel) rfl
theorem gw1108 : (Cond.code ({ cls := "RopeBorderModel", name := "law", desc := "(IIII)I" } : MethodName) prog_11_method_41_code (5 : Nat) (some FieldType.int)) ∈ kG := gwi 1108 (by decide +kernel) rfl
theorem gw1109 : (Cond.methodLink "RopeBorderLaw" (70 : Nat) ({ cls := "RopeBorderModel", name := "feed", desc := "(JI)I" } : MethodName)) ∈ kG := gwi 1109 (by decide +kernel) rfl
theorem gw1110 : (Cond.instanceMethod ({ cls := "RopeBorderModel", name := "feed", desc := "(JI)I" } : MethodName)) ∈ kG := gwi 1110 (by decide +kernel) rfl
theorem gw1111 : (Cond.selects "RopeBorderModel" ({ cls := "RopeBorderModel", name := "feed", desc := "(JI)I" } : MethodName) ({ cls := "RopeBorderModel", name := "feed", desc := "(JI)I" } : MethodName)) ∈ kG := gwi 1111 (by decide +kernel) rfl
theorem gw1112 : (Cond.code ({ cls := "RopeBorderModel", name := "feed", desc := "(JI)I" } : MethodName) prog_11_method_42_code (5 : Nat) (some FieldType.int)) ∈ kG := gwi 1112 (by decide +kernel) rfl
theorem gw1114 : (Cond.methodLink "RopeBorderLaw" (74 : Nat) ({ cls := "RopeBorderModel", name := "text", desc := "(I)I" } : MethodName)) ∈ kG := gwi 1114 (by decide +kernel) rfl
theorem gw1115 : (Cond.instanceMethod ({ cls := "RopeBorderModel", name := "text", desc := "(I)I" } : MethodName)) ∈ kG := gwi 1115 (by decide +kernel) rfl
theorem gw1116 : (Cond.selects "RopeBorderModel" ({ cls := "RopeBorderModel", name := "text", desc := "(I)I" } : MethodName) ({ cls := "RopeBorderModel", name := "text", desc := "(I)I" } : MethodName)) ∈ kG := gwi 1116 (by decide +kernel) rfl
theorem gw1117 : (Cond.code ({ cls := "RopeBorderModel", name := "text", desc := "(I)I" } : MethodName) prog_11_method_43_code (5 : Nat) (some FieldType.int)) ∈ kG := gwi 1117 (by decide +kernel) rfl
theorem gw1118 : (Cond.methodLink "RopeBorderModel" (163 : Nat) ({ cls := "RopeBorderModel", name := "moveAll", desc := "([I[I)V" } : MethodName)) ∈ kG := gwi 1118 (by decide +kernel) rfl
theorem gw1120 : (Cond.instanceMethod ({ cls := "RopeBorderModel", name := "moveAll", desc := "([I[I)V" } : MethodName)) ∈ kG := gwi 1120 (by decide +kernel) rfl
theorem gw1121 : (Cond.code ({ cls := "RopeBorderModel", name := "moveAll", desc := "([I[I)V" } : MethodName) prog_11_method_5_code (4 : Nat) (none : Option FieldType)) ∈ kG := gwi 1121 (by decide +kernel) rfl
theorem gw1122 : (Cond.methodLink "RopeBorderLaw" (83 : Nat) ({ cls := "RopeBorderModel", name := "beats", desc := "(I)I" } : MethodName)) ∈ kG := gwi 1122 (by decide +kernel) rfl
theorem gw1123 : (Cond.instanceMethod ({ cls := "RopeBorderModel", name := "beats", desc := "(I)I" } : MethodName)) ∈ kG := gwi 1123 (by decide +kernel) rfl
theorem gw1124 : (Cond.selects "RopeBorderModel" ({ cls := "RopeBorderModel", name := "beats", desc := "(I)I" } : MethodName) ({ cls := "RopeBorderModel", name := "beats", desc := "(I)I" } : MethodName)) ∈ kG := gwi 1124 (by decide +kernel) rfl
theorem gw1125 : (Cond.code ({ cls := "RopeBorderModel", name := "beats", desc := "(I)I" } : MethodName) prog_11_method_53_code (2 : Nat) (some FieldType.int)) ∈ kG := gwi 1125 (by decide +kernel) rfl
theorem gw1126 : (Cond.constant "RopeBorderModel" (185 : Nat) (99999 : Int32)) ∈ kG := gwi 1126 (by decide +kernel) rfl
theorem gw1127 : (Cond.methodLink "RopeBorderModel" (186 : Nat) ({ cls := "RopeBorderModel", name := "passes", desc := "(I)V" } : MethodName)) ∈ kG := gwi 1127 (by decide +kernel) rfl
theorem gw1129 : (Cond.instanceMethod ({ cls := "RopeBorderModel", name := "passes", desc := "(I)V" } : MethodName)) ∈ kG := gwi 1129 (by decide +kernel) rfl
theorem gw1130 : (Cond.code ({ cls := "RopeBorderModel", name := "passes", desc := "(I)V" } : MethodName) prog_11_method_51_code (3 : Nat) (none : Option FieldType)) ∈ kG := gwi 1130 (by decide +kernel) rfl
theorem gw1131 : (Cond.methodLink "RopeBorderModel" (182 : Nat) ({ cls := "RopeBorderModel", name := "oneBeat", desc := "()V" } : MethodName)) ∈ kG := gwi 1131 (by decide +kernel) rfl
theorem gw1133 : (Cond.instanceMethod ({ cls := "RopeBorderModel", name := "oneBeat", desc := "()V" } : MethodName)) ∈ kG := gwi 1133 (by decide +kernel) rfl
theorem gw1134 : (Cond.code ({ cls := "RopeBorderModel", name := "oneBeat", desc := "()V" } : MethodName) prog_11_method_50_code (4 : Nat) (none : Option FieldType)) ∈ kG := gwi 1134 (by decide +kernel) rfl
theorem gw1135 : (Cond.methodLink "RopeBorderModel" (174 : Nat) ({ cls := "RopeBorderModel", name := "isStanding", desc := "()Z" } : MethodName)) ∈ kG := gwi 1135 (by decide +kernel) rfl
theorem gw1137 : (Cond.instanceMethod ({ cls := "RopeBorderModel", name := "isStanding", desc := "()Z" } : MethodName)) ∈ kG := gwi 1137 (by decide +kernel) rfl
theorem gw1138 : (Cond.code ({ cls := "RopeBorderModel", name := "isStanding", desc := "()Z" } : MethodName) prog_11_method_46_code (2 : Nat) (some FieldType.boolean)) ∈ kG := gwi 1138 (by decide +kernel) rfl
theorem gw1139 : (Cond.methodLink "RopeBorderModel" (178 : Nat) ({ cls := "RopeBorderModel", name := "moves", desc := "(I)V" } : MethodName)) ∈ kG := gwi 1139 (by decide +kernel) rfl
theorem gw1141 : (Cond.instanceMethod ({ cls := "RopeBorderModel", name := "moves", desc := "(I)V" } : MethodName)) ∈ kG := gwi 1141 (by decide +kernel) rfl
theorem gw1142 : (Cond.code ({ cls := "RopeBorderModel", name := "moves", desc := "(I)V" } : MethodName) prog_11_method_49_code (4 : Nat) (none : Option FieldType)) ∈ kG := gwi 1142 (by decide +kernel) rfl
theorem gw1143 : (Cond.methodLink "RopeBorderModel" (167 : Nat) ({ cls := "RopeBorderModel", name := "jumpsOrNot", desc := "(II)V" } : MethodName)) ∈ kG := gwi 1143 (by decide +kernel) rfl
theorem gw1145 : (Cond.instanceMethod ({ cls := "RopeBorderModel", name := "jumpsOrNot", desc := "(II)V" } : MethodName)) ∈ kG := gwi 1145 (by decide +kernel) rfl
theorem gw1146 : (Cond.code ({ cls := "RopeBorderModel", name := "jumpsOrNot", desc := "(II)V" } : MethodName) prog_11_method_48_code (4 : Nat) (none : Option FieldType)) ∈ kG := gwi 1146 (by decide +kernel) rfl
theorem gw1147 : (Cond.methodLink "RopeBorderModel" (171 : Nat) ({ cls := "RopeBorderModel", name := "isFree", desc := "(I)Z" } : MethodName)) ∈ kG := gwi 1147 (by decide +kernel) rfl
theorem gw1149 : (Cond.instanceMethod ({ cls := "RopeBorderModel", name := "isFree", desc := "(I)Z" } : MethodName)) ∈ kG := gwi 1149 (by decide +kernel) rfl
theorem gw1150 : (Cond.code ({ cls := "RopeBorderModel", name := "isFree", desc := "(I)Z" } : MethodName) prog_11_method_47_code (4 : Nat) (some FieldType.boolean)) ∈ kG := gwi 1150 (by decide +kernel) rfl
theorem gw1151 : (Cond.methodLink "RopeBorderModel" (189 : Nat) ({ cls := "RopeBorderModel", name := "setOf", desc := "(I)I" } : MethodName)) ∈ kG := gwi 1151 (by decide +kernel) rfl
theorem gw1153 : (Cond.instanceMethod ({ cls := "RopeBorderModel", name := "setOf", desc := "(I)I" } : MethodName)) ∈ kG := gwi 1153 (by decide +kernel) rfl
theorem gw1154 : (Cond.code ({ cls := "RopeBorderModel", name := "setOf", desc := "(I)I" } : MethodName) prog_11_method_52_code (4 : Nat) (some FieldType.int)) ∈ kG := gwi 1154 (by decide +kernel) rfl
theorem gw1155 : (Cond.methodLink "RopeBorderModel" (192 : Nat) ({ cls := "RopeBorderModel", name := "bits", desc := "(I)I" } : MethodName)) ∈ kG := gwi 1155 (by decide +kernel) rfl
theorem gw1156 : (Cond.static ({ cls := "RopeBorderModel", name := "bits", desc := "(I)I" } : MethodName)) ∈ kG := gwi 1156 (by decide +kernel) rfl
theorem gw1157 : (Cond.code ({ cls := "RopeBorderModel", name := "bits", desc := "(I)I" } : MethodName) prog_11_method_6_code (3 : Nat) (some FieldType.int)) ∈ kG := gwi 1157 (by decide +kernel) rfl
theorem gw1158 : (Cond.methodLink "RopeBorderLaw" (87 : Nat) ({ cls := "RopeBorderModel", name := "loose", desc := "(I)I" } : MethodName)) ∈ kG := gwi 1158 (by decide +kernel) rfl
theorem gw1159 : (Cond.instanceMethod ({ cls := "RopeBorderModel", name := "loose", desc := "(I)I" } : MethodName)) ∈ kG := gwi 1159 (by decide +kernel) rfl
theorem gw1160 : (Cond.selects "RopeBorderModel" ({ cls := "RopeBorderModel", name := "loose", desc := "(I)I" } : MethodName) ({ cls := "RopeBorderModel", name := "loose", desc := "(I)I" } : MethodName)) ∈ kG := gwi 1160 (by decide +kernel) rfl
theorem gw1161 : (Cond.code ({ cls := "RopeBorderModel", name := "loose", desc := "(I)I" } : MethodName) prog_11_method_55_code (3 : Nat) (some FieldType.int)) ∈ kG := gwi 1161 (by decide +kernel) rfl
theorem gw1162 : (Cond.methodLink "RopeBorderModel" (196 : Nat) ({ cls := "RopeBorderModel", name := "drawn", desc := "()I" } : MethodName)) ∈ kG := gwi 1162 (by decide +kernel) rfl
theorem gw1164 : (Cond.instanceMethod ({ cls := "RopeBorderModel", name := "drawn", desc := "()I" } : MethodName)) ∈ kG := gwi 1164 (by decide +kernel) rfl
theorem gw1165 : (Cond.code ({ cls := "RopeBorderModel", name := "drawn", desc := "()I" } : MethodName) prog_11_method_54_code (1 : Nat) (some FieldType.int)) ∈ kG := gwi 1165 (by decide +kernel) rfl
theorem gw1166 : (Cond.constant "RopeBorderModel" (195 : Nat) (1103515245 : Int32)) ∈ kG := gwi 1166 (by decide +kernel) rfl
theorem gw1167 : (Cond.methodLink "RopeBorderLaw" (91 : Nat) ({ cls := "RopeBorderModel", name := "wear", desc := "(I)I" } : MethodName)) ∈ kG := gwi 1167 (by decide +kernel) rfl
theorem gw1168 : (Cond.instanceMethod ({ cls := "RopeBorderModel", name := "wear", desc := "(I)I" } : MethodName)) ∈ kG := gwi 1168 (by decide +kernel) rfl
theorem gw1169 : (Cond.selects "RopeBorderModel" ({ cls := "RopeBorderModel", name := "wear", desc := "(I)I" } : MethodName) ({ cls := "RopeBorderModel", name := "wear", desc := "(I)I" } : MethodName)) ∈ kG := gwi 1169 (by decide +kernel) rfl
theorem gw1170 : (Cond.code ({ cls := "RopeBorderModel", name := "wear", desc := "(I)I" } : MethodName) prog_11_method_56_code (2 : Nat) (some FieldType.int)) ∈ kG := gwi 1170 (by decide +kernel) rfl
theorem gw1171 : (Cond.methodLink "RopeBorderLaw" (95 : Nat) ({ cls := "RopeBorderModel", name := "then", desc := "(III)I" } : MethodName)) ∈ kG := gwi 1171 (by decide +kernel) rfl
theorem gw1172 : (Cond.instanceMethod ({ cls := "RopeBorderModel", name := "then", desc := "(III)I" } : MethodName)) ∈ kG := gwi 1172 (by decide +kernel) rfl
theorem gw1173 : (Cond.selects "RopeBorderModel" ({ cls := "RopeBorderModel", name := "then", desc := "(III)I" } : MethodName) ({ cls := "RopeBorderModel", name := "then", desc := "(III)I" } : MethodName)) ∈ kG := gwi 1173 (by decide +kernel) rfl
theorem gw1174 : (Cond.code ({ cls := "RopeBorderModel", name := "then", desc := "(III)I" } : MethodName) prog_11_method_57_code (5 : Nat) (some FieldType.int)) ∈ kG := gwi 1174 (by decide +kernel) rfl
theorem gw1175 : (Cond.methodLink "RopeBorderLaw" (99 : Nat) ({ cls := "RopeBorderModel", name := "over", desc := "(I)I" } : MethodName)) ∈ kG := gwi 1175 (by decide +kernel) rfl
theorem gw1176 : (Cond.instanceMethod ({ cls := "RopeBorderModel", name := "over", desc := "(I)I" } : MethodName)) ∈ kG := gwi 1176 (by decide +kernel) rfl
theorem gw1177 : (Cond.selects "RopeBorderModel" ({ cls := "RopeBorderModel", name := "over", desc := "(I)I" } : MethodName) ({ cls := "RopeBorderModel", name := "over", desc := "(I)I" } : MethodName)) ∈ kG := gwi 1177 (by decide +kernel) rfl
theorem gw1178 : (Cond.code ({ cls := "RopeBorderModel", name := "over", desc := "(I)I" } : MethodName) prog_11_method_58_code (3 : Nat) (some FieldType.int)) ∈ kG := gwi 1178 (by decide +kernel) rfl
theorem gw1179 : (Cond.constant "RopeBorderModel" (199 : Nat) (-1000000002 : Int32)) ∈ kG := gwi 1179 (by decide +kernel) rfl
theorem gw1180 : (Cond.methodLink "RopeBorderLaw" (103 : Nat) ({ cls := "RopeBorderModel", name := "begin", desc := "(I)I" } : MethodName)) ∈ kG := gwi 1180 (by decide +kernel) rfl
theorem gw1181 : (Cond.instanceMethod ({ cls := "RopeBorderModel", name := "begin", desc := "(I)I" } : MethodName)) ∈ kG := gwi 1181 (by decide +kernel) rfl
theorem gw1182 : (Cond.selects "RopeBorderModel" ({ cls := "RopeBorderModel", name := "begin", desc := "(I)I" } : MethodName) ({ cls := "RopeBorderModel", name := "begin", desc := "(I)I" } : MethodName)) ∈ kG := gwi 1182 (by decide +kernel) rfl
theorem gw1183 : (Cond.code ({ cls := "RopeBorderModel", name := "begin", desc := "(I)I" } : MethodName) prog_11_method_59_code (4 : Nat) (some FieldType.int)) ∈ kG := gwi 1183 (by decide +kernel) rfl
theorem gw1184 : (Cond.methodLink "RopeBorderLaw" (107 : Nat) ({ cls := "RopeBorderModel", name := "rhymes", desc := "(IIII)I" } : MethodName)) ∈ kG := gwi 1184 (by decide +kernel) rfl
theorem gw1185 : (Cond.instanceMethod ({ cls := "RopeBorderModel", name := "rhymes", desc := "(IIII)I" } : MethodName)) ∈ kG := gwi 1185 (by decide +kernel) rfl
theorem gw1186 : (Cond.selects "RopeBorderModel" ({ cls := "RopeBorderModel", name := "rhymes", desc := "(IIII)I" } : MethodName) ({ cls := "RopeBorderModel", name := "rhymes", desc := "(IIII)I" } : MethodName)) ∈ kG := gwi 1186 (by decide +kernel) rfl
theorem gw1187 : (Cond.code ({ cls := "RopeBorderModel", name := "rhymes", desc := "(IIII)I" } : MethodName) prog_11_method_61_code (10 : Nat) (some FieldType.int)) ∈ kG := gwi 1187 (by decide +kernel) rfl
theorem gw1188 : (Cond.methodLink "RopeBorderModel" (200 : Nat) ({ cls := "RopeBorderModel", name := "northOf", desc := "(II)I" } : MethodName)) ∈ kG := gwi 1188 (by decide +kernel) rfl
theorem gw1190 : (Cond.instanceMethod ({ cls := "RopeBorderModel", name := "northOf", desc := "(II)I" } : MethodName)) ∈ kG := gwi 1190 (by decide +kernel) rfl
theorem gw1191 : (Cond.code ({ cls := "RopeBorderModel", name := "northOf", desc := "(II)I" } : MethodName) prog_11_method_60_code (4 : Nat) (some FieldType.int)) ∈ kG := gwi 1191 (by decide +kernel) rfl
theorem gw1192 : (Cond.methodLink "RopeBorderLaw" (111 : Nat) ({ cls := "RopeBorderModel", name := "most", desc := "(I)I" } : MethodName)) ∈ kG := gwi 1192 (by decide +kernel) rfl
theorem gw1193 : (Cond.instanceMethod ({ cls := "RopeBorderModel", name := "most", desc := "(I)I" } : MethodName)) ∈ kG := gwi 1193 (by decide +kernel) rfl
theorem gw1194 : (Cond.selects "RopeBorderModel" ({ cls := "RopeBorderModel", name := "most", desc := "(I)I" } : MethodName) ({ cls := "RopeBorderModel", name := "most", desc := "(I)I" } : MethodName)) ∈ kG := gwi 1194 (by decide +kernel) rfl
theorem gw1195 : (Cond.code ({ cls := "RopeBorderModel", name := "most", desc := "(I)I" } : MethodName) prog_11_method_62_code (5 : Nat) (some FieldType.int)) ∈ kG := gwi 1195 (by decide +kernel) rfl
theorem gw1196 : (Cond.methodLink "RopeBorderLaw" (116 : Nat) ({ cls := "RopeBorderModel", name := "relief", desc := "()I" } : MethodName)) ∈ kG := gwi 1196 (by decide +kernel) rfl
theorem gw1197 : (Cond.instanceMethod ({ cls := "RopeBorderModel", name := "relief", desc := "()I" } : MethodName)) ∈ kG := gwi 1197 (by decide +kernel) rfl
theorem gw1198 : (Cond.selects "RopeBorderModel" ({ cls := "RopeBorderModel", name := "relief", desc := "()I" } : MethodName) ({ cls := "RopeBorderModel", name := "relief", desc := "()I" } : MethodName)) ∈ kG := gwi 1198 (by decide +kernel) rfl
theorem gw1199 : (Cond.code ({ cls := "RopeBorderModel", name := "relief", desc := "()I" } : MethodName) prog_11_method_63_code (5 : Nat) (some FieldType.int)) ∈ kG := gwi 1199 (by decide +kernel) rfl
theorem gw1200 : (Cond.methodLink "RopeBorderLaw" (120 : Nat) ({ cls := "RopeBorderModel", name := "stands", desc := "()I" } : MethodName)) ∈ kG := gwi 1200 (by decide +kernel) rfl
theorem gw1201 : (Cond.instanceMethod ({ cls := "RopeBorderModel", name := "stands", desc := "()I" } : MethodName)) ∈ kG := gwi 1201 (by decide +kernel) rfl
theorem gw1202 : (Cond.selects "RopeBorderModel" ({ cls := "RopeBorderModel", name := "stands", desc := "()I" } : MethodName) ({ cls := "RopeBorderModel", name := "stands", desc := "()I" } : MethodName)) ∈ kG := gwi 1202 (by decide +kernel) rfl
theorem gw1203 : (Cond.code ({ cls := "RopeBorderModel", name := "stands", desc := "()I" } : MethodName) prog_11_method_64_code (2 : Nat) (some FieldType.int)) ∈ kG := gwi 1203 (by decide +kernel) rfl
theorem gw1204 : (Cond.methodLink "RopeBorderLaw" (124 : Nat) ({ cls := "RopeBorderModel", name := "parts", desc := "(I)I" } : MethodName)) ∈ kG := gwi 1204 (by decide +kernel) rfl
theorem gw1205 : (Cond.instanceMethod ({ cls := "RopeBorderModel", name := "parts", desc := "(I)I" } : MethodName)) ∈ kG := gwi 1205 (by decide +kernel) rfl
theorem gw1206 : (Cond.selects "RopeBorderModel" ({ cls := "RopeBorderModel", name := "parts", desc := "(I)I" } : MethodName) ({ cls := "RopeBorderModel", name := "parts", desc := "(I)I" } : MethodName)) ∈ kG := gwi 1206 (by decide +kernel) rfl
theorem gw1207 : (Cond.code ({ cls := "RopeBorderModel", name := "parts", desc := "(I)I" } : MethodName) prog_11_method_66_code (3 : Nat) (some FieldType.int)) ∈ kG := gwi 1207 (by decide +kernel) rfl
theorem gw1208 : (Cond.methodLink "RopeBorderModel" (203 : Nat) ({ cls := "RopeBorderModel", name := "mostWorn", desc := "()I" } : MethodName)) ∈ kG := gwi 1208 (by decide +kernel) rfl
theorem gw1210 : (Cond.instanceMethod ({ cls := "RopeBorderModel", name := "mostWorn", desc := "()I" } : MethodName)) ∈ kG := gwi 1210 (by decide +kernel) rfl
theorem gw1211 : (Cond.code ({ cls := "RopeBorderModel", name := "mostWorn", desc := "()I" } : MethodName) prog_11_method_65_code (3 : Nat) (some FieldType.int)) ∈ kG := gwi 1211 (by decide +kernel) rfl
theorem gw1212 : (Cond.methodLink "RopeBorderLaw" (128 : Nat) ({ cls := "RopeBorderModel", name := "who", desc := "(II)I" } : MethodName)) ∈ kG := gwi 1212 (by decide +kernel) rfl
theorem gw1213 : (Cond.instanceMethod ({ cls := "RopeBorderModel", name := "who", desc := "(II)I" } : MethodName)) ∈ kG := gwi 1213 (by decide +kernel) rfl
theorem gw1214 : (Cond.selects "RopeBorderModel" ({ cls := "RopeBorderModel", name := "who", desc := "(II)I" } : MethodName) ({ cls := "RopeBorderModel", name := "who", desc := "(II)I" } : MethodName)) ∈ kG := gwi 1214 (by decide +kernel) rfl
theorem gw1215 : (Cond.code ({ cls := "RopeBorderModel", name := "who", desc := "(II)I" } : MethodName) prog_11_method_68_code (8 : Nat) (some FieldType.int)) ∈ kG := gwi 1215 (by decide +kernel) rfl
theorem gw1216 : (Cond.methodLink "RopeBorderModel" (206 : Nat) ({ cls := "RopeBorderModel", name := "isSheet", desc := "(I)Z" } : MethodName)) ∈ kG := gwi 1216 (by decide +kernel) rfl
theorem gw1217 : (Cond.static ({ cls := "RopeBorderModel", name := "isSheet", desc := "(I)Z" } : MethodName)) ∈ kG := gwi 1217 (by decide +kernel) rfl
theorem gw1218 : (Cond.code ({ cls := "RopeBorderModel", name := "isSheet", desc := "(I)Z" } : MethodName) prog_11_method_67_code (1 : Nat) (some FieldType.boolean)) ∈ kG := gwi 1218 (by decide +kernel) rfl
theorem gw1219 : (Cond.methodLink "RopeBorderLaw" (132 : Nat) ({ cls := "RopeBorderModel", name := "odds", desc := "(III)I" } : MethodName)) ∈ kG := gwi 1219 (by decide +kernel) rfl
theorem gw1220 : (Cond.instanceMethod ({ cls := "RopeBorderModel", name := "odds", desc := "(III)I" } : MethodName)) ∈ kG := gwi 1220 (by decide +kernel) rfl
theorem gw1221 : (Cond.selects "RopeBorderModel" ({ cls := "RopeBorderModel", name := "odds", desc := "(III)I" } : MethodName) ({ cls := "RopeBorderModel", name := "odds", desc := "(III)I" } : MethodName)) ∈ kG := gwi 1221 (by decide +kernel) rfl
theorem gw1222 : (Cond.code ({ cls := "RopeBorderModel", name := "odds", desc := "(III)I" } : MethodName) prog_11_method_70_code (7 : Nat) (some FieldType.int)) ∈ kG := gwi 1222 (by decide +kernel) rfl
theorem gw1223 : (Cond.methodLink "RopeBorderModel" (209 : Nat) ({ cls := "RopeBorderModel", name := "divisor", desc := "(II)I" } : MethodName)) ∈ kG := gwi 1223 (by decide +kernel) rfl
theorem gw1224 : (Cond.static ({ cls := "RopeBorderModel", name := "divisor", desc := "(II)I" } : MethodName)) ∈ kG := gwi 1224 (by decide +kernel) rfl
theorem gw1225 : (Cond.code ({ cls := "RopeBorderModel", name := "divisor", desc := "(II)I" } : MethodName) prog_11_method_69_code (5 : Nat) (some FieldType.int)) ∈ kG := gwi 1225 (by decide +kernel) rfl
theorem gw1226 : (Cond.methodLink "RopeBorderLaw" (136 : Nat) ({ cls := "RopeBorderModel", name := "seed", desc := "(I)I" } : MethodName)) ∈ kG := gwi 1226 (by decide +kernel) rfl
theorem gw1227 : (Cond.instanceMethod ({ cls := "RopeBorderModel", name := "seed", desc := "(I)I" } : MethodName)) ∈ kG := gwi 1227 (by decide +kernel) rfl
theorem gw1228 : (Cond.selects "RopeBorderModel" ({ cls := "RopeBorderModel", name := "seed", desc := "(I)I" } : MethodName) ({ cls := "RopeBorderModel", name := "seed", desc := "(I)I" } : MethodName)) ∈ kG := gwi 1228 (by decide +kernel) rfl
theorem gw1229 : (Cond.code ({ cls := "RopeBorderModel", name := "seed", desc := "(I)I" } : MethodName) prog_11_method_71_code (3 : Nat) (some FieldType.int)) ∈ kG := gwi 1229 (by decide +kernel) rfl
theorem gw1230 : (Cond.methodLink "RopeBorderLaw" (140 : Nat) ({ cls := "RopeBorderModel", name := "voice", desc := "(III)I" } : MethodName)) ∈ kG := gwi 1230 (by decide +kernel) rfl
theorem gw1231 : (Cond.instanceMethod ({ cls := "RopeBorderModel", name := "voice", desc := "(III)I" } : MethodName)) ∈ kG := gwi 1231 (by decide +kernel) rfl
theorem gw1232 : (Cond.selects "RopeBorderModel" ({ cls := "RopeBorderModel", name := "voice", desc := "(III)I" } : MethodName) ({ cls := "RopeBorderModel", name := "voice", desc := "(III)I" } : MethodName)) ∈ kG := gwi 1232 (by decide +kernel) rfl
theorem gw1233 : (Cond.code ({ cls := "RopeBorderModel", name := "voice", desc := "(III)I" } : MethodName) prog_11_method_77_code (4 : Nat) (some FieldType.int)) ∈ kG := gwi 1233 (by decide +kernel) rfl
theorem gw1234 : (Cond.methodLink "RopeBorderModel" (221 : Nat) ({ cls := "RopeBorderModel", name := "countsIn", desc := "(II)I" } : MethodName)) ∈ kG := gwi 1234 (by decide +kernel) rfl
theorem gw1236 : (Cond.instanceMethod ({ cls := "RopeBorderModel", name := "countsIn", desc := "(II)I" } : MethodName)) ∈ kG := gwi 1236 (by decide +kernel) rfl
theorem gw1237 : (Cond.code ({ cls := "RopeBorderModel", name := "countsIn", desc := "(II)I" } : MethodName) prog_11_method_73_code (3 : Nat) (some FieldType.int)) ∈ kG := gwi 1237 (by decide +kernel) rfl
theorem gw1238 : (Cond.methodLink "RopeBorderModel" (215 : Nat) ({ cls := "RopeBorderModel", name := "ran", desc := "(I)V" } : MethodName)) ∈ kG := gwi 1238 (by decide +kernel) rfl
theorem gw1240 : (Cond.instanceMethod ({ cls := "RopeBorderModel", name := "ran", desc := "(I)V" } : MethodName)) ∈ kG := gwi 1240 (by decide +kernel) rfl
theorem gw1241 : (Cond.code ({ cls := "RopeBorderModel", name := "ran", desc := "(I)V" } : MethodName) prog_11_method_72_code (2 : Nat) (none : Option FieldType)) ∈ kG := gwi 1241 (by decide +kernel) rfl
theorem gw1242 : (Cond.methodLink "RopeBorderModel" (233 : Nat) ({ cls := "RopeBorderModel", name := "jumpsIn", desc := "(II)I" } : MethodName)) ∈ kG := gwi 1242 (by decide +kernel) rfl
theorem gw1244 : (Cond.instanceMethod ({ cls := "RopeBorderModel", name := "jumpsIn", desc := "(II)I" } : MethodName)) ∈ kG := gwi 1244 (by decide +kernel) rfl
theorem gw1245 : (Cond.code ({ cls := "RopeBorderModel", name := "jumpsIn", desc := "(II)I" } : MethodName) prog_11_method_75_code (4 : Nat) (some FieldType.int)) ∈ kG := gwi 1245 (by decide +kernel) rfl
theorem gw1246 : (Cond.methodLink "RopeBorderModel" (227 : Nat) ({ cls := "RopeBorderModel", name := "tripsIn", desc := "(II)I" } : MethodName)) ∈ kG := gwi 1246 (by decide +kernel) rfl
theorem gw1248 : (Cond.instanceMethod ({ cls := "RopeBorderModel", name := "tripsIn", desc := "(II)I" } : MethodName)) ∈ kG := gwi 1248 (by decide +kernel) rfl
theorem gw1249 : (Cond.code ({ cls := "RopeBorderModel", name := "tripsIn", desc := "(II)I" } : MethodName) prog_11_method_74_code (3 : Nat) (some FieldType.int)) ∈ kG := gwi 1249 (by decide +kernel) rfl
theorem gw1250 : (Cond.methodLink "RopeBorderModel" (236 : Nat) ({ cls := "RopeBorderModel", name := "runsIn", desc := "(II)I" } : MethodName)) ∈ kG := gwi 1250 (by decide +kernel) rfl
theorem gw1252 : (Cond.instanceMethod ({ cls := "RopeBorderModel", name := "runsIn", desc := "(II)I" } : MethodName)) ∈ kG := gwi 1252 (by decide +kernel) rfl
theorem gw1253 : (Cond.code ({ cls := "RopeBorderModel", name := "runsIn", desc := "(II)I" } : MethodName) prog_11_method_76_code (4 : Nat) (some FieldType.int)) ∈ kG := gwi 1253 (by decide +kernel) rfl
theorem gw1254 : (Cond.methodLink "RopeBorderLaw" (144 : Nat) ({ cls := "RopeBorderModel", name := "trace", desc := "(I)I" } : MethodName)) ∈ kG := gwi 1254 (by decide +kernel) rfl
theorem gw1255 : (Cond.instanceMethod ({ cls := "RopeBorderModel", name := "trace", desc := "(I)I" } : MethodName)) ∈ kG := gwi 1255 (by decide +kernel) rfl
theorem gw1256 : (Cond.selects "RopeBorderModel" ({ cls := "RopeBorderModel", name := "trace", desc := "(I)I" } : MethodName) ({ cls := "RopeBorderModel", name := "trace", desc := "(I)I" } : MethodName)) ∈ kG := gwi 1256 (by decide +kernel) rfl
theorem gw1257 : (Cond.code ({ cls := "RopeBorderModel", name := "trace", desc := "(I)I" } : MethodName) prog_11_method_78_code (2 : Nat) (some FieldType.int)) ∈ kG := gwi 1257 (by decide +kernel) rfl
theorem gw1258 : (Cond.methodLink "RopeBorderLaw" (148 : Nat) ({ cls := "RopeBorderModel", name := "sheet", desc := "(III)I" } : MethodName)) ∈ kG := gwi 1258 (by decide +kernel) rfl
theorem gw1259 : (Cond.instanceMethod ({ cls := "RopeBorderModel", name := "sheet", desc := "(III)I" } : MethodName)) ∈ kG := gwi 1259 (by decide +kernel) rfl
theorem gw1260 : (Cond.selects "RopeBorderModel" ({ cls := "RopeBorderModel", name := "sheet", desc := "(III)I" } : MethodName) ({ cls := "RopeBorderModel", name := "sheet", desc := "(III)I" } : MethodName)) ∈ kG := gwi 1260 (by decide +kernel) rfl
theorem gw1261 : (Cond.code ({ cls := "RopeBorderModel", name := "sheet", desc := "(III)I" } : MethodName) prog_11_method_80_code (5 : Nat) (some FieldType.int)) ∈ kG := gwi 1261 (by decide +kernel) rfl
theorem gw1262 : (Cond.methodLink "RopeBorderLaw" (152 : Nat) ({ cls := "RopeBorderModel", name := "put", desc := "(III)I" } : MethodName)) ∈ kG := gwi 1262 (by decide +kernel) rfl
theorem gw1263 : (Cond.instanceMethod ({ cls := "RopeBorderModel", name := "put", desc := "(III)I" } : MethodName)) ∈ kG := gwi 1263 (by decide +kernel) rfl
theorem gw1264 : (Cond.selects "RopeBorderModel" ({ cls := "RopeBorderModel", name := "put", desc := "(III)I" } : MethodName) ({ cls := "RopeBorderModel", name := "put", desc := "(III)I" } : MethodName)) ∈ kG := gwi 1264 (by decide +kernel) rfl
theorem gw1265 : (Cond.code ({ cls := "RopeBorderModel", name := "put", desc := "(III)I" } : MethodName) prog_11_method_81_code (4 : Nat) (some FieldType.int)) ∈ kG := gwi 1265 (by decide +kernel) rfl
theorem gw1266 : (Cond.methodLink "RopeBorderModel" (239 : Nat) ({ cls := "RopeBorderModel", name := "narrow", desc := "(II)I" } : MethodName)) ∈ kG := gwi 1266 (by decide +kernel) rfl
theorem gw1267 : (Cond.static ({ cls := "RopeBorderModel", name := "narrow", desc := "(II)I" } : MethodName)) ∈ kG := gwi 1267 (by decide +kernel) rfl
theorem gw1268 : (Cond.code ({ cls := "RopeBorderModel", name := "narrow", desc := "(II)I" } : MethodName) prog_11_method_79_code (2 : Nat) (some FieldType.int)) ∈ kG := gwi 1268 (by decide +kernel) rfl
theorem gw1269 : (Cond.methodLink "RopeBorderLaw" (157 : Nat) ({ cls := "RopeBorderModel", name := "move", desc := "(IIIII)I" } : MethodName)) ∈ kG := gwi 1269 (by decide +kernel) rfl
theorem gw1270 : (Cond.instanceMethod ({ cls := "RopeBorderModel", name := "move", desc := "(IIIII)I" } : MethodName)) ∈ kG := gwi 1270 (by decide +kernel) rfl
theorem gw1271 : (Cond.selects "RopeBorderModel" ({ cls := "RopeBorderModel", name := "move", desc := "(IIIII)I" } : MethodName) ({ cls := "RopeBorderModel", name := "move", desc := "(IIIII)I" } : MethodName)) ∈ kG := gwi 1271 (by decide +kernel) rfl
theorem gw1272 : (Cond.code ({ cls := "RopeBorderModel", name := "move", desc := "(IIIII)I" } : MethodName) prog_11_method_82_code (7 : Nat) (some FieldType.int)) ∈ kG := gwi 1272 (by decide +kernel) rfl
theorem gw1273 : (Cond.methodLink "RopeBorderLaw" (161 : Nat) ({ cls := "RopeBorderModel", name := "loads", desc := "(I)I" } : MethodName)) ∈ kG := gwi 1273 (by decide +kernel) rfl
theorem gw1274 : (Cond.instanceMethod ({ cls := "RopeBorderModel", name := "loads", desc := "(I)I" } : MethodName)) ∈ kG := gwi 1274 (by decide +kernel) rfl
theorem gw1275 : (Cond.selects "RopeBorderModel" ({ cls := "RopeBorderModel", name := "loads", desc := "(I)I" } : MethodName) ({ cls := "RopeBorderModel", name := "loads", desc := "(I)I" } : MethodName)) ∈ kG := gwi 1275 (by decide +kernel) rfl
theorem gw1276 : (Cond.code ({ cls := "RopeBorderModel", name := "loads", desc := "(I)I" } : MethodName) prog_11_method_83_code (3 : Nat) (some FieldType.int)) ∈ kG := gwi 1276 (by decide +kernel) rfl
theorem gw1277 : (Cond.methodLink "RopeBorderLaw" (165 : Nat) ({ cls := "RopeBorderModel", name := "judge", desc := "(I)I" } : MethodName)) ∈ kG := gwi 1277 (by decide +kernel) rfl
theorem gw1278 : (Cond.instanceMethod ({ cls := "RopeBorderModel", name := "judge", desc := "(I)I" } : MethodName)) ∈ kG := gwi 1278 (by decide +kernel) rfl
theorem gw1279 : (Cond.selects "RopeBorderModel" ({ cls := "RopeBorderModel", name := "judge", desc := "(I)I" } : MethodName) ({ cls := "RopeBorderModel", name := "judge", desc := "(I)I" } : MethodName)) ∈ kG := gwi 1279 (by decide +kernel) rfl
theorem gw1280 : (Cond.code ({ cls := "RopeBorderModel", name := "judge", desc := "(I)I" } : MethodName) prog_11_method_84_code (3 : Nat) (some FieldType.int)) ∈ kG := gwi 1280 (by decide +kernel) rfl
theorem gw1281 : (Cond.methodLink "RopeBorderLaw" (169 : Nat) ({ cls := "RopeBorderModel", name := "image", desc := "()I" } : MethodName)) ∈ kG := gwi 1281 (by decide +kernel) rfl
theorem gw1282 : (Cond.instanceMethod ({ cls := "RopeBorderModel", name := "image", desc := "()I" } : MethodName)) ∈ kG := gwi 1282 (by decide +kernel) rfl
theorem gw1283 : (Cond.selects "RopeBorderModel" ({ cls := "RopeBorderModel", name := "image", desc := "()I" } : MethodName) ({ cls := "RopeBorderModel", name := "image", desc := "()I" } : MethodName)) ∈ kG := gwi 1283 (by decide +kernel) rfl
theorem gw1284 : (Cond.code ({ cls := "RopeBorderModel", name := "image", desc := "()I" } : MethodName) prog_11_method_85_code (1 : Nat) (some FieldType.int)) ∈ kG := gwi 1284 (by decide +kernel) rfl
theorem gw1285 : (Cond.methodLink "RopeBorderLaw" (173 : Nat) ({ cls := "RopeBorderModel", name := "restore", desc := "()I" } : MethodName)) ∈ kG := gwi 1285 (by decide +kernel) rfl
theorem gw1286 : (Cond.instanceMethod ({ cls := "RopeBorderModel", name := "restore", desc := "()I" } : MethodName)) ∈ kG := gwi 1286 (by decide +kernel) rfl
theorem gw1287 : (Cond.selects "RopeBorderModel" ({ cls := "RopeBorderModel", name := "restore", desc := "()I" } : MethodName) ({ cls := "RopeBorderModel", name := "restore", desc := "()I" } : MethodName)) ∈ kG := gwi 1287 (by decide +kernel) rfl
theorem gw1288 : (Cond.code ({ cls := "RopeBorderModel", name := "restore", desc := "()I" } : MethodName) prog_11_method_86_code (1 : Nat) (some FieldType.int)) ∈ kG := gwi 1288 (by decide +kernel) rfl
theorem gw1289 : (Cond.methodLink "RopeBorderLaw" (177 : Nat) ({ cls := "RopeBorderModel", name := "tell", desc := "(I)I" } : MethodName)) ∈ kG := gwi 1289 (by decide +kernel) rfl
theorem gw1290 : (Cond.instanceMethod ({ cls := "RopeBorderModel", name := "tell", desc := "(I)I" } : MethodName)) ∈ kG := gwi 1290 (by decide +kernel) rfl
theorem gw1291 : (Cond.selects "RopeBorderModel" ({ cls := "RopeBorderModel", name := "tell", desc := "(I)I" } : MethodName) ({ cls := "RopeBorderModel", name := "tell", desc := "(I)I" } : MethodName)) ∈ kG := gwi 1291 (by decide +kernel) rfl
theorem gw1292 : (Cond.code ({ cls := "RopeBorderModel", name := "tell", desc := "(I)I" } : MethodName) prog_11_method_87_code (2 : Nat) (some FieldType.int)) ∈ kG := gwi 1292 (by decide +kernel) rfl
theorem gw1293 : (Cond.methodLink "RopeBorderLaw" (181 : Nat) ({ cls := "RopeBorderModel", name := "check", desc := "()I" } : MethodName)) ∈ kG := gwi 1293 (by decide +kernel) rfl
theorem gw1294 : (Cond.instanceMethod ({ cls := "RopeBorderModel", name := "check", desc := "()I" } : MethodName)) ∈ kG := gwi 1294 (by decide +kernel) rfl
theorem gw1295 : (Cond.selects "RopeBorderModel" ({ cls := "RopeBorderModel", name := "check", desc := "()I" } : MethodName) ({ cls := "RopeBorderModel", name := "check", desc := "()I" } : MethodName)) ∈ kG := gwi 1295 (by decide +kernel) rfl
theorem gw1296 : (Cond.code ({ cls := "RopeBorderModel", name := "check", desc := "()I" } : MethodName) prog_11_method_88_code (4 : Nat) (some FieldType.int)) ∈ kG := gwi 1296 (by decide +kernel) rfl
theorem gw1297 : (Cond.methodLink "RopeBorderLaw" (185 : Nat) ({ cls := "RopeBorderModel", name := "count", desc := "(I)I" } : MethodName)) ∈ kG := gwi 1297 (by decide +kernel) rfl
theorem gw1298 : (Cond.instanceMethod ({ cls := "RopeBorderModel", name := "count", desc := "(I)I" } : MethodName)) ∈ kG := gwi 1298 (by decide +kernel) rfl
theorem gw1299 : (Cond.selects "RopeBorderModel" ({ cls := "RopeBorderModel", name := "count", desc := "(I)I" } : MethodName) ({ cls := "RopeBorderModel", name := "count", desc := "(I)I" } : MethodName)) ∈ kG := gwi 1299 (by decide +kernel) rfl
theorem gw1300 : (Cond.code ({ cls := "RopeBorderModel", name := "count", desc := "(I)I" } : MethodName) prog_11_method_89_code (2 : Nat) (some FieldType.int)) ∈ kG := gwi 1300 (by decide +kernel) rfl
theorem gw1301 : (Cond.methodLink "RopeBorderLaw" (189 : Nat) ({ cls := "RopeBorderModel", name := "told", desc := "(I)I" } : MethodName)) ∈ kG := gwi 1301 (by decide +kernel) rfl
theorem gw1302 : (Cond.instanceMethod ({ cls := "RopeBorderModel", name := "told", desc := "(I)I" } : MethodName)) ∈ kG := gwi 1302 (by decide +kernel) rfl
theorem gw1303 : (Cond.selects "RopeBorderModel" ({ cls := "RopeBorderModel", name := "told", desc := "(I)I" } : MethodName) ({ cls := "RopeBorderModel", name := "told", desc := "(I)I" } : MethodName)) ∈ kG := gwi 1303 (by decide +kernel) rfl
theorem gw1304 : (Cond.code ({ cls := "RopeBorderModel", name := "told", desc := "(I)I" } : MethodName) prog_11_method_90_code (2 : Nat) (some FieldType.int)) ∈ kG := gwi 1304 (by decide +kernel) rfl

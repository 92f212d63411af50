/-! CORE: a flat memory of named cells, the judgement J (the machine at a pc over such a memory), the contract CT (a method over such a memory) -/
abbrev MI : Type := Nat → Nat → Int32
abbrev ML : Type := Nat → Nat → Int64
abbrev MR : Type := Nat → Nat → Option Nat
/-- names: of which kind (classes 0 to 13 by vwCl, arrays 14 byte, 15 int, 16 long, 17 Good, 18 Person, 19 Print, 20 Visit), how long -/
def kdA : List Nat := [11, 14, 6, 14, 16, 16, 15, 15, 4, 15, 15, 15, 0, 15, 15, 15, 15, 7, 15, 15, 8, 15, 15]
def lnA : List Nat := [0, 1100, 0, 0, 7, 17, 17, 17, 0, 13, 208, 39, 0, 5, 5, 6, 192, 0, 30, 5, 0, 36, 6]
def kdB : List Nat := [9, 15, 2, 15, 15, 18, 17, 20, 19, 15, 3, 3, 3, 3, 3, 3, 99, 99, 99, 99, 15, 15, 15, 15, 15, 15, 99, 99, 99, 99, 1, 1, 1, 1, 1, 99, 99, 99, 99, 99, 10, 10, 10, 10, 10, 10, 10, 10, 99, 99, 5, 5, 5, 5, 5]
def lnB : List Nat := [0, 6, 0, 36, 36, 6, 5, 8, 5, 6, 0, 0, 0, 0, 0, 0, 0, 0, 0, 0, 5, 5, 5, 5, 5, 5]
def kdC : List Nat := [13, 14, 15, 15, 15, 15, 15, 15, 15, 15, 15, 15, 15]
def lnC : List Nat := [0, 1100, 13, 208, 39, 160, 192, 5, 5, 6, 384, 5, 30]
def kdD : List Nat := [12, 15, 15, 15, 15, 15, 15, 15, 15, 15, 15, 15, 15, 15, 15, 15, 15, 16, 15, 15]
def lnD : List Nat := [0, 6, 36, 36, 6, 6, 6, 30, 5, 5, 5, 8, 8, 8, 5, 5, 5, 17, 17, 17]
def kd (n : Nat) : Nat := if n < 100 then kdA.getD n 99 else if n < 300 then kdB.getD (n % 100) 99 else if n < 1000 then (if n = 601 then 16 else 99) else if n < 2000 then kdC.getD (n - 1000) 99 else kdD.getD ((n - 2000) % 20) 99
def ln (n : Nat) : Nat := if n < 100 then lnA.getD n 0 else if n < 300 then lnB.getD (n % 100) 0 else if n < 1000 then (if n = 601 then 1 else 0) else if n < 2000 then lnC.getD (n - 1000) 0 else lnD.getD ((n - 2000) % 20) 0
/-- fields: how many a class has, of what sort each is: 0 int and its like, 1 long, 2 a reference -/
def nfL : List Nat := [6, 3, 4, 4, 6, 3, 14, 3, 2, 16, 3, 12, 29, 32]
def nf (k : Nat) : Nat := nfL.getD k 0
def ftL : List (List Nat) := [[2, 2, 2, 2, 0, 0], [0, 0, 0], [0, 2, 2, 0], [0, 0, 0, 2], [0, 0, 2, 2, 0, 2], [0, 0, 0], [0, 0, 2, 0, 0, 0, 0, 1, 0, 2, 2, 2, 2, 0], [2, 2, 0], [2, 2], [0, 0, 0, 0, 0, 0, 0, 0, 0, 2, 2, 2, 2, 2, 2, 2], [0, 0, 0], [2, 0, 2, 2, 2, 2, 2, 2, 2, 0, 0, 0], [0, 0, 0, 0, 0, 0, 0, 0, 0, 0, 2, 2, 2, 2, 2, 2, 2, 2, 2, 2, 2, 2, 2, 2, 2, 2, 2, 2, 2], [0, 0, 0, 2, 2, 2, 0, 0, 0, 0, 0, 0, 0, 0, 0, 1, 2, 2, 2, 0, 0, 2, 2, 2, 2, 2, 0, 2, 2, 2, 0, 0]]
def ft (k j : Nat) : Nat := (ftL.getD k []).getD j 0
/-- what is fixed for a whole run: the classes' numbers and slots, the array classes, the heap below, the strings' addresses, what else the tables say -/
abbrev GG : Type := va_G × (Nat → ClassId) × Heap × (Nat → Nat) × (State → Prop)
abbrev gA (G : GG) : Nat → Prop := fun q => G.2.2.1.size ≤ q
def gty (G : GG) : List (ClassId × FieldType) := [(G.2.1 14, .byte), (G.2.1 15, .int), (G.2.1 16, .long), (G.2.1 17, .object RX1), (G.2.1 18, .object RX3), (G.2.1 19, .object RX5), (G.2.1 20, .object RX10)]
def rn (ad : Nat → Nat) (v : Value) : Value := match v with
  | .ref n => .ref (ad n)
  | v => v
theorem rn_cat (ad : Nat → Nat) (v : Value) : (rn ad v).category = v.category := by cases v <;> rfl
theorem rn_cats (ad : Nat → Nat) (st : List Value) : ((st.map (rn ad)).map fun v => v.category) = st.map fun v => v.category := by
  rw [List.map_map]; exact List.map_congr_left (fun v _ => rn_cat ad v)
/-- a field's value -/
def sv (ad : Nat → Nat) (mi : MI) (ml : ML) (mr : MR) (n j : Nat) : Value := if ft (kd n) j = 0 then .int (mi n j) else if ft (kd n) j = 1 then .long (ml n j) else va_rf ((mr n j).map ad)
def ar (ad : Nat → Nat) (mi : MI) (ml : ML) (mr : MR) (n : Nat) : (Nat → Int32) ⊕ (Nat → Int64) ⊕ (Nat → UInt32) ⊕ (Nat → UInt64) ⊕ (Nat → Option Nat) :=
  if kd n < 16 then .inl (mi n) else if kd n = 16 then .inr (.inl (ml n)) else .inr (.inr (.inr (.inr (fun j => (mr n j).map ad))))
def cel (G : GG) (ad : Nat → Nat) (mi : MI) (ml : ML) (mr : MR) (n : Nat) : va_E :=
  if kd n < 14 then .inr (kd n, (List.range (nf (kd n))).map (fun j => sv ad mi ml mr n j)) else .inl (G.2.1 (kd n), ln n, ar ad mi ml mr n)
def wl (G : GG) (ad : Nat → Nat) (mi : MI) (ml : ML) (mr : MR) (dom : List Nat) : va_W := dom.map (fun n => (ad n, cel G ad mi ml mr n))
def lit (n : Nat) : Prop := 500 ≤ n ∧ n < 600
def okn (dom : List Nat) (n : Nat) : Prop := n ∈ dom ∨ lit n
def okv (dom : List Nat) (v : Value) : Prop := ∀ n, v = .ref n → okn dom n
def oks (dom : List Nat) (st : List Value) : Prop := ∀ v ∈ st, okv dom v
def okl (dom : List Nat) (lv : List (Option Value)) : Prop := ∀ v, some v ∈ lv → okv dom v
/-- the heap holds the memory -/
def Rel (G : GG) (ad : Nat → Nat) (mi : MI) (ml : ML) (mr : MR) (dom : List Nat) (H : Heap) : Prop :=
  va_P G.1 vwCl (wl G ad mi ml mr dom) H ∧ va_D (gA G) (wl G ad mi ml mr dom) ∧ (∀ n ∈ dom, ∀ j b, mr n j = some b → okn dom b) ∧ (∀ n, lit n → ad n = G.2.2.2.1 n) ∧ ∀ n ∈ dom, ¬ lit n
/-- the locals -/
def lvl (ad : Nat → Nat) (lv : List (Option Value)) : List (Nat × Value) := (List.range lv.length).filterMap (fun k => (lv.getD k none).map (fun w => (k, rn ad w)))
theorem lvl_mem {ad : Nat → Nat} {lv : List (Option Value)} {k : Nat} {w : Value} (h : lv[k]? = some (some w)) : (k, rn ad w) ∈ lvl ad lv := by
  have hk : k < lv.length := (List.getElem?_eq_some_iff.mp h).1
  refine List.mem_filterMap.mpr ⟨k, List.mem_range.mpr hk, ?_⟩
  rw [List.getD_eq_getElem?_getD, h]; rfl
theorem lvl_inv {ad : Nat → Nat} {lv : List (Option Value)} {q : Nat × Value} (h : q ∈ lvl ad lv) : ∃ w, lv[q.1]? = some (some w) ∧ q.2 = rn ad w := by
  obtain ⟨k, -, hk⟩ := List.mem_filterMap.mp h
  rw [List.getD_eq_getElem?_getD] at hk
  cases e : lv[k]? with
  | none => rw [e] at hk; cases hk
  | some o =>
    cases o with
    | none => rw [e] at hk; cases hk
    | some w =>
      rw [e] at hk
      have : q = (k, rn ad w) := (Option.some.inj hk).symm
      subst this
      exact ⟨w, e, rfl⟩
def LH (ad : Nat → Nat) (ls : Array Slot) (nL : Nat) (lv : List (Option Value)) : Prop := lv_has ls nL (lvl ad lv)
theorem LH.get {ad : Nat → Nat} {ls : Array Slot} {nL : Nat} {lv : List (Option Value)} (h : LH ad ls nL lv) {k : Nat} {w : Value} (hk : lv[k]? = some (some w)) : ls[k]? = some (.val (rn ad w)) := h.2.2 _ (lvl_mem hk)
def nolong (lv : List (Option Value)) (i : Nat) : Bool := match i with
  | 0 => true
  | j + 1 => match lv[j]? with
    | some (some v) => v.category == 1
    | _ => true
theorem LH.store {ad : Nat → Nat} {ls' : Array Slot} {nL : Nat} {lv : List (Option Value)} {i : Nat} {v : Value} (hn : nolong lv i = true) (h : lv_has ls' nL ((i, rn ad v) :: (lvl ad lv).filter (fun q => !(q.1 == i) && !(q.1 + 1 == i && q.2.category == 2)))) : LH ad ls' nL (lv.set i (some v)) := by
  refine ⟨h.1, h.2.1, fun q hq => ?_⟩
  obtain ⟨w, h1, h2⟩ := lvl_inv hq
  by_cases hi : q.1 = i
  · rw [hi] at h1
    have hv : w = v := by
      by_cases hl : i < lv.length
      · rw [List.getElem?_set_self hl] at h1; exact (Option.some.inj (Option.some.inj h1)).symm
      · rw [List.getElem?_eq_none (by simp; omega)] at h1; cases h1
    rw [h2, hi, hv]
    exact h.2.2 _ List.mem_cons_self
  · rw [List.getElem?_set_ne (fun e => hi e.symm)] at h1
    have hm : q ∈ lvl ad lv := by
      have := lvl_mem (ad := ad) h1
      rw [← h2] at this; exact this
    refine h.2.2 _ (List.mem_cons_of_mem _ (List.mem_filter.mpr ⟨hm, ?_⟩))
    have c1 : (q.1 == i) = false := by simp [hi]
    have c2 : (q.1 + 1 == i && q.2.category == 2) = false := by
      by_cases hj : q.1 + 1 = i
      · subst hj
        have : w.category = 1 := by
          have := hn
          simp only [nolong, h1] at this
          simpa using this
        rw [h2, rn_cat, this]; simp
      · simp [hj]
    rw [c1, c2]; rfl
theorem LH.store2 {ad : Nat → Nat} {ls' : Array Slot} {nL : Nat} {lv : List (Option Value)} {i : Nat} {v : Value} (hn : nolong lv i = true) (h : lv_has ls' nL ((i, rn ad v) :: (lvl ad lv).filter (fun q => !(q.1 == i) && (!(q.1 == i + 1) && !(q.1 + 1 == i && q.2.category == 2))))) : LH ad ls' nL ((lv.set i (some v)).set (i + 1) none) := by
  refine ⟨h.1, h.2.1, fun q hq => ?_⟩
  obtain ⟨w, h1, h2⟩ := lvl_inv hq
  by_cases hi1 : q.1 = i + 1
  · rw [hi1] at h1
    by_cases hl : i + 1 < (lv.set i (some v)).length
    · rw [List.getElem?_set_self hl] at h1; cases h1
    · rw [List.getElem?_eq_none (by simp at hl ⊢; omega)] at h1; cases h1
  rw [List.getElem?_set_ne (fun e => hi1 e.symm)] at h1
  by_cases hi : q.1 = i
  · rw [hi] at h1
    have hv : w = v := by
      by_cases hl : i < lv.length
      · rw [List.getElem?_set_self hl] at h1; exact (Option.some.inj (Option.some.inj h1)).symm
      · rw [List.getElem?_eq_none (by simp; omega)] at h1; cases h1
    rw [h2, hi, hv]
    exact h.2.2 _ List.mem_cons_self
  · rw [List.getElem?_set_ne (fun e => hi e.symm)] at h1
    have hm : q ∈ lvl ad lv := by
      have := lvl_mem (ad := ad) h1
      rw [← h2] at this; exact this
    refine h.2.2 _ (List.mem_cons_of_mem _ (List.mem_filter.mpr ⟨hm, ?_⟩))
    have c1 : (q.1 == i) = false := by simp [hi]
    have c3 : (q.1 == i + 1) = false := by simp [hi1]
    have c2 : (q.1 + 1 == i && q.2.category == 2) = false := by
      by_cases hj : q.1 + 1 = i
      · subst hj
        have : w.category = 1 := by
          have := hn
          simp only [nolong, h1] at this
          simpa using this
        rw [h2, rn_cat, this]; simp
      · simp [hj]
    rw [c1, c2, c3]; rfl
theorem okl.set {dom : List Nat} {lv : List (Option Value)} {i : Nat} {v : Value} (h : okl dom lv) (hv : okv dom v) : okl dom (lv.set i (some v)) := by
  intro w hw
  rcases List.mem_or_eq_of_mem_set hw with h1 | h1
  · exact h w h1
  · cases h1; exact hv
theorem okl.setn {dom : List Nat} {lv : List (Option Value)} {i : Nat} (h : okl dom lv) : okl dom (lv.set i none) := by
  intro w hw
  rcases List.mem_or_eq_of_mem_set hw with h1 | h1
  · exact h w h1
  · cases h1
def nestW : List Cond := [Cond.methodLinkNest RX9 46 yX2_init RX11, Cond.methodLinkNest RX9 78 yX3_init RX11, Cond.methodLinkNest RX9 79 yX1_init RX11, Cond.methodLinkNest RX9 80 yX10_init RX11, Cond.methodLinkNest RX9 81 yX5_init RX11, Cond.methodLinkNest RX11 36 yX4_init RX11, Cond.methodLinkNest RX11 43 yX0_init RX11, Cond.methodLinkNest RX11 50 yX7_init RX11, Cond.methodLinkNest RX11 57 yX8_init RX11, Cond.methodLinkNest RX13 331 yX12_init RX13, Cond.fieldLinkNest RX13 232 RX12 "dawn" "I" RX13, Cond.fieldLinkNest RX13 234 RX12 "dusk" "I" RX13, Cond.fieldLinkNest RX13 161 RX12 "door" "I" RX13, Cond.fieldLinkNest RX13 196 RX12 "houses" "I" RX13, Cond.fieldLinkNest RX13 251 RX12 "lanes" "I" RX13, Cond.fieldLinkNest RX13 199 RX12 "people" "I" RX13, Cond.fieldLinkNest RX13 288 RX12 "goods" "I" RX13, Cond.fieldLinkNest RX13 302 RX12 "visits" "I" RX13, Cond.fieldLinkNest RX13 316 RX12 "prints" "I" RX13, Cond.fieldLinkNest RX13 178 RX12 "names" "I" RX13, Cond.fieldLinkNest RX13 249 RX12 "sill" "[I" RX13, Cond.fieldLinkNest RX13 257 RX12 "minutes" "[I" RX13, Cond.fieldLinkNest RX13 278 RX12 "kind" "[I" RX13, Cond.fieldLinkNest RX13 281 RX12 "of" "[I" RX13, Cond.fieldLinkNest RX13 283 RX12 "tall" "[I" RX13, Cond.fieldLinkNest RX13 285 RX12 "mark" "[I" RX13, Cond.fieldLinkNest RX13 296 RX12 "size" "[I" RX13, Cond.fieldLinkNest RX13 298 RX12 "at" "[I" RX13, Cond.fieldLinkNest RX13 300 RX12 "to" "[I" RX13, Cond.fieldLinkNest RX13 307 RX12 "visitor" "[I" RX13, Cond.fieldLinkNest RX13 310 RX12 "visited" "[I" RX13, Cond.fieldLinkNest RX13 313 RX12 "visitHour" "[I" RX13, Cond.fieldLinkNest RX13 321 RX12 "printAt" "[I" RX13, Cond.fieldLinkNest RX13 324 RX12 "print" "[I" RX13, Cond.fieldLinkNest RX13 326 RX12 "night" "[I" RX13, Cond.fieldLinkNest RX13 174 RX12 "name" "[J" RX13, Cond.fieldLinkNest RX13 181 RX12 "nameSort" "[I" RX13, Cond.fieldLinkNest RX13 184 RX12 "numberOf" "[I" RX13, Cond.methodLinkNest RX12 95 yX13_bit RX13]
/-- the texts in the class and the reference: whose constant, at which entry, the text, its number -/
def strT : List (String × Nat × String × Nat) := [(RX6, 58, "town", 0), (RX6, 64, "house", 1), (RX6, 66, "lane", 2), (RX6, 68, "person", 3), (RX6, 70, "good", 4), (RX6, 72, "visit", 5), (RX6, 74, "print", 6), (RX6, 180, "dawn", 7), (RX6, 192, "dusk", 8), (RX6, 196, "door", 9), (RX6, 203, "sill", 10), (RX6, 217, "minutes", 11), (RX6, 313, "adult", 12), (RX6, 315, "child", 13), (RX6, 317, "mermaid", 14), (RX6, 236, "of", 15), (RX6, 241, "tall", 16), (RX6, 246, "upper", 17), (RX6, 258, "lower", 18), (RX6, 264, "size", 19), (RX6, 271, "at", 20), (RX6, 275, "to", 21), (RX6, 292, "hour", 22), (RX6, 306, "night", 23), (RX13, 143, "town", 0), (RX13, 223, "dawn", 7), (RX13, 229, "dusk", 8), (RX13, 231, "door", 9), (RX13, 145, "house", 1), (RX13, 147, "lane", 2), (RX13, 149, "person", 3), (RX13, 151, "good", 4), (RX13, 153, "visit", 5), (RX13, 155, "print", 6), (RX13, 244, "sill", 10), (RX13, 260, "minutes", 11), (RX13, 261, "adult", 12), (RX13, 263, "child", 13), (RX13, 265, "mermaid", 14), (RX13, 267, "of", 15), (RX13, 269, "tall", 16), (RX13, 271, "upper", 17), (RX13, 276, "lower", 18), (RX13, 291, "size", 19), (RX13, 292, "at", 20), (RX13, 294, "to", 21), (RX13, 305, "hour", 22), (RX13, 319, "night", 23)]
def strL : List Nat := [4, 5, 4, 6, 4, 5, 5, 4, 4, 4, 4, 7, 5, 5, 7, 2, 4, 5, 5, 4, 2, 2, 4, 5]
def strB : List (List Int32) := [[116, 111, 119, 110], [104, 111, 117, 115, 101], [108, 97, 110, 101], [112, 101, 114, 115, 111, 110], [103, 111, 111, 100], [118, 105, 115, 105, 116], [112, 114, 105, 110, 116], [100, 97, 119, 110], [100, 117, 115, 107], [100, 111, 111, 114], [115, 105, 108, 108], [109, 105, 110, 117, 116, 101, 115], [97, 100, 117, 108, 116], [99, 104, 105, 108, 100], [109, 101, 114, 109, 97, 105, 100], [111, 102], [116, 97, 108, 108], [117, 112, 112, 101, 114], [108, 111, 119, 101, 114], [115, 105, 122, 101], [97, 116], [116, 111], [104, 111, 117, 114], [110, 105, 103, 104, 116]]
/-- what else the tables say: the links between nest mates, the texts -/
def GN (G : GG) : Prop := ∀ U : State, G.2.2.2.2 U → (∀ w ∈ nestW, va_Nw w U) ∧ (∀ q ∈ strT, vk_R q.1 q.2.1 q.2.2.1 (G.2.2.2.1 (500 + q.2.2.2)) U) ∧ (∀ i, i < 24 → va_O "java/lang/String" (G.2.2.2.1 (500 + i)) (gA G) U G.2.2.1 ∧ va_OF "java/lang/String" "coder" "B" (.int 0) (G.2.2.2.1 (500 + i)) (gA G) U G.2.2.1 ∧ va_OF "java/lang/String" "value" "[B" (.ref (G.2.2.2.1 (550 + i))) (G.2.2.2.1 (500 + i)) (gA G) U G.2.2.1 ∧ va_T .byte (G.2.2.2.1 (550 + i)) (strL.getD i 0) (fun j => .int ((strB.getD i []).getD j 0)) (gA G) U G.2.2.1) ∧ va_Z "java/lang/String" "COMPACT_STRINGS" "Z" (.int 1) (gA G) U G.2.2.1 ∧ (va_Z "jdk/internal/util/Preconditions" "SIOOBE_FORMATTER" "Ljava/util/function/BiFunction;" .null (gA G) U G.2.2.1 ∨ va_Z "jdk/internal/util/Preconditions" "SIOOBE_FORMATTER" "Ljava/util/function/BiFunction;" (.ref (G.2.2.2.1 599)) (gA G) U G.2.2.1) ∧ vx_Zq Bundle.tN "UNASSIGNED_STACK" Bundle.steD (gA G) U G.2.2.1 ∧ vx_Zq Bundle.tN "SUPPRESSED_SENTINEL" Bundle.listD (gA G) U G.2.2.1
/-- what the tables say at a method's entry -/
def KN (G : GG) (U : State) : Prop := va_K G.1 vwCl (gty G) U ∧ G.2.2.2.2 U ∧ (∀ s U : State, s.WarmedH U.vm → G.2.2.2.2 s → G.2.2.2.2 U) ∧ GN G
abbrev PT : Type := Option Value → MI → ML → MR → List Nat → Prop
/-- a method's end: its answer, the new memory, old names where they were -/
def Qx (G : GG) (ad0 : Nat → Nat) (dom0 : List Nat) (post : PT) : Array Value → State → Outcome → State → Prop := fun _ _ o t =>
  ∃ (v : Option Value) (mi : MI) (ml : ML) (mr : MR) (dom : List Nat) (ad : Nat → Nat), o = .returned (v.map (rn ad)) ∧ post v mi ml mr dom ∧ Rel G ad mi ml mr dom t.heap ∧ va_S (gA G) G.2.2.1 t.heap [] ∧ (∀ w, v = some w → okv dom w) ∧ ∀ n ∈ dom0, n ∈ dom ∧ ad n = ad0 n
def Px (G : GG) (ad : Nat → Nat) (args : List Value) (mi : MI) (ml : ML) (mr : MR) (dom : List Nat) : Array Value → State → Prop := fun a U =>
  a = (args.map (rn ad)).toArray ∧ oks dom args ∧ Rel G ad mi ml mr dom U.heap ∧ va_S (gA G) G.2.2.1 U.heap [] ∧ KN G U
abbrev rmx (d mc ms : Nat) : Room := { frames := d, cells := mc, slots := ms, locals := 64 * d }
/-- the contract of a method: with these arguments over this memory it comes to its end with 'post'; d frames, mc cells, ms slots -/
def CT (G : GG) (d mc ms : Nat) (y : MethodName) (cc : ByteArray) (nL : Nat) (rt : Option FieldType) (args : List Value) (mi : MI) (ml : ML) (mr : MR) (dom : List Nat) (post : PT) : Prop :=
  ∀ (l : Launch) (ad : Nat → Nat), Met l y (.code y cc nL rt :: wtbl) (rmx d mc ms) (Px G ad args mi ml mr dom) (Qx G ad dom post) mc ms (gA G)
/-- where a method stands -/
abbrev Cx : Type := Program × Launch × Env × Room × State × MethodId × Array Value × List Frame × Method × Code × (Nat → Nat) × List Nat
def OkX (cc : ByteArray) (nL : Nat) (own nm : String) (rt : Option FieldType) (d : Nat) (G : GG) (X : Cx) : Prop := match X with
  | (p, _, _, R, s, m, args, _, meth, c, _, _) =>
    p.tables.exec = Jvm.exec ∧ c.code = cc ∧ c.maxLocals = nL ∧ s.vm.findClass own = some m.cls ∧ (∀ w ∈ wtbl, w.before args s = true) ∧ KN G s ∧ meth.locks = false ∧ meth.sig.returnType = rt ∧ meth.name = nm ∧ R.frames = d ∧ R.locals = 64 * d
def JW (nL : Nat) (G : GG) (X : Cx) (post : PT) (bc bs : Nat) (mi : MI) (ml : ML) (mr : MR) (dom : List Nat) (pc : Nat) (lv : List (Option Value)) (st : List Value) : Prop := match X with
  | (p, l, e, R, s, m, args, below, meth, c, ad0, dom0) =>
    ∀ (ad : Nat → Nat) (H : Heap) (locs : List Loc) (cells slots : Nat) (ls : Array Slot), Rel G ad mi ml mr dom H → va_S (gA G) G.2.2.1 H locs → (∀ n ∈ dom0, n ∈ dom ∧ ad n = ad0 n) → cells + bc ≤ R.cells → slots + bs ≤ R.slots → LH ad ls nL lv → okl dom lv → oks dom st →
      W p l e R s m args below meth c H locs cells slots (MQ below (Qx G ad0 dom0 post) args s R.cells R.slots (gA G)) (F0 m pc ls (st.map (rn ad)))
/-- the machine in a method, at pc, with locals lv and stack st over a memory, comes to the method's end with 'post'; bc cells and bs slots may still be made -/
def J (cc : ByteArray) (nL : Nat) (own nm : String) (rt : Option FieldType) (d : Nat) (G : GG) (X : Cx) (post : PT) (bc bs : Nat) (mi : MI) (ml : ML) (mr : MR) (dom : List Nat) (pc : Nat) (lv : List (Option Value)) (st : List Value) : Prop :=
  OkX cc nL own nm rt d G X → JW nL G X post bc bs mi ml mr dom pc lv st

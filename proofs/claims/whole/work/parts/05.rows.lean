/-! ROWS: one instruction, a row, over the flat memory -/
abbrev vst (v : Option Value) (st : List Value) : List Value := match v with
  | none => st
  | some w => w :: st
theorem okv_int (dom : List Nat) (x : Int32) : okv dom (.int x) := fun _ h => by cases h
theorem okv_long (dom : List Nat) (x : Int64) : okv dom (.long x) := fun _ h => by cases h
theorem okv_null (dom : List Nat) : okv dom .null := fun _ h => by cases h
theorem oks.t {dom : List Nat} {v : Value} {st : List Value} (h : oks dom (v :: st)) : oks dom st := fun w hw => h w (List.mem_cons_of_mem _ hw)
theorem oks.h {dom : List Nat} {v : Value} {st : List Value} (h : oks dom (v :: st)) : okv dom v := h v List.mem_cons_self
theorem oks.c {dom : List Nat} {v : Value} {st : List Value} (h1 : okv dom v) (h : oks dom st) : oks dom (v :: st) := fun w hw => by
  rcases List.mem_cons.mp hw with rfl | hw
  · exact h1
  · exact h w hw
theorem okl.at {dom : List Nat} {lv : List (Option Value)} {k : Nat} {w : Value} (h : okl dom lv) (hk : lv[k]? = some (some w)) : okv dom w := h w (List.mem_of_getElem? hk)
theorem kd_lit {n : Nat} (h : lit n) : kd n = 99 := by
  obtain ⟨h1, h2⟩ := h
  unfold kd
  rw [if_neg (by omega), if_neg (by omega), if_pos (by omega), if_neg (by omega)]
section R1
variable {cc : ByteArray} {nL : Nat} {own nm : String} {rt : Option FieldType} {d : Nat} {G : GG} {X : Cx} {post : PT} {bc bs : Nat} {mi : MI} {ml : ML} {mr : MR} {dom : List Nat} {pc : Nat} {lv : List (Option Value)} {st : List Value}
theorem j_iconst {n : Int} {v : Int32} (hd : decode cc pc = .ok (.iconst n, 1)) (hv : Int32.ofInt n = v) (k : J cc nL own nm rt d G X post bc bs mi ml mr dom (pc + 1) lv (.int v :: st)) : J cc nL own nm rt d G X post bc bs mi ml mr dom pc lv (st) := by
  obtain ⟨p, l, e, R, s, m, args, below, meth, c, ad0, dom0⟩ := X
  intro ok ad H locs cells slots ls hR hS hE hc hs hl hol hos
  exact lv_iconst ok.1 ok.2.1 hd hv (k ok ad H locs cells slots ls hR hS hE hc hs hl hol (hos.c (okv_int _ _)))
theorem j_bipush {n : Int} {v : Int32} (hd : decode cc pc = .ok (.bipush n, 2)) (hv : (Int8.ofInt n).toInt32 = v) (k : J cc nL own nm rt d G X post bc bs mi ml mr dom (pc + 2) lv (.int v :: st)) : J cc nL own nm rt d G X post bc bs mi ml mr dom pc lv (st) := by
  obtain ⟨p, l, e, R, s, m, args, below, meth, c, ad0, dom0⟩ := X
  intro ok ad H locs cells slots ls hR hS hE hc hs hl hol hos
  exact lv_bipush ok.1 ok.2.1 hd hv (k ok ad H locs cells slots ls hR hS hE hc hs hl hol (hos.c (okv_int _ _)))
theorem j_sipush {n : Int} {v : Int32} (hd : decode cc pc = .ok (.sipush n, 3)) (hv : (Int16.ofInt n).toInt32 = v) (k : J cc nL own nm rt d G X post bc bs mi ml mr dom (pc + 3) lv (.int v :: st)) : J cc nL own nm rt d G X post bc bs mi ml mr dom pc lv (st) := by
  obtain ⟨p, l, e, R, s, m, args, below, meth, c, ad0, dom0⟩ := X
  intro ok ad H locs cells slots ls hR hS hE hc hs hl hol hos
  exact lv_sipush ok.1 ok.2.1 hd hv (k ok ad H locs cells slots ls hR hS hE hc hs hl hol (hos.c (okv_int _ _)))
theorem j_lconst {n : Fin 2} {v : Int64} (hd : decode cc pc = .ok (.lconst n, 1)) (hv : Int64.ofNat (n : Nat) = v) (k : J cc nL own nm rt d G X post bc bs mi ml mr dom (pc + 1) lv (.long v :: st)) : J cc nL own nm rt d G X post bc bs mi ml mr dom pc lv (st) := by
  obtain ⟨p, l, e, R, s, m, args, below, meth, c, ad0, dom0⟩ := X
  intro ok ad H locs cells slots ls hR hS hE hc hs hl hol hos
  exact lv_lconst ok.1 ok.2.1 hd hv (k ok ad H locs cells slots ls hR hS hE hc hs hl hol (hos.c (okv_long _ _)))
theorem j_ldc {index : Nat} {v : Int32} (hw : Cond.constant own index v ∈ wtbl) (hd : decode cc pc = .ok (.ldc index, 2)) (k : J cc nL own nm rt d G X post bc bs mi ml mr dom (pc + 2) lv (.int v :: st)) : J cc nL own nm rt d G X post bc bs mi ml mr dom pc lv (st) := by
  obtain ⟨p, l, e, R, s, m, args, below, meth, c, ad0, dom0⟩ := X
  intro ok ad H locs cells slots ls hR hS hE hc hs hl hol hos
  exact lv_ldc ok.1 ok.2.1 ok.2.2.2.1 (ok.2.2.2.2.1 _ hw) hd (k ok ad H locs cells slots ls hR hS hE hc hs hl hol (hos.c (okv_int _ _)))
theorem j_ldcw {index : Nat} {v : Int32} (hw : Cond.constant own index v ∈ wtbl) (hd : decode cc pc = .ok (.ldc_w index, 3)) (k : J cc nL own nm rt d G X post bc bs mi ml mr dom (pc + 3) lv (.int v :: st)) : J cc nL own nm rt d G X post bc bs mi ml mr dom pc lv (st) := by
  obtain ⟨p, l, e, R, s, m, args, below, meth, c, ad0, dom0⟩ := X
  intro ok ad H locs cells slots ls hR hS hE hc hs hl hol hos
  exact lv_ldcw ok.1 ok.2.1 ok.2.2.2.1 (ok.2.2.2.2.1 _ hw) hd (k ok ad H locs cells slots ls hR hS hE hc hs hl hol (hos.c (okv_int _ _)))
theorem j_ldc2 {index : Nat} {v : Int64} (hw : Cond.constantLong own index v ∈ wtbl) (hd : decode cc pc = .ok (.ldc2_w index, 3)) (k : J cc nL own nm rt d G X post bc bs mi ml mr dom (pc + 3) lv (.long v :: st)) : J cc nL own nm rt d G X post bc bs mi ml mr dom pc lv (st) := by
  obtain ⟨p, l, e, R, s, m, args, below, meth, c, ad0, dom0⟩ := X
  intro ok ad H locs cells slots ls hR hS hE hc hs hl hol hos
  exact lv_ldc2 ok.1 ok.2.1 ok.2.2.2.1 (ok.2.2.2.2.1 _ hw) hd (k ok ad H locs cells slots ls hR hS hE hc hs hl hol (hos.c (okv_long _ _)))
theorem j_iload_n {k4 : Fin 4} {i : Nat} {x : Int32} (hd : decode cc pc = .ok (.iload_n k4, 1)) (hi : (k4 : Nat) = i) (hg : lv[i]? = some (some (.int x))) (k : J cc nL own nm rt d G X post bc bs mi ml mr dom (pc + 1) lv (.int x :: st)) : J cc nL own nm rt d G X post bc bs mi ml mr dom pc lv (st) := by
  obtain ⟨p, l, e, R, s, m, args, below, meth, c, ad0, dom0⟩ := X
  intro ok ad H locs cells slots ls hR hS hE hc hs hl hol hos
  exact lv_iload_n ok.1 ok.2.1 hd hi (hl.get hg) (k ok ad H locs cells slots ls hR hS hE hc hs hl hol (hos.c (hol.at hg)))
theorem j_iload {i : Nat} {x : Int32} (hd : decode cc pc = .ok (.iload i, 2)) (hg : lv[i]? = some (some (.int x))) (k : J cc nL own nm rt d G X post bc bs mi ml mr dom (pc + 2) lv (.int x :: st)) : J cc nL own nm rt d G X post bc bs mi ml mr dom pc lv (st) := by
  obtain ⟨p, l, e, R, s, m, args, below, meth, c, ad0, dom0⟩ := X
  intro ok ad H locs cells slots ls hR hS hE hc hs hl hol hos
  exact lv_iload ok.1 ok.2.1 hd (hl.get hg) (k ok ad H locs cells slots ls hR hS hE hc hs hl hol (hos.c (hol.at hg)))
theorem j_lload_n {k4 : Fin 4} {i : Nat} {x : Int64} (hd : decode cc pc = .ok (.lload_n k4, 1)) (hi : (k4 : Nat) = i) (hg : lv[i]? = some (some (.long x))) (k : J cc nL own nm rt d G X post bc bs mi ml mr dom (pc + 1) lv (.long x :: st)) : J cc nL own nm rt d G X post bc bs mi ml mr dom pc lv (st) := by
  obtain ⟨p, l, e, R, s, m, args, below, meth, c, ad0, dom0⟩ := X
  intro ok ad H locs cells slots ls hR hS hE hc hs hl hol hos
  exact lv_lload_n ok.1 ok.2.1 hd hi (hl.get hg) (k ok ad H locs cells slots ls hR hS hE hc hs hl hol (hos.c (hol.at hg)))
theorem j_lload {i : Nat} {x : Int64} (hd : decode cc pc = .ok (.lload i, 2)) (hg : lv[i]? = some (some (.long x))) (k : J cc nL own nm rt d G X post bc bs mi ml mr dom (pc + 2) lv (.long x :: st)) : J cc nL own nm rt d G X post bc bs mi ml mr dom pc lv (st) := by
  obtain ⟨p, l, e, R, s, m, args, below, meth, c, ad0, dom0⟩ := X
  intro ok ad H locs cells slots ls hR hS hE hc hs hl hol hos
  exact lv_lload ok.1 ok.2.1 hd (hl.get hg) (k ok ad H locs cells slots ls hR hS hE hc hs hl hol (hos.c (hol.at hg)))
theorem j_aload_n {k4 : Fin 4} {i : Nat} {x : Nat} (hd : decode cc pc = .ok (.aload_n k4, 1)) (hi : (k4 : Nat) = i) (hg : lv[i]? = some (some (.ref x))) (k : J cc nL own nm rt d G X post bc bs mi ml mr dom (pc + 1) lv (.ref x :: st)) : J cc nL own nm rt d G X post bc bs mi ml mr dom pc lv (st) := by
  obtain ⟨p, l, e, R, s, m, args, below, meth, c, ad0, dom0⟩ := X
  intro ok ad H locs cells slots ls hR hS hE hc hs hl hol hos
  exact lv_aload_n ok.1 ok.2.1 hd hi (hl.get hg) (k ok ad H locs cells slots ls hR hS hE hc hs hl hol (hos.c (hol.at hg)))
theorem j_aload {i : Nat} {x : Nat} (hd : decode cc pc = .ok (.aload i, 2)) (hg : lv[i]? = some (some (.ref x))) (k : J cc nL own nm rt d G X post bc bs mi ml mr dom (pc + 2) lv (.ref x :: st)) : J cc nL own nm rt d G X post bc bs mi ml mr dom pc lv (st) := by
  obtain ⟨p, l, e, R, s, m, args, below, meth, c, ad0, dom0⟩ := X
  intro ok ad H locs cells slots ls hR hS hE hc hs hl hol hos
  exact lv_aload ok.1 ok.2.1 hd (hl.get hg) (k ok ad H locs cells slots ls hR hS hE hc hs hl hol (hos.c (hol.at hg)))
theorem j_istore_n {k4 : Fin 4} {i : Nat} {x : Int32} {lv2 : List (Option Value)} (hd : decode cc pc = .ok (.istore_n k4, 1)) (hi : (k4 : Nat) = i) (hn : i < nL) (hz : nolong lv i = true) (h2 : (lv.set i (some (.int x))) = lv2) (k : J cc nL own nm rt d G X post bc bs mi ml mr dom (pc + 1) lv2 st) : J cc nL own nm rt d G X post bc bs mi ml mr dom pc lv (.int x :: st) := by
  subst h2
  obtain ⟨p, l, e, R, s, m, args, below, meth, c, ad0, dom0⟩ := X
  intro ok ad H locs cells slots ls hR hS hE hc hs hl hol hos
  exact lv_istore_n ok.1 ok.2.1 hd hi hl hn rfl (fun ls hl2 => k ok ad H locs cells slots ls hR hS hE hc hs (LH.store (v := .int x) hz hl2) (hol.set hos.h) hos.t)
theorem j_istore {i : Nat} {x : Int32} {lv2 : List (Option Value)} (hd : decode cc pc = .ok (.istore i, 2)) (hn : i < nL) (hz : nolong lv i = true) (h2 : (lv.set i (some (.int x))) = lv2) (k : J cc nL own nm rt d G X post bc bs mi ml mr dom (pc + 2) lv2 st) : J cc nL own nm rt d G X post bc bs mi ml mr dom pc lv (.int x :: st) := by
  subst h2
  obtain ⟨p, l, e, R, s, m, args, below, meth, c, ad0, dom0⟩ := X
  intro ok ad H locs cells slots ls hR hS hE hc hs hl hol hos
  exact lv_istore ok.1 ok.2.1 hd hl hn rfl (fun ls hl2 => k ok ad H locs cells slots ls hR hS hE hc hs (LH.store (v := .int x) hz hl2) (hol.set hos.h) hos.t)
theorem j_lstore_n {k4 : Fin 4} {i : Nat} {x : Int64} {lv2 : List (Option Value)} (hd : decode cc pc = .ok (.lstore_n k4, 1)) (hi : (k4 : Nat) = i) (hn : i + 1 < nL) (hz : nolong lv i = true) (h2 : ((lv.set i (some (.long x))).set (i + 1) none) = lv2) (k : J cc nL own nm rt d G X post bc bs mi ml mr dom (pc + 1) lv2 st) : J cc nL own nm rt d G X post bc bs mi ml mr dom pc lv (.long x :: st) := by
  subst h2
  obtain ⟨p, l, e, R, s, m, args, below, meth, c, ad0, dom0⟩ := X
  intro ok ad H locs cells slots ls hR hS hE hc hs hl hol hos
  exact lv_lstore_n ok.1 ok.2.1 hd hi hl hn rfl (fun ls hl2 => k ok ad H locs cells slots ls hR hS hE hc hs (LH.store2 (v := .long x) hz hl2) (okl.setn (hol.set hos.h)) hos.t)
theorem j_lstore {i : Nat} {x : Int64} {lv2 : List (Option Value)} (hd : decode cc pc = .ok (.lstore i, 2)) (hn : i + 1 < nL) (hz : nolong lv i = true) (h2 : ((lv.set i (some (.long x))).set (i + 1) none) = lv2) (k : J cc nL own nm rt d G X post bc bs mi ml mr dom (pc + 2) lv2 st) : J cc nL own nm rt d G X post bc bs mi ml mr dom pc lv (.long x :: st) := by
  subst h2
  obtain ⟨p, l, e, R, s, m, args, below, meth, c, ad0, dom0⟩ := X
  intro ok ad H locs cells slots ls hR hS hE hc hs hl hol hos
  exact lv_lstore ok.1 ok.2.1 hd hl hn rfl (fun ls hl2 => k ok ad H locs cells slots ls hR hS hE hc hs (LH.store2 (v := .long x) hz hl2) (okl.setn (hol.set hos.h)) hos.t)
theorem j_astore_n {k4 : Fin 4} {i : Nat} {x : Nat} {lv2 : List (Option Value)} (hd : decode cc pc = .ok (.astore_n k4, 1)) (hi : (k4 : Nat) = i) (hn : i < nL) (hz : nolong lv i = true) (h2 : (lv.set i (some (.ref x))) = lv2) (k : J cc nL own nm rt d G X post bc bs mi ml mr dom (pc + 1) lv2 st) : J cc nL own nm rt d G X post bc bs mi ml mr dom pc lv (.ref x :: st) := by
  subst h2
  obtain ⟨p, l, e, R, s, m, args, below, meth, c, ad0, dom0⟩ := X
  intro ok ad H locs cells slots ls hR hS hE hc hs hl hol hos
  exact lv_astore_n ok.1 ok.2.1 hd hi hl hn rfl (fun ls hl2 => k ok ad H locs cells slots ls hR hS hE hc hs (LH.store (v := .ref x) hz hl2) (hol.set hos.h) hos.t)
theorem j_astore {i : Nat} {x : Nat} {lv2 : List (Option Value)} (hd : decode cc pc = .ok (.astore i, 2)) (hn : i < nL) (hz : nolong lv i = true) (h2 : (lv.set i (some (.ref x))) = lv2) (k : J cc nL own nm rt d G X post bc bs mi ml mr dom (pc + 2) lv2 st) : J cc nL own nm rt d G X post bc bs mi ml mr dom pc lv (.ref x :: st) := by
  subst h2
  obtain ⟨p, l, e, R, s, m, args, below, meth, c, ad0, dom0⟩ := X
  intro ok ad H locs cells slots ls hR hS hE hc hs hl hol hos
  exact lv_astore ok.1 ok.2.1 hd hl hn rfl (fun ls hl2 => k ok ad H locs cells slots ls hR hS hE hc hs (LH.store (v := .ref x) hz hl2) (hol.set hos.h) hos.t)
theorem j_iinc {i : Nat} {n : Int} {x v : Int32} {lv2 : List (Option Value)} (hd : decode cc pc = .ok (.iinc i n, 3)) (hg : lv[i]? = some (some (.int x))) (hv : x + Int32.ofInt n = v) (hn : i < nL) (hz : nolong lv i = true) (h2 : lv.set i (some (.int v)) = lv2) (k : J cc nL own nm rt d G X post bc bs mi ml mr dom (pc + 3) lv2 st) : J cc nL own nm rt d G X post bc bs mi ml mr dom pc lv st := by
  subst h2
  obtain ⟨p, l, e, R, s, m, args, below, meth, c, ad0, dom0⟩ := X
  intro ok ad H locs cells slots ls hR hS hE hc hs hl hol hos
  obtain ⟨q, hq⟩ := List.getElem?_of_mem (lvl_mem (ad := ad) hg)
  exact lv_iinc ok.1 ok.2.1 hd hl hq hv hn rfl (fun ls hl2 => k ok ad H locs cells slots ls hR hS hE hc hs (LH.store (v := .int v) hz hl2) (hol.set (okv_int _ _)) hos)
theorem j_iadd {x y : Int32} (hd : decode cc pc = .ok (.iadd, 1)) (k : J cc nL own nm rt d G X post bc bs mi ml mr dom (pc + 1) lv (.int (x + y) :: st)) : J cc nL own nm rt d G X post bc bs mi ml mr dom pc lv (.int y :: .int x :: st) := by
  obtain ⟨p, l, e, R, s, m, args, below, meth, c, ad0, dom0⟩ := X
  intro ok ad H locs cells slots ls hR hS hE hc hs hl hol hos
  exact lv_iadd ok.1 ok.2.1 hd (k ok ad H locs cells slots ls hR hS hE hc hs hl hol (hos.t.t.c (okv_int _ _)))
theorem j_isub {x y : Int32} (hd : decode cc pc = .ok (.isub, 1)) (k : J cc nL own nm rt d G X post bc bs mi ml mr dom (pc + 1) lv (.int (x - y) :: st)) : J cc nL own nm rt d G X post bc bs mi ml mr dom pc lv (.int y :: .int x :: st) := by
  obtain ⟨p, l, e, R, s, m, args, below, meth, c, ad0, dom0⟩ := X
  intro ok ad H locs cells slots ls hR hS hE hc hs hl hol hos
  exact lv_isub ok.1 ok.2.1 hd (k ok ad H locs cells slots ls hR hS hE hc hs hl hol (hos.t.t.c (okv_int _ _)))
theorem j_imul {x y : Int32} (hd : decode cc pc = .ok (.imul, 1)) (k : J cc nL own nm rt d G X post bc bs mi ml mr dom (pc + 1) lv (.int (x * y) :: st)) : J cc nL own nm rt d G X post bc bs mi ml mr dom pc lv (.int y :: .int x :: st) := by
  obtain ⟨p, l, e, R, s, m, args, below, meth, c, ad0, dom0⟩ := X
  intro ok ad H locs cells slots ls hR hS hE hc hs hl hol hos
  exact lv_imul ok.1 ok.2.1 hd (k ok ad H locs cells slots ls hR hS hE hc hs hl hol (hos.t.t.c (okv_int _ _)))
theorem j_iand {x y : Int32} (hd : decode cc pc = .ok (.iand, 1)) (k : J cc nL own nm rt d G X post bc bs mi ml mr dom (pc + 1) lv (.int (x &&& y) :: st)) : J cc nL own nm rt d G X post bc bs mi ml mr dom pc lv (.int y :: .int x :: st) := by
  obtain ⟨p, l, e, R, s, m, args, below, meth, c, ad0, dom0⟩ := X
  intro ok ad H locs cells slots ls hR hS hE hc hs hl hol hos
  exact lv_iand ok.1 ok.2.1 hd (k ok ad H locs cells slots ls hR hS hE hc hs hl hol (hos.t.t.c (okv_int _ _)))
theorem j_ior {x y : Int32} (hd : decode cc pc = .ok (.ior, 1)) (k : J cc nL own nm rt d G X post bc bs mi ml mr dom (pc + 1) lv (.int (x ||| y) :: st)) : J cc nL own nm rt d G X post bc bs mi ml mr dom pc lv (.int y :: .int x :: st) := by
  obtain ⟨p, l, e, R, s, m, args, below, meth, c, ad0, dom0⟩ := X
  intro ok ad H locs cells slots ls hR hS hE hc hs hl hol hos
  exact lv_ior ok.1 ok.2.1 hd (k ok ad H locs cells slots ls hR hS hE hc hs hl hol (hos.t.t.c (okv_int _ _)))
theorem j_ixor {x y : Int32} (hd : decode cc pc = .ok (.ixor, 1)) (k : J cc nL own nm rt d G X post bc bs mi ml mr dom (pc + 1) lv (.int (x ^^^ y) :: st)) : J cc nL own nm rt d G X post bc bs mi ml mr dom pc lv (.int y :: .int x :: st) := by
  obtain ⟨p, l, e, R, s, m, args, below, meth, c, ad0, dom0⟩ := X
  intro ok ad H locs cells slots ls hR hS hE hc hs hl hol hos
  exact lv_ixor ok.1 ok.2.1 hd (k ok ad H locs cells slots ls hR hS hE hc hs hl hol (hos.t.t.c (okv_int _ _)))
theorem j_ishl {x y : Int32} (hd : decode cc pc = .ok (.ishl, 1)) (k : J cc nL own nm rt d G X post bc bs mi ml mr dom (pc + 1) lv (.int (x <<< (y &&& 31)) :: st)) : J cc nL own nm rt d G X post bc bs mi ml mr dom pc lv (.int y :: .int x :: st) := by
  obtain ⟨p, l, e, R, s, m, args, below, meth, c, ad0, dom0⟩ := X
  intro ok ad H locs cells slots ls hR hS hE hc hs hl hol hos
  exact lv_ishl ok.1 ok.2.1 hd (k ok ad H locs cells slots ls hR hS hE hc hs hl hol (hos.t.t.c (okv_int _ _)))
theorem j_ishr {x y : Int32} (hd : decode cc pc = .ok (.ishr, 1)) (k : J cc nL own nm rt d G X post bc bs mi ml mr dom (pc + 1) lv (.int (x >>> (y &&& 31)) :: st)) : J cc nL own nm rt d G X post bc bs mi ml mr dom pc lv (.int y :: .int x :: st) := by
  obtain ⟨p, l, e, R, s, m, args, below, meth, c, ad0, dom0⟩ := X
  intro ok ad H locs cells slots ls hR hS hE hc hs hl hol hos
  exact lv_ishr ok.1 ok.2.1 hd (k ok ad H locs cells slots ls hR hS hE hc hs hl hol (hos.t.t.c (okv_int _ _)))
theorem j_idiv {x y : Int32} (hd : decode cc pc = .ok (.idiv, 1)) (hne : ¬ y = 0) (k : J cc nL own nm rt d G X post bc bs mi ml mr dom (pc + 1) lv (.int (x / y) :: st)) : J cc nL own nm rt d G X post bc bs mi ml mr dom pc lv (.int y :: .int x :: st) := by
  obtain ⟨p, l, e, R, s, m, args, below, meth, c, ad0, dom0⟩ := X
  intro ok ad H locs cells slots ls hR hS hE hc hs hl hol hos
  exact lv_idiv ok.1 ok.2.1 hd hne (k ok ad H locs cells slots ls hR hS hE hc hs hl hol (hos.t.t.c (okv_int _ _)))
theorem j_irem {x y : Int32} (hd : decode cc pc = .ok (.irem, 1)) (hne : ¬ y = 0) (k : J cc nL own nm rt d G X post bc bs mi ml mr dom (pc + 1) lv (.int (x - x / y * y) :: st)) : J cc nL own nm rt d G X post bc bs mi ml mr dom pc lv (.int y :: .int x :: st) := by
  obtain ⟨p, l, e, R, s, m, args, below, meth, c, ad0, dom0⟩ := X
  intro ok ad H locs cells slots ls hR hS hE hc hs hl hol hos
  exact lv_irem ok.1 ok.2.1 hd hne (k ok ad H locs cells slots ls hR hS hE hc hs hl hol (hos.t.t.c (okv_int _ _)))
theorem j_ladd {x y : Int64} (hd : decode cc pc = .ok (.ladd, 1)) (k : J cc nL own nm rt d G X post bc bs mi ml mr dom (pc + 1) lv (.long (x + y) :: st)) : J cc nL own nm rt d G X post bc bs mi ml mr dom pc lv (.long y :: .long x :: st) := by
  obtain ⟨p, l, e, R, s, m, args, below, meth, c, ad0, dom0⟩ := X
  intro ok ad H locs cells slots ls hR hS hE hc hs hl hol hos
  exact lv_ladd ok.1 ok.2.1 hd (k ok ad H locs cells slots ls hR hS hE hc hs hl hol (hos.t.t.c (okv_long _ _)))
theorem j_lsub {x y : Int64} (hd : decode cc pc = .ok (.lsub, 1)) (k : J cc nL own nm rt d G X post bc bs mi ml mr dom (pc + 1) lv (.long (x - y) :: st)) : J cc nL own nm rt d G X post bc bs mi ml mr dom pc lv (.long y :: .long x :: st) := by
  obtain ⟨p, l, e, R, s, m, args, below, meth, c, ad0, dom0⟩ := X
  intro ok ad H locs cells slots ls hR hS hE hc hs hl hol hos
  exact lv_lsub ok.1 ok.2.1 hd (k ok ad H locs cells slots ls hR hS hE hc hs hl hol (hos.t.t.c (okv_long _ _)))
theorem j_lmul {x y : Int64} (hd : decode cc pc = .ok (.lmul, 1)) (k : J cc nL own nm rt d G X post bc bs mi ml mr dom (pc + 1) lv (.long (x * y) :: st)) : J cc nL own nm rt d G X post bc bs mi ml mr dom pc lv (.long y :: .long x :: st) := by
  obtain ⟨p, l, e, R, s, m, args, below, meth, c, ad0, dom0⟩ := X
  intro ok ad H locs cells slots ls hR hS hE hc hs hl hol hos
  exact lv_lmul ok.1 ok.2.1 hd (k ok ad H locs cells slots ls hR hS hE hc hs hl hol (hos.t.t.c (okv_long _ _)))
theorem j_land {x y : Int64} (hd : decode cc pc = .ok (.land, 1)) (k : J cc nL own nm rt d G X post bc bs mi ml mr dom (pc + 1) lv (.long (x &&& y) :: st)) : J cc nL own nm rt d G X post bc bs mi ml mr dom pc lv (.long y :: .long x :: st) := by
  obtain ⟨p, l, e, R, s, m, args, below, meth, c, ad0, dom0⟩ := X
  intro ok ad H locs cells slots ls hR hS hE hc hs hl hol hos
  exact lv_land ok.1 ok.2.1 hd (k ok ad H locs cells slots ls hR hS hE hc hs hl hol (hos.t.t.c (okv_long _ _)))
theorem j_lrem {x y : Int64} (hd : decode cc pc = .ok (.lrem, 1)) (hne : ¬ y = 0) (k : J cc nL own nm rt d G X post bc bs mi ml mr dom (pc + 1) lv (.long (x - x / y * y) :: st)) : J cc nL own nm rt d G X post bc bs mi ml mr dom pc lv (.long y :: .long x :: st) := by
  obtain ⟨p, l, e, R, s, m, args, below, meth, c, ad0, dom0⟩ := X
  intro ok ad H locs cells slots ls hR hS hE hc hs hl hol hos
  exact lv_lrem ok.1 ok.2.1 hd hne (k ok ad H locs cells slots ls hR hS hE hc hs hl hol (hos.t.t.c (okv_long _ _)))
theorem j_lshr {x : Int64} {y : Int32} (hd : decode cc pc = .ok (.lshr, 1)) (k : J cc nL own nm rt d G X post bc bs mi ml mr dom (pc + 1) lv (.long (x >>> (y.toInt64 &&& 63)) :: st)) : J cc nL own nm rt d G X post bc bs mi ml mr dom pc lv (.int y :: .long x :: st) := by
  obtain ⟨p, l, e, R, s, m, args, below, meth, c, ad0, dom0⟩ := X
  intro ok ad H locs cells slots ls hR hS hE hc hs hl hol hos
  exact lv_lshr ok.1 ok.2.1 hd rfl (k ok ad H locs cells slots ls hR hS hE hc hs hl hol (hos.t.t.c (okv_long _ _)))
theorem j_iushr {x y : Int32} (hd : decode cc pc = .ok (.iushr, 1)) (k : J cc nL own nm rt d G X post bc bs mi ml mr dom (pc + 1) lv (.int (x.toUInt32 >>> (y.toUInt32 &&& Int32.toUInt32 31)).toInt32 :: st)) : J cc nL own nm rt d G X post bc bs mi ml mr dom pc lv (.int y :: .int x :: st) := by
  obtain ⟨p, l, e, R, s, m, args, below, meth, c, ad0, dom0⟩ := X
  intro ok ad H locs cells slots ls hR hS hE hc hs hl hol hos
  exact lv_iushr ok.1 ok.2.1 hd rfl (k ok ad H locs cells slots ls hR hS hE hc hs hl hol (hos.t.t.c (okv_int _ _)))
theorem j_lcmp {x y : Int64} (hd : decode cc pc = .ok (.lcmp, 1)) (k : J cc nL own nm rt d G X post bc bs mi ml mr dom (pc + 1) lv (.int (lg_cmp x y) :: st)) : J cc nL own nm rt d G X post bc bs mi ml mr dom pc lv (.long y :: .long x :: st) := by
  obtain ⟨p, l, e, R, s, m, args, below, meth, c, ad0, dom0⟩ := X
  intro ok ad H locs cells slots ls hR hS hE hc hs hl hol hos
  exact W.lcmp ok.1 ok.2.1 hd (k ok ad H locs cells slots ls hR hS hE hc hs hl hol (hos.t.t.c (okv_int _ _)))
theorem j_i2l {x : Int32} (hd : decode cc pc = .ok (.i2l, 1)) (k : J cc nL own nm rt d G X post bc bs mi ml mr dom (pc + 1) lv (.long x.toInt64 :: st)) : J cc nL own nm rt d G X post bc bs mi ml mr dom pc lv (.int x :: st) := by
  obtain ⟨p, l, e, R, s, m, args, below, meth, c, ad0, dom0⟩ := X
  intro ok ad H locs cells slots ls hR hS hE hc hs hl hol hos
  exact lv_i2l ok.1 ok.2.1 hd rfl (k ok ad H locs cells slots ls hR hS hE hc hs hl hol (hos.t.c (okv_long _ _)))
theorem j_l2i {x : Int64} (hd : decode cc pc = .ok (.l2i, 1)) (k : J cc nL own nm rt d G X post bc bs mi ml mr dom (pc + 1) lv (.int x.toInt32 :: st)) : J cc nL own nm rt d G X post bc bs mi ml mr dom pc lv (.long x :: st) := by
  obtain ⟨p, l, e, R, s, m, args, below, meth, c, ad0, dom0⟩ := X
  intro ok ad H locs cells slots ls hR hS hE hc hs hl hol hos
  exact lv_l2i ok.1 ok.2.1 hd rfl (k ok ad H locs cells slots ls hR hS hE hc hs hl hol (hos.t.c (okv_int _ _)))
theorem j_i2b {x : Int32} (hd : decode cc pc = .ok (.i2b, 1)) (k : J cc nL own nm rt d G X post bc bs mi ml mr dom (pc + 1) lv (.int x.toInt8.toInt32 :: st)) : J cc nL own nm rt d G X post bc bs mi ml mr dom pc lv (.int x :: st) := by
  obtain ⟨p, l, e, R, s, m, args, below, meth, c, ad0, dom0⟩ := X
  intro ok ad H locs cells slots ls hR hS hE hc hs hl hol hos
  exact lv_i2b ok.1 ok.2.1 hd rfl (k ok ad H locs cells slots ls hR hS hE hc hs hl hol (hos.t.c (okv_int _ _)))
theorem j_dup {v : Value} (hd : decode cc pc = .ok (.dup, 1)) (hv : v.category = 1) (k : J cc nL own nm rt d G X post bc bs mi ml mr dom (pc + 1) lv (v :: v :: st)) : J cc nL own nm rt d G X post bc bs mi ml mr dom pc lv (v :: st) := by
  obtain ⟨p, l, e, R, s, m, args, below, meth, c, ad0, dom0⟩ := X
  intro ok ad H locs cells slots ls hR hS hE hc hs hl hol hos
  exact lv_dup ok.1 ok.2.1 hd ((rn_cat ad v).trans hv) (k ok ad H locs cells slots ls hR hS hE hc hs hl hol (hos.c hos.h))
theorem j_pop {v : Value} (hd : decode cc pc = .ok (.pop, 1)) (hv : v.category = 1) (k : J cc nL own nm rt d G X post bc bs mi ml mr dom (pc + 1) lv (st)) : J cc nL own nm rt d G X post bc bs mi ml mr dom pc lv (v :: st) := by
  obtain ⟨p, l, e, R, s, m, args, below, meth, c, ad0, dom0⟩ := X
  intro ok ad H locs cells slots ls hR hS hE hc hs hl hol hos
  exact lv_pop ok.1 ok.2.1 hd ((rn_cat ad v).trans hv) (k ok ad H locs cells slots ls hR hS hE hc hs hl hol (hos.t))
theorem j_dup2 {v w : Value} (hd : decode cc pc = .ok (.dup2, 1)) (hv : v.category = 1) (hw : w.category = 1) (k : J cc nL own nm rt d G X post bc bs mi ml mr dom (pc + 1) lv (v :: w :: v :: w :: st)) : J cc nL own nm rt d G X post bc bs mi ml mr dom pc lv (v :: w :: st) := by
  obtain ⟨p, l, e, R, s, m, args, below, meth, c, ad0, dom0⟩ := X
  intro ok ad H locs cells slots ls hR hS hE hc hs hl hol hos
  exact lv_dup2_11 ok.1 ok.2.1 hd ((rn_cat ad v).trans hv) ((rn_cat ad w).trans hw) (k ok ad H locs cells slots ls hR hS hE hc hs hl hol ((hos.c hos.t.h).c hos.h))
theorem j_goto {off : Int} {tgt : Nat} (hd : decode cc pc = .ok (.goto off, 3)) (ht : (pc : Int) + off = (tgt : Int)) (k : J cc nL own nm rt d G X post bc bs mi ml mr dom tgt lv st) : J cc nL own nm rt d G X post bc bs mi ml mr dom pc lv st := by
  obtain ⟨p, l, e, R, s, m, args, below, meth, c, ad0, dom0⟩ := X
  intro ok ad H locs cells slots ls hR hS hE hc hs hl hol hos
  exact lv_goto ok.1 ok.2.1 hd ht (k ok ad H locs cells slots ls hR hS hE hc hs hl hol (hos))
theorem j_if_eq {x : Int32} {off : Int} {tgt : Nat} (hd : decode cc pc = .ok (.ifCond .eq off, 3)) (ht : (pc : Int) + off = (tgt : Int)) (kt : x = 0 → J cc nL own nm rt d G X post bc bs mi ml mr dom tgt lv st) (kf : ¬ x = 0 → J cc nL own nm rt d G X post bc bs mi ml mr dom (pc + 3) lv st) : J cc nL own nm rt d G X post bc bs mi ml mr dom pc lv (.int x :: st) := by
  obtain ⟨p, l, e, R, s, m, args, below, meth, c, ad0, dom0⟩ := X
  intro ok ad H locs cells slots ls hR hS hE hc hs hl hol hos
  exact lv_if_eq ok.1 ok.2.1 hd ht (fun q => kt q ok ad H locs cells slots ls hR hS hE hc hs hl hol hos.t) (fun q => kf q ok ad H locs cells slots ls hR hS hE hc hs hl hol hos.t)
theorem j_icmp_eq {x y : Int32} {off : Int} {tgt : Nat} (hd : decode cc pc = .ok (.if_icmp .eq off, 3)) (ht : (pc : Int) + off = (tgt : Int)) (kt : x = y → J cc nL own nm rt d G X post bc bs mi ml mr dom tgt lv st) (kf : ¬ x = y → J cc nL own nm rt d G X post bc bs mi ml mr dom (pc + 3) lv st) : J cc nL own nm rt d G X post bc bs mi ml mr dom pc lv (.int y :: .int x :: st) := by
  obtain ⟨p, l, e, R, s, m, args, below, meth, c, ad0, dom0⟩ := X
  intro ok ad H locs cells slots ls hR hS hE hc hs hl hol hos
  exact lv_icmp_eq ok.1 ok.2.1 hd ht (fun q => kt q ok ad H locs cells slots ls hR hS hE hc hs hl hol hos.t.t) (fun q => kf q ok ad H locs cells slots ls hR hS hE hc hs hl hol hos.t.t)
theorem j_if_ne {x : Int32} {off : Int} {tgt : Nat} (hd : decode cc pc = .ok (.ifCond .ne off, 3)) (ht : (pc : Int) + off = (tgt : Int)) (kt : ¬ x = 0 → J cc nL own nm rt d G X post bc bs mi ml mr dom tgt lv st) (kf : x = 0 → J cc nL own nm rt d G X post bc bs mi ml mr dom (pc + 3) lv st) : J cc nL own nm rt d G X post bc bs mi ml mr dom pc lv (.int x :: st) := by
  obtain ⟨p, l, e, R, s, m, args, below, meth, c, ad0, dom0⟩ := X
  intro ok ad H locs cells slots ls hR hS hE hc hs hl hol hos
  exact lv_if_ne ok.1 ok.2.1 hd ht (fun q => kt q ok ad H locs cells slots ls hR hS hE hc hs hl hol hos.t) (fun q => kf q ok ad H locs cells slots ls hR hS hE hc hs hl hol hos.t)
theorem j_icmp_ne {x y : Int32} {off : Int} {tgt : Nat} (hd : decode cc pc = .ok (.if_icmp .ne off, 3)) (ht : (pc : Int) + off = (tgt : Int)) (kt : ¬ x = y → J cc nL own nm rt d G X post bc bs mi ml mr dom tgt lv st) (kf : x = y → J cc nL own nm rt d G X post bc bs mi ml mr dom (pc + 3) lv st) : J cc nL own nm rt d G X post bc bs mi ml mr dom pc lv (.int y :: .int x :: st) := by
  obtain ⟨p, l, e, R, s, m, args, below, meth, c, ad0, dom0⟩ := X
  intro ok ad H locs cells slots ls hR hS hE hc hs hl hol hos
  exact lv_icmp_ne ok.1 ok.2.1 hd ht (fun q => kt q ok ad H locs cells slots ls hR hS hE hc hs hl hol hos.t.t) (fun q => kf q ok ad H locs cells slots ls hR hS hE hc hs hl hol hos.t.t)
theorem j_if_lt {x : Int32} {off : Int} {tgt : Nat} (hd : decode cc pc = .ok (.ifCond .lt off, 3)) (ht : (pc : Int) + off = (tgt : Int)) (kt : x < 0 → J cc nL own nm rt d G X post bc bs mi ml mr dom tgt lv st) (kf : ¬ x < 0 → J cc nL own nm rt d G X post bc bs mi ml mr dom (pc + 3) lv st) : J cc nL own nm rt d G X post bc bs mi ml mr dom pc lv (.int x :: st) := by
  obtain ⟨p, l, e, R, s, m, args, below, meth, c, ad0, dom0⟩ := X
  intro ok ad H locs cells slots ls hR hS hE hc hs hl hol hos
  exact lv_if_lt ok.1 ok.2.1 hd ht (fun q => kt q ok ad H locs cells slots ls hR hS hE hc hs hl hol hos.t) (fun q => kf q ok ad H locs cells slots ls hR hS hE hc hs hl hol hos.t)
theorem j_icmp_lt {x y : Int32} {off : Int} {tgt : Nat} (hd : decode cc pc = .ok (.if_icmp .lt off, 3)) (ht : (pc : Int) + off = (tgt : Int)) (kt : x < y → J cc nL own nm rt d G X post bc bs mi ml mr dom tgt lv st) (kf : ¬ x < y → J cc nL own nm rt d G X post bc bs mi ml mr dom (pc + 3) lv st) : J cc nL own nm rt d G X post bc bs mi ml mr dom pc lv (.int y :: .int x :: st) := by
  obtain ⟨p, l, e, R, s, m, args, below, meth, c, ad0, dom0⟩ := X
  intro ok ad H locs cells slots ls hR hS hE hc hs hl hol hos
  exact lv_icmp_lt ok.1 ok.2.1 hd ht (fun q => kt q ok ad H locs cells slots ls hR hS hE hc hs hl hol hos.t.t) (fun q => kf q ok ad H locs cells slots ls hR hS hE hc hs hl hol hos.t.t)
theorem j_if_ge {x : Int32} {off : Int} {tgt : Nat} (hd : decode cc pc = .ok (.ifCond .ge off, 3)) (ht : (pc : Int) + off = (tgt : Int)) (kt : 0 ≤ x → J cc nL own nm rt d G X post bc bs mi ml mr dom tgt lv st) (kf : ¬ 0 ≤ x → J cc nL own nm rt d G X post bc bs mi ml mr dom (pc + 3) lv st) : J cc nL own nm rt d G X post bc bs mi ml mr dom pc lv (.int x :: st) := by
  obtain ⟨p, l, e, R, s, m, args, below, meth, c, ad0, dom0⟩ := X
  intro ok ad H locs cells slots ls hR hS hE hc hs hl hol hos
  exact lv_if_ge ok.1 ok.2.1 hd ht (fun q => kt q ok ad H locs cells slots ls hR hS hE hc hs hl hol hos.t) (fun q => kf q ok ad H locs cells slots ls hR hS hE hc hs hl hol hos.t)
theorem j_icmp_ge {x y : Int32} {off : Int} {tgt : Nat} (hd : decode cc pc = .ok (.if_icmp .ge off, 3)) (ht : (pc : Int) + off = (tgt : Int)) (kt : y ≤ x → J cc nL own nm rt d G X post bc bs mi ml mr dom tgt lv st) (kf : ¬ y ≤ x → J cc nL own nm rt d G X post bc bs mi ml mr dom (pc + 3) lv st) : J cc nL own nm rt d G X post bc bs mi ml mr dom pc lv (.int y :: .int x :: st) := by
  obtain ⟨p, l, e, R, s, m, args, below, meth, c, ad0, dom0⟩ := X
  intro ok ad H locs cells slots ls hR hS hE hc hs hl hol hos
  exact lv_icmp_ge ok.1 ok.2.1 hd ht (fun q => kt q ok ad H locs cells slots ls hR hS hE hc hs hl hol hos.t.t) (fun q => kf q ok ad H locs cells slots ls hR hS hE hc hs hl hol hos.t.t)
theorem j_if_gt {x : Int32} {off : Int} {tgt : Nat} (hd : decode cc pc = .ok (.ifCond .gt off, 3)) (ht : (pc : Int) + off = (tgt : Int)) (kt : 0 < x → J cc nL own nm rt d G X post bc bs mi ml mr dom tgt lv st) (kf : ¬ 0 < x → J cc nL own nm rt d G X post bc bs mi ml mr dom (pc + 3) lv st) : J cc nL own nm rt d G X post bc bs mi ml mr dom pc lv (.int x :: st) := by
  obtain ⟨p, l, e, R, s, m, args, below, meth, c, ad0, dom0⟩ := X
  intro ok ad H locs cells slots ls hR hS hE hc hs hl hol hos
  exact lv_if_gt ok.1 ok.2.1 hd ht (fun q => kt q ok ad H locs cells slots ls hR hS hE hc hs hl hol hos.t) (fun q => kf q ok ad H locs cells slots ls hR hS hE hc hs hl hol hos.t)
theorem j_icmp_gt {x y : Int32} {off : Int} {tgt : Nat} (hd : decode cc pc = .ok (.if_icmp .gt off, 3)) (ht : (pc : Int) + off = (tgt : Int)) (kt : y < x → J cc nL own nm rt d G X post bc bs mi ml mr dom tgt lv st) (kf : ¬ y < x → J cc nL own nm rt d G X post bc bs mi ml mr dom (pc + 3) lv st) : J cc nL own nm rt d G X post bc bs mi ml mr dom pc lv (.int y :: .int x :: st) := by
  obtain ⟨p, l, e, R, s, m, args, below, meth, c, ad0, dom0⟩ := X
  intro ok ad H locs cells slots ls hR hS hE hc hs hl hol hos
  exact lv_icmp_gt ok.1 ok.2.1 hd ht (fun q => kt q ok ad H locs cells slots ls hR hS hE hc hs hl hol hos.t.t) (fun q => kf q ok ad H locs cells slots ls hR hS hE hc hs hl hol hos.t.t)
theorem j_if_le {x : Int32} {off : Int} {tgt : Nat} (hd : decode cc pc = .ok (.ifCond .le off, 3)) (ht : (pc : Int) + off = (tgt : Int)) (kt : x ≤ 0 → J cc nL own nm rt d G X post bc bs mi ml mr dom tgt lv st) (kf : ¬ x ≤ 0 → J cc nL own nm rt d G X post bc bs mi ml mr dom (pc + 3) lv st) : J cc nL own nm rt d G X post bc bs mi ml mr dom pc lv (.int x :: st) := by
  obtain ⟨p, l, e, R, s, m, args, below, meth, c, ad0, dom0⟩ := X
  intro ok ad H locs cells slots ls hR hS hE hc hs hl hol hos
  exact lv_if_le ok.1 ok.2.1 hd ht (fun q => kt q ok ad H locs cells slots ls hR hS hE hc hs hl hol hos.t) (fun q => kf q ok ad H locs cells slots ls hR hS hE hc hs hl hol hos.t)
theorem j_icmp_le {x y : Int32} {off : Int} {tgt : Nat} (hd : decode cc pc = .ok (.if_icmp .le off, 3)) (ht : (pc : Int) + off = (tgt : Int)) (kt : x ≤ y → J cc nL own nm rt d G X post bc bs mi ml mr dom tgt lv st) (kf : ¬ x ≤ y → J cc nL own nm rt d G X post bc bs mi ml mr dom (pc + 3) lv st) : J cc nL own nm rt d G X post bc bs mi ml mr dom pc lv (.int y :: .int x :: st) := by
  obtain ⟨p, l, e, R, s, m, args, below, meth, c, ad0, dom0⟩ := X
  intro ok ad H locs cells slots ls hR hS hE hc hs hl hol hos
  exact lv_icmp_le ok.1 ok.2.1 hd ht (fun q => kt q ok ad H locs cells slots ls hR hS hE hc hs hl hol hos.t.t) (fun q => kf q ok ad H locs cells slots ls hR hS hE hc hs hl hol hos.t.t)
theorem j_ifnonnull {x : Nat} {off : Int} {tgt : Nat} (hd : decode cc pc = .ok (.ifnonnull off, 3)) (ht : (pc : Int) + off = (tgt : Int)) (k : J cc nL own nm rt d G X post bc bs mi ml mr dom tgt lv st) : J cc nL own nm rt d G X post bc bs mi ml mr dom pc lv (.ref x :: st) := by
  obtain ⟨p, l, e, R, s, m, args, below, meth, c, ad0, dom0⟩ := X
  intro ok ad H locs cells slots ls hR hS hE hc hs hl hol hos
  exact lv_ifnonnull ok.1 ok.2.1 hd ht (k ok ad H locs cells slots ls hR hS hE hc hs hl hol (hos.t))
theorem j_ifnonnullN {off : Int} (hd : decode cc pc = .ok (.ifnonnull off, 3)) (k : J cc nL own nm rt d G X post bc bs mi ml mr dom (pc + 3) lv st) : J cc nL own nm rt d G X post bc bs mi ml mr dom pc lv (.null :: st) := by
  obtain ⟨p, l, e, R, s, m, args, below, meth, c, ad0, dom0⟩ := X
  intro ok ad H locs cells slots ls hR hS hE hc hs hl hol hos
  exact lv_ifnonnullN ok.1 ok.2.1 hd (k ok ad H locs cells slots ls hR hS hE hc hs hl hol (hos.t))
theorem j_ifnull {x : Nat} {off : Int} (hd : decode cc pc = .ok (.ifnull off, 3)) (k : J cc nL own nm rt d G X post bc bs mi ml mr dom (pc + 3) lv st) : J cc nL own nm rt d G X post bc bs mi ml mr dom pc lv (.ref x :: st) := by
  obtain ⟨p, l, e, R, s, m, args, below, meth, c, ad0, dom0⟩ := X
  intro ok ad H locs cells slots ls hR hS hE hc hs hl hol hos
  exact lv_ifnull ok.1 ok.2.1 hd (k ok ad H locs cells slots ls hR hS hE hc hs hl hol (hos.t))
theorem j_ifnullN {off : Int} {tgt : Nat} (hd : decode cc pc = .ok (.ifnull off, 3)) (ht : (pc : Int) + off = (tgt : Int)) (k : J cc nL own nm rt d G X post bc bs mi ml mr dom tgt lv st) : J cc nL own nm rt d G X post bc bs mi ml mr dom pc lv (.null :: st) := by
  obtain ⟨p, l, e, R, s, m, args, below, meth, c, ad0, dom0⟩ := X
  intro ok ad H locs cells slots ls hR hS hE hc hs hl hol hos
  exact lv_ifnullN ok.1 ok.2.1 hd ht (k ok ad H locs cells slots ls hR hS hE hc hs hl hol (hos.t))
theorem j_tableOut {dflt lo hi : Int} {offs : Array Int} {len : Nat} {x : Int32} {tgt : Nat} (hd : decode cc pc = .ok (.tableswitch dflt lo hi offs, len)) (h : x.toInt < lo ∨ hi < x.toInt) (ht : (pc : Int) + dflt = (tgt : Int)) (k : J cc nL own nm rt d G X post bc bs mi ml mr dom tgt lv st) : J cc nL own nm rt d G X post bc bs mi ml mr dom pc lv (.int x :: st) := by
  obtain ⟨p, l, e, R, s, m, args, below, meth, c, ad0, dom0⟩ := X
  intro ok ad H locs cells slots ls hR hS hE hc hs hl hol hos
  exact lv_tableOut ok.1 ok.2.1 hd h ht (k ok ad H locs cells slots ls hR hS hE hc hs hl hol (hos.t))
theorem j_tableIn {dflt lo hi : Int} {offs : Array Int} {len : Nat} {x : Int32} {off : Int} {tgt : Nat} (hd : decode cc pc = .ok (.tableswitch dflt lo hi offs, len)) (h1 : ¬ x.toInt < lo) (h2 : ¬ hi < x.toInt) (ho : offs[(x.toInt - lo).toNat]? = some off) (ht : (pc : Int) + off = (tgt : Int)) (k : J cc nL own nm rt d G X post bc bs mi ml mr dom tgt lv st) : J cc nL own nm rt d G X post bc bs mi ml mr dom pc lv (.int x :: st) := by
  obtain ⟨p, l, e, R, s, m, args, below, meth, c, ad0, dom0⟩ := X
  intro ok ad H locs cells slots ls hR hS hE hc hs hl hol hos
  exact lv_tableIn ok.1 ok.2.1 hd h1 h2 ho ht (k ok ad H locs cells slots ls hR hS hE hc hs hl hol (hos.t))
theorem j_end {v : Option Value} {p : Program} {l : Launch} {e : Env} {R : Room} {s : State} {m : MethodId} {args : Array Value} {below : List Frame} {meth : Method} {c : Code} {ad0 ad : Nat → Nat} {dom0 : List Nat} {H : Heap} {locs : List Loc} {cells slots : Nat} {g : JFrame} (hR : Rel G ad mi ml mr dom H) (hS : va_S (gA G) G.2.2.1 H locs) (hE : ∀ n ∈ dom0, n ∈ dom ∧ ad n = ad0 n) (hc : cells + bc ≤ R.cells) (hs : slots + bs ≤ R.slots) (hv : ∀ w, v = some w → okv dom w) (hp : post v mi ml mr dom)
    (h : (∀ t : State, t.heap = H → s.WarmedH t.vm → Qx G ad0 dom0 post args s (.returned (v.map (rn ad))) t) → (∀ q ∈ locs, gA G q.base) → W p l e R s m args below meth c H locs R.cells R.slots (MQ below (Qx G ad0 dom0 post) args s R.cells R.slots (gA G)) g) : W p l e R s m args below meth c H locs cells slots (MQ below (Qx G ad0 dom0 post) args s R.cells R.slots (gA G)) g := by
  refine W.widen (Nat.le_of_add_right_le hc) (Nat.le_of_add_right_le hs) (h (fun t ht _ => ?_) hS.2.2)
  exact ⟨v, mi, ml, mr, dom, ad, rfl, hp, by rw [ht]; exact hR, by rw [ht]; exact ⟨hS.1, hS.2.1, fun _ h => by cases h⟩, hv, hE⟩
theorem j_iret {x : Int32} (hrt : rt = some .int) (hd : decode cc pc = .ok (.ireturn, 1)) (hp : post (some (.int x)) mi ml mr dom) : J cc nL own nm rt d G X post bc bs mi ml mr dom pc lv [.int x] := by
  obtain ⟨p, l, e, R, s, m, args, below, meth, c, ad0, dom0⟩ := X
  intro ok ad H locs cells slots ls hR hS hE hc hs hl hol hos
  have hlocks : meth.locks = false := ok.2.2.2.2.2.2.1
  exact j_end hR hS hE hc hs (v := some (.int x)) (fun w h => by cases h; exact okv_int _ _) hp (fun hq hf => W.iret ok.1 ok.2.1 (ok.2.2.2.2.2.2.2.1.trans hrt) hq hf hd)
theorem j_zret {x : Int32} (hrt : rt = some .boolean) (hx : x = 0 ∨ x = 1) (hd : decode cc pc = .ok (.ireturn, 1)) (hp : post (some (.int x)) mi ml mr dom) : J cc nL own nm rt d G X post bc bs mi ml mr dom pc lv [.int x] := by
  obtain ⟨p, l, e, R, s, m, args, below, meth, c, ad0, dom0⟩ := X
  intro ok ad H locs cells slots ls hR hS hE hc hs hl hol hos
  have hlocks : meth.locks = false := ok.2.2.2.2.2.2.1
  exact j_end hR hS hE hc hs (v := some (.int x)) (fun w h => by cases h; exact okv_int _ _) hp (fun hq hf => W.zret ok.1 ok.2.1 (ok.2.2.2.2.2.2.2.1.trans hrt) (by rcases hx with rfl | rfl <;> rfl) hq hf hd)
theorem j_vret (hrt : rt = none) (hd : decode cc pc = .ok (.return_, 1)) (hp : post none mi ml mr dom) : J cc nL own nm rt d G X post bc bs mi ml mr dom pc lv [] := by
  obtain ⟨p, l, e, R, s, m, args, below, meth, c, ad0, dom0⟩ := X
  intro ok ad H locs cells slots ls hR hS hE hc hs hl hol hos
  have hlocks : meth.locks = false := ok.2.2.2.2.2.2.1
  exact j_end hR hS hE hc hs (v := none) (fun w h => by cases h) hp (fun hq hf => W.vret ok.1 ok.2.1 (ok.2.2.2.2.2.2.2.1.trans hrt) hq hf hd)
theorem j_lret {x : Int64} (hrt : rt = some .long) (hd : decode cc pc = .ok (.lreturn, 1)) (hp : post (some (.long x)) mi ml mr dom) : J cc nL own nm rt d G X post bc bs mi ml mr dom pc lv [.long x] := by
  obtain ⟨p, l, e, R, s, m, args, below, meth, c, ad0, dom0⟩ := X
  intro ok ad H locs cells slots ls hR hS hE hc hs hl hol hos
  have hlocks : meth.locks = false := ok.2.2.2.2.2.2.1
  exact j_end hR hS hE hc hs (v := some (.long x)) (fun w h => by cases h; exact okv_long _ _) hp (fun hq hf => W.lret ok.1 ok.2.1 (ok.2.2.2.2.2.2.2.1.trans hrt) hq hf hd)
end R1

/-! the texts: String.length, String.charAt of the constants (their bytes at 550 + i), code and packed -/
def yS_length : MethodName := ⟨"java/lang/String", "length", "()I"⟩
abbrev cS_length : ByteArray := prog_23_method_54_code
def yS_coder : MethodName := ⟨"java/lang/String", "coder", "()B"⟩
abbrev cS_coder : ByteArray := prog_23_method_152_code
def yS_isLatin1 : MethodName := ⟨"java/lang/String", "isLatin1", "()Z"⟩
abbrev cS_isLatin1 : ByteArray := prog_23_method_154_code
def yS_charAt : MethodName := ⟨"java/lang/String", "charAt", "(I)C"⟩
abbrev cS_charAt : ByteArray := prog_23_method_56_code
def yS_at1 : MethodName := ⟨"java/lang/StringLatin1", "charAt", "([BI)C"⟩
abbrev cS_at1 : ByteArray := prog_24_method_2_code
def yS_chk : MethodName := ⟨"java/lang/String", "checkIndex", "(II)V"⟩
abbrev cS_chk : ByteArray := prog_23_method_155_code
def yS_pchk : MethodName := ⟨"jdk/internal/util/Preconditions", "checkIndex", "(IILjava/util/function/BiFunction;)I"⟩
abbrev cS_pchk : ByteArray := prog_32_method_11_code
theorem dS_length_0 : decode cS_length 0 = .ok (.aload_n 0, 1) := by decide +kernel
theorem dS_length_1 : decode cS_length 1 = .ok (.getfield 9, 3) := by decide +kernel
theorem dS_length_4 : decode cS_length 4 = .ok (.arraylength, 1) := by decide +kernel
theorem dS_length_5 : decode cS_length 5 = .ok (.aload_n 0, 1) := by decide +kernel
theorem dS_length_6 : decode cS_length 6 = .ok (.invokevirtual 335, 3) := by decide +kernel
theorem dS_length_9 : decode cS_length 9 = .ok (.ishr, 1) := by decide +kernel
theorem dS_length_10 : decode cS_length 10 = .ok (.ireturn, 1) := by decide +kernel
theorem dS_coder_0 : decode cS_coder 0 = .ok (.getstatic 38, 3) := by decide +kernel
theorem dS_coder_3 : decode cS_coder 3 = .ok (.ifCond .eq 10, 3) := by decide +kernel
theorem dS_coder_6 : decode cS_coder 6 = .ok (.aload_n 0, 1) := by decide +kernel
theorem dS_coder_7 : decode cS_coder 7 = .ok (.getfield 15, 3) := by decide +kernel
theorem dS_coder_10 : decode cS_coder 10 = .ok (.goto 4, 3) := by decide +kernel
theorem dS_coder_14 : decode cS_coder 14 = .ok (.ireturn, 1) := by decide +kernel
theorem dS_isLatin1_0 : decode cS_isLatin1 0 = .ok (.getstatic 38, 3) := by decide +kernel
theorem dS_isLatin1_3 : decode cS_isLatin1 3 = .ok (.ifCond .eq 14, 3) := by decide +kernel
theorem dS_isLatin1_6 : decode cS_isLatin1 6 = .ok (.aload_n 0, 1) := by decide +kernel
theorem dS_isLatin1_7 : decode cS_isLatin1 7 = .ok (.getfield 15, 3) := by decide +kernel
theorem dS_isLatin1_10 : decode cS_isLatin1 10 = .ok (.ifCond .ne 7, 3) := by decide +kernel
theorem dS_isLatin1_13 : decode cS_isLatin1 13 = .ok (.iconst 1, 1) := by decide +kernel
theorem dS_isLatin1_14 : decode cS_isLatin1 14 = .ok (.goto 4, 3) := by decide +kernel
theorem dS_isLatin1_18 : decode cS_isLatin1 18 = .ok (.ireturn, 1) := by decide +kernel
theorem dS_charAt_0 : decode cS_charAt 0 = .ok (.aload_n 0, 1) := by decide +kernel
theorem dS_charAt_1 : decode cS_charAt 1 = .ok (.invokevirtual 492, 3) := by decide +kernel
theorem dS_charAt_4 : decode cS_charAt 4 = .ok (.ifCond .eq 12, 3) := by decide +kernel
theorem dS_charAt_7 : decode cS_charAt 7 = .ok (.aload_n 0, 1) := by decide +kernel
theorem dS_charAt_8 : decode cS_charAt 8 = .ok (.getfield 9, 3) := by decide +kernel
theorem dS_charAt_11 : decode cS_charAt 11 = .ok (.iload_n 1, 1) := by decide +kernel
theorem dS_charAt_12 : decode cS_charAt 12 = .ok (.invokestatic 495, 3) := by decide +kernel
theorem dS_charAt_15 : decode cS_charAt 15 = .ok (.ireturn, 1) := by decide +kernel
theorem dS_at1_0 : decode cS_at1 0 = .ok (.iload_n 1, 1) := by decide +kernel
theorem dS_at1_1 : decode cS_at1 1 = .ok (.aload_n 0, 1) := by decide +kernel
theorem dS_at1_2 : decode cS_at1 2 = .ok (.arraylength, 1) := by decide +kernel
theorem dS_at1_3 : decode cS_at1 3 = .ok (.invokestatic 9, 3) := by decide +kernel
theorem dS_at1_6 : decode cS_at1 6 = .ok (.aload_n 0, 1) := by decide +kernel
theorem dS_at1_7 : decode cS_at1 7 = .ok (.iload_n 1, 1) := by decide +kernel
theorem dS_at1_8 : decode cS_at1 8 = .ok (.baload, 1) := by decide +kernel
theorem dS_at1_9 : decode cS_at1 9 = .ok (.sipush 255, 3) := by decide +kernel
theorem dS_at1_12 : decode cS_at1 12 = .ok (.iand, 1) := by decide +kernel
theorem dS_at1_13 : decode cS_at1 13 = .ok (.i2c, 1) := by decide +kernel
theorem dS_at1_14 : decode cS_at1 14 = .ok (.ireturn, 1) := by decide +kernel
theorem dS_chk_0 : decode cS_chk 0 = .ok (.iload_n 0, 1) := by decide +kernel
theorem dS_chk_1 : decode cS_chk 1 = .ok (.iload_n 1, 1) := by decide +kernel
theorem dS_chk_2 : decode cS_chk 2 = .ok (.getstatic 1053, 3) := by decide +kernel
theorem dS_chk_5 : decode cS_chk 5 = .ok (.invokestatic 1059, 3) := by decide +kernel
theorem dS_chk_8 : decode cS_chk 8 = .ok (.pop, 1) := by decide +kernel
theorem dS_chk_9 : decode cS_chk 9 = .ok (.return_, 1) := by decide +kernel
theorem dS_pchk_0 : decode cS_pchk 0 = .ok (.iload_n 0, 1) := by decide +kernel
theorem dS_pchk_1 : decode cS_pchk 1 = .ok (.ifCond .lt 8, 3) := by decide +kernel
theorem dS_pchk_4 : decode cS_pchk 4 = .ok (.iload_n 0, 1) := by decide +kernel
theorem dS_pchk_5 : decode cS_pchk 5 = .ok (.iload_n 1, 1) := by decide +kernel
theorem dS_pchk_6 : decode cS_pchk 6 = .ok (.if_icmp .lt 10, 3) := by decide +kernel
theorem dS_pchk_16 : decode cS_pchk 16 = .ok (.iload_n 0, 1) := by decide +kernel
theorem dS_pchk_17 : decode cS_pchk 17 = .ok (.ireturn, 1) := by decide +kernel
theorem str_ok : ∀ i, i < 24 → Int32.ofNat (strL.getD i 0) >>> ((0 : Int32) &&& 31) = nI (strL.getD i 0) ∧ strL.getD i 0 ≤ 7 ∧ strL.getD i 0 = (strB.getD i []).length ∧ ∀ k, k < strL.getD i 0 → ((((strB.getD i []).getD k 0 &&& 255).toUInt32 % 65536).toInt32 = (strB.getD i []).getD k 0 ∧ (strB.getD i []).getD k 0 &&& 255 = (strB.getD i []).getD k 0 ∧ 97 ≤ (strB.getD i []).getD k 0 ∧ (strB.getD i []).getD k 0 ≤ 122) := by decide +kernel
section STRA
variable {cc : ByteArray} {nL : Nat} {own nm : String} {rt : Option FieldType} {d : Nat} {G : GG} {X : Cx} {post : PT} {bc bs : Nat} {mi : MI} {ml : ML} {mr : MR} {dom : List Nat} {pc : Nat} {lv : List (Option Value)} {st : List Value}
theorem lit_s {i : Nat} (hi : i < 24) : lit (500 + i) := ⟨by omega, by omega⟩
theorem lit_v {i : Nat} (hi : i < 24) : lit (550 + i) := ⟨by omega, by omega⟩
theorem okv_lit {n : Nat} (h : lit n) : okv dom (.ref n) := fun m hm => by cases hm; exact Or.inr h
theorem j_ldcS {tx : String} {index i : Nat} (hq : (own, index, tx, i) ∈ strT) (hi : i < 24) (hd : decode cc pc = .ok (.ldc index, 2)) (kk : J cc nL own nm rt d G X post bc bs mi ml mr dom (pc + 2) lv (.ref (500 + i) :: st)) : J cc nL own nm rt d G X post bc bs mi ml mr dom pc lv st := by
  obtain ⟨p, l, e, R, s, m, args, below, meth, c, ad0, dom0⟩ := X
  intro ok ad H locs cells slots ls hR hS hE hc2 hs hl hol hos
  have hkn : KN G s := ok.2.2.2.2.2.1
  have hZ := (hkn.2.2.2 s hkn.2.1).2.1 _ hq
  have h := kk ok ad H locs cells slots ls hR hS hE hc2 hs hl hol (hos.c (okv_lit (lit_s hi)))
  simp only [List.map_cons, rn, hR.2.2.2.1 _ (lit_s hi)] at h
  exact va_ldcS ok.1 ok.2.1 ok.2.2.2.1 hZ hd h
theorem j_ldcSw {tx : String} {index i : Nat} (hq : (own, index, tx, i) ∈ strT) (hi : i < 24) (hd : decode cc pc = .ok (.ldc_w index, 3)) (kk : J cc nL own nm rt d G X post bc bs mi ml mr dom (pc + 3) lv (.ref (500 + i) :: st)) : J cc nL own nm rt d G X post bc bs mi ml mr dom pc lv st := by
  obtain ⟨p, l, e, R, s, m, args, below, meth, c, ad0, dom0⟩ := X
  intro ok ad H locs cells slots ls hR hS hE hc2 hs hl hol hos
  have hkn : KN G s := ok.2.2.2.2.2.1
  have hZ := (hkn.2.2.2 s hkn.2.1).2.1 _ hq
  have h := kk ok ad H locs cells slots ls hR hS hE hc2 hs hl hol (hos.c (okv_lit (lit_s hi)))
  simp only [List.map_cons, rn, hR.2.2.2.1 _ (lit_s hi)] at h
  intro T hT Y
  obtain ⟨t, a1, b1⟩ := h T hT Y
  exact ⟨t, Y.ldcStringW ok.1 ok.2.2.2.1 (text := tx) (a := G.2.2.2.1 (500 + i)) hZ.1 hZ.2 (g := F0 m pc ls (st.map (rn ad))) rfl (by rw [ok.2.1]; exact hd) t a1, b1⟩
theorem j_strV {i : Nat} (hi : i < 24) (hd : decode cc pc = .ok (.getfield 9, 3)) (kk : J cc nL "java/lang/String" nm rt d G X post bc bs mi ml mr dom (pc + 3) lv (.ref (550 + i) :: st)) : J cc nL "java/lang/String" nm rt d G X post bc bs mi ml mr dom pc lv (.ref (500 + i) :: st) := by
  obtain ⟨p, l, e, R, s, m, args, below, meth, c, ad0, dom0⟩ := X
  intro ok ad H locs cells slots ls hR hS hE hc2 hs hl hol hos
  have hkn : KN G s := ok.2.2.2.2.2.1
  have h := kk ok ad H locs cells slots ls hR hS hE hc2 hs hl hol (hos.t.c (okv_lit (lit_v hi)))
  simp only [List.map_cons, rn, hR.2.2.2.1 _ (lit_v hi)] at h
  simp only [List.map_cons, rn, hR.2.2.2.1 _ (lit_s hi)]
  obtain ⟨cf, k, fi, f, cell, h1, h2, h3, h4, h5, h6⟩ := (((hkn.2.2.2 s hkn.2.1).2.2.1 i hi).2.2.1).kept hS.2.1
  exact W.getf ok.1 ok.2.1 ok.2.2.2.1 (ok.2.2.2.2.1 _ wd2137) h1 h2 h3 h4 h5 rfl rfl hd h
theorem j_strC {i : Nat} (hi : i < 24) (hd : decode cc pc = .ok (.getfield 15, 3)) (kk : J cc nL "java/lang/String" nm rt d G X post bc bs mi ml mr dom (pc + 3) lv (.int 0 :: st)) : J cc nL "java/lang/String" nm rt d G X post bc bs mi ml mr dom pc lv (.ref (500 + i) :: st) := by
  obtain ⟨p, l, e, R, s, m, args, below, meth, c, ad0, dom0⟩ := X
  intro ok ad H locs cells slots ls hR hS hE hc2 hs hl hol hos
  have hkn : KN G s := ok.2.2.2.2.2.1
  have h := kk ok ad H locs cells slots ls hR hS hE hc2 hs hl hol (hos.t.c (okv_int _ _))
  simp only [List.map_cons, rn, hR.2.2.2.1 _ (lit_s hi)] at h ⊢
  obtain ⟨cf, k, fi, f, cell, h1, h2, h3, h4, h5, h6⟩ := (((hkn.2.2.2 s hkn.2.1).2.2.1 i hi).2.1).kept hS.2.1
  exact W.getf ok.1 ok.2.1 ok.2.2.2.1 (ok.2.2.2.2.1 _ wd2138) h1 h2 h3 h4 h5 rfl rfl hd h
theorem j_strL {i : Nat} (hi : i < 24) (hd : decode cc pc = .ok (.arraylength, 1)) (kk : J cc nL own nm rt d G X post bc bs mi ml mr dom (pc + 1) lv (.int (Int32.ofNat (strL.getD i 0)) :: st)) : J cc nL own nm rt d G X post bc bs mi ml mr dom pc lv (.ref (550 + i) :: st) := by
  obtain ⟨p, l, e, R, s, m, args, below, meth, c, ad0, dom0⟩ := X
  intro ok ad H locs cells slots ls hR hS hE hc2 hs hl hol hos
  have hkn : KN G s := ok.2.2.2.2.2.1
  have h := kk ok ad H locs cells slots ls hR hS hE hc2 hs hl hol (hos.t.c (okv_int _ _))
  simp only [List.map_cons, rn, hR.2.2.2.1 _ (lit_v hi)] at h ⊢
  obtain ⟨cell, h1, h2, h3, h4, h5, h6, h7⟩ := (((hkn.2.2.2 s hkn.2.1).2.2.1 i hi).2.2.2).kept hS.2.1
  exact W.alen (n := Int32.ofNat (strL.getD i 0)) ok.1 ok.2.1 h1 h2 h5 rfl rfl hd h
theorem j_strB {i k : Nat} (hi : i < 24) (hk : k < strL.getD i 0) (hd : decode cc pc = .ok (.baload, 1)) (kk : J cc nL own nm rt d G X post bc bs mi ml mr dom (pc + 1) lv (.int ((strB.getD i []).getD k 0) :: st)) : J cc nL own nm rt d G X post bc bs mi ml mr dom pc lv (.int (nI k) :: .ref (550 + i) :: st) := by
  obtain ⟨p, l, e, R, s, m, args, below, meth, c, ad0, dom0⟩ := X
  intro ok ad H locs cells slots ls hR hS hE hc2 hs hl hol hos
  have hkn : KN G s := ok.2.2.2.2.2.1
  have h := kk ok ad H locs cells slots ls hR hS hE hc2 hs hl hol (hos.t.t.c (okv_int _ _))
  simp only [List.map_cons, rn, hR.2.2.2.1 _ (lit_v hi)] at h ⊢
  obtain ⟨cell, h1, h2, h3, h4, h5, h6, h7⟩ := (((hkn.2.2.2 s hkn.2.1).2.2.1 i hi).2.2.2).kept hS.2.1
  have h8 := (str_ok i hi).2.1
  have e := nI_clamp (show k < 2 ^ 31 by omega)
  exact W.bald (v := .int ((strB.getD i []).getD k 0)) ok.1 ok.2.1 h1 h2 h3 (by
    intro q
    rcases q with q | q
    · exact absurd q (nI_pos (by omega))
    · rw [e] at q; omega) (by rw [e, h6 _ hk]) rfl rfl hd h
theorem j_getsC (hd : decode cc pc = .ok (.getstatic 38, 3)) (kk : J cc nL "java/lang/String" nm rt d G X post bc bs mi ml mr dom (pc + 3) lv (.int 1 :: st)) : J cc nL "java/lang/String" nm rt d G X post bc bs mi ml mr dom pc lv st := by
  obtain ⟨p, l, e, R, s, m, args, below, meth, c, ad0, dom0⟩ := X
  intro ok ad H locs cells slots ls hR hS hE hc2 hs hl hol hos
  have hkn : KN G s := ok.2.2.2.2.2.1
  have h := kk ok ad H locs cells slots ls hR hS hE hc2 hs hl hol (hos.c (okv_int _ _))
  obtain ⟨cf, kf, fi, f, a, cell, h1, h2, h3, h4, h5, h6, h7, h8⟩ := ((hkn.2.2.2 s hkn.2.1).2.2.2.1).kept hS.2.1
  exact W.gets ok.1 ok.2.1 ok.2.2.2.1 (ok.2.2.2.2.1 _ wd390) h1 h2 h3 h4 h5 (fun e => by rw [e] at h6; cases h6) h7 rfl hd h
theorem j_getsF (hd : decode cc pc = .ok (.getstatic 1053, 3)) (kn : J cc nL "java/lang/String" nm rt d G X post bc bs mi ml mr dom (pc + 3) lv (.null :: st)) (kr : J cc nL "java/lang/String" nm rt d G X post bc bs mi ml mr dom (pc + 3) lv (.ref 599 :: st)) : J cc nL "java/lang/String" nm rt d G X post bc bs mi ml mr dom pc lv st := by
  obtain ⟨p, l, e, R, s, m, args, below, meth, c, ad0, dom0⟩ := X
  intro ok ad H locs cells slots ls hR hS hE hc2 hs hl hol hos
  have hkn : KN G s := ok.2.2.2.2.2.1
  rcases (hkn.2.2.2 s hkn.2.1).2.2.2.2.1 with hz | hz
  · have h := kn ok ad H locs cells slots ls hR hS hE hc2 hs hl hol (hos.c (okv_null _))
    obtain ⟨cf, kf, fi, f, a, cell, h1, h2, h3, h4, h5, h6, h7, h8⟩ := hz.kept hS.2.1
    exact W.gets ok.1 ok.2.1 ok.2.2.2.1 (ok.2.2.2.2.1 _ wd407) h1 h2 h3 h4 h5 (fun e => by rw [e] at h6; cases h6) h7 rfl hd h
  · have hl9 : lit 599 := ⟨by omega, by omega⟩
    have h := kr ok ad H locs cells slots ls hR hS hE hc2 hs hl hol (hos.c (okv_lit hl9))
    simp only [List.map_cons, rn, hR.2.2.2.1 _ hl9] at h
    obtain ⟨cf, kf, fi, f, a, cell, h1, h2, h3, h4, h5, h6, h7, h8⟩ := hz.kept hS.2.1
    exact W.gets ok.1 ok.2.1 ok.2.2.2.1 (ok.2.2.2.2.1 _ wd407) h1 h2 h3 h4 h5 (fun e => by rw [e] at h6; cases h6) h7 rfl hd h
theorem j_i2c {x v : Int32} (hd : decode cc pc = .ok (.i2c, 1)) (hv : (x.toUInt32 % 65536).toInt32 = v) (kk : J cc nL own nm rt d G X post bc bs mi ml mr dom (pc + 1) lv (.int v :: st)) : J cc nL own nm rt d G X post bc bs mi ml mr dom pc lv (.int x :: st) := by
  obtain ⟨p, l, e, R, s, m, args, below, meth, c, ad0, dom0⟩ := X
  intro ok ad H locs cells slots ls hR hS hE hc hs hl hol hos
  exact lv_i2c ok.1 ok.2.1 hd hv (kk ok ad H locs cells slots ls hR hS hE hc hs hl hol (hos.t.c (okv_int _ _)))
theorem j_nret {x : Int32} {ty : FieldType} (hrt : rt = some ty) (hx : narrow ty (.int x) = .int x) (hd : decode cc pc = .ok (.ireturn, 1)) (hp : post (some (.int x)) mi ml mr dom) : J cc nL own nm rt d G X post bc bs mi ml mr dom pc lv [.int x] := by
  obtain ⟨p, l, e, R, s, m, args, below, meth, c, ad0, dom0⟩ := X
  intro ok ad H locs cells slots ls hR hS hE hc hs hl hol hos
  have hlocks : meth.locks = false := ok.2.2.2.2.2.2.1
  exact j_end hR hS hE hc hs (v := some (.int x)) (fun w h => by cases h; exact okv_int _ _) hp (fun hq hf => W.zret ok.1 ok.2.1 (ok.2.2.2.2.2.2.2.1.trans hrt) hx hq hf hd)
/-- a virtual call on a text -/
theorem j_callT {d' nL' index n i : Nat} {y : MethodName} {cc' : ByteArray} {rt' : Option FieldType} {As : List Value} {stk : List Value} (hi : i < 24) (hcls : y.cls = "java/lang/String") (hini : Cond.initialized y.cls ∈ wtbl) (hlink : Cond.methodLink own index y ∈ wtbl) (hinst : Cond.instanceMethod y ∈ wtbl) (hsel : Cond.selects y.cls y y ∈ wtbl) (hcode : Cond.code y cc' nL' rt' ∈ wtbl)
    (hy : y.cls ≠ "java/lang/invoke/MethodHandle" ∧ y.cls ≠ "java/lang/invoke/VarHandle" ∧ (parseMethodDescriptor y.desc).map (fun d => d.parameters.length) = some n) (hn : As.length = n) (hnl : nL' ≤ 45) (hd : decode cc pc = .ok (.invokevirtual index, 3)) (hdd : d' + 1 ≤ d) (hst : (st.map fun v => v.category).sum ≤ 8) (hstk : stk = As.reverse ++ .ref (500 + i) :: st)
    (ct : CT G d' 0 0 y cc' nL' rt' (.ref (500 + i) :: As) mi ml mr dom (fun v mi' ml' mr' dom' => J cc nL own nm rt d G X post bc bs mi' ml' mr' dom' (pc + 3) lv (vst v st))) : J cc nL own nm rt d G X post bc bs mi ml mr dom pc lv stk := by
  subst hstk
  obtain ⟨p, l, e, R, s, m, args, below, meth, c, ad0, dom0⟩ := X
  intro ok ad H locs cells slots ls hR hS hE hc2 hs hl hol hos
  have hosr : oks dom st := fun v hv => hos v (List.mem_append_right _ (List.mem_cons_of_mem _ hv))
  have hosa : oks dom (.ref (500 + i) :: As) := fun v hv => by
    rcases List.mem_cons.mp hv with rfl | hv
    · exact hos _ (List.mem_append_right _ List.mem_cons_self)
    · exact hos _ (List.mem_append_left _ (List.mem_reverse.mpr hv))
  have hkn : KN G s := ok.2.2.2.2.2.1
  obtain ⟨cell, g1, g2, g3, -⟩ := ((hkn.2.2.2 s hkn.2.1).2.2.1 i hi).1.kept hS.2.1
  refine j_run (mc' := 0) (ms' := 0) (d' := d') (nL' := nL') (y := y) (cc' := cc') (rt' := rt') (mi' := mi) (va_runV (C := y.cls) (b := ad (500 + i)) (As := As.map (rn ad)) (n := n) (nL := nL) ⟨ok.1, ok.2.1, ok.2.2.1, ok.2.2.2.1, ok.2.2.2.2.1⟩ (ct l ad) ⟨j_callB ok.2.2.2.2.1 hini hlink hcode hy (by rw [ok.2.2.2.2.2.2.2.2.2.1]; exact hdd) (by rw [ok.2.2.2.2.2.2.2.2.2.2]; omega), ok.2.2.2.2.1 _ hinst, ok.2.2.2.2.1 _ hsel⟩ ⟨Px_blind, ⟨cell, by rw [hR.2.2.2.1 _ (lit_s hi)]; exact g1, g2, by rw [hcls]; exact g3⟩, j_pre hkn hR hS hosa⟩ rfl (by simpa using hn) hl.1 (by simp [rn]) ?_ hd ⟨by omega, by omega⟩) ok hR hS hE hc2 hs hl hol hosr (Nat.zero_le _) (Nat.zero_le _)
  exact lv_room (by rw [rn_cats]; exact hst)
theorem c_scoder {i : Nat} (hi : i < 24) (hp : post (some (.int 0)) mi ml mr dom) : CT G 1 0 0 yS_coder cS_coder 1 (some .byte) [.ref (500 + i)] mi ml mr dom post := by
  refine enter 0 (by decide) rfl rfl (fun X => ?_)
  refine j_getsC dS_coder_0 ?_
  refine j_if_eq (tgt := 13) dS_coder_3 (by decide) (fun h => absurd h (by decide)) (fun _ => ?_)
  refine j_aload_n dS_coder_6 rfl rfl ?_
  refine j_strC hi dS_coder_7 ?_
  refine j_goto (tgt := 14) dS_coder_10 (by decide) ?_
  exact j_nret rfl rfl dS_coder_14 hp
theorem c_slatin {i : Nat} (hi : i < 24) (hp : post (some (.int 1)) mi ml mr dom) : CT G 1 0 0 yS_isLatin1 cS_isLatin1 1 (some .boolean) [.ref (500 + i)] mi ml mr dom post := by
  refine enter 0 (by decide) rfl rfl (fun X => ?_)
  refine j_getsC dS_isLatin1_0 ?_
  refine j_if_eq (tgt := 17) dS_isLatin1_3 (by decide) (fun h => absurd h (by decide)) (fun _ => ?_)
  refine j_aload_n dS_isLatin1_6 rfl rfl ?_
  refine j_strC hi dS_isLatin1_7 ?_
  refine j_if_ne (tgt := 17) dS_isLatin1_10 (by decide) (fun h => absurd rfl h) (fun _ => ?_)
  refine j_iconst (v := 1) dS_isLatin1_13 (by decide) ?_
  refine j_goto (tgt := 18) dS_isLatin1_14 (by decide) ?_
  exact j_zret rfl (by decide) dS_isLatin1_18 hp
theorem c_slen {i : Nat} (hi : i < 24) (hp : post (some (.int (nI (strL.getD i 0)))) mi ml mr dom) : CT G 2 0 0 yS_length cS_length 1 (some .int) [.ref (500 + i)] mi ml mr dom post := by
  refine enter 0 (by decide) rfl rfl (fun X => ?_)
  refine j_aload_n dS_length_0 rfl rfl ?_
  refine j_strV hi dS_length_1 ?_
  refine j_strL hi dS_length_4 ?_
  refine j_aload_n dS_length_5 rfl rfl ?_
  refine j_callT (d' := 1) (As := []) (y := yS_coder) (n := 0) hi rfl wd114 wd386 wd387 wd388 wd389 ⟨by decide +kernel, by decide +kernel, by decide +kernel⟩ rfl (by decide) dS_length_6 (by decide) (Nat.le_of_ble_eq_true rfl) rfl ?_
  refine c_scoder hi ?_
  refine j_ishr dS_length_9 ?_
  rw [(str_ok i hi).1]
  exact j_iret rfl dS_length_10 hp
theorem c_spchkn {x y : Int32} (h0 : ¬ x < 0) (h1 : x < y) (hp : post (some (.int x)) mi ml mr dom) : CT G 1 0 0 yS_pchk cS_pchk 3 (some .int) [.int x, .int y, .null] mi ml mr dom post := by
  refine enter 0 (by decide) rfl rfl (fun X => ?_)
  refine j_iload_n dS_pchk_0 rfl rfl ?_
  refine j_if_lt (tgt := 9) dS_pchk_1 (by decide) (fun h => absurd h h0) (fun _ => ?_)
  refine j_iload_n dS_pchk_4 rfl rfl ?_
  refine j_iload_n dS_pchk_5 rfl rfl ?_
  refine j_icmp_lt (tgt := 16) dS_pchk_6 (by decide) (fun _ => ?_) (fun h => absurd h1 h)
  refine j_iload_n dS_pchk_16 rfl rfl ?_
  exact j_iret rfl dS_pchk_17 hp
theorem c_spchkr {x y : Int32} (h0 : ¬ x < 0) (h1 : x < y) (hp : post (some (.int x)) mi ml mr dom) : CT G 1 0 0 yS_pchk cS_pchk 3 (some .int) [.int x, .int y, .ref 599] mi ml mr dom post := by
  refine enter 0 (by decide) rfl rfl (fun X => ?_)
  refine j_iload_n dS_pchk_0 rfl rfl ?_
  refine j_if_lt (tgt := 9) dS_pchk_1 (by decide) (fun h => absurd h h0) (fun _ => ?_)
  refine j_iload_n dS_pchk_4 rfl rfl ?_
  refine j_iload_n dS_pchk_5 rfl rfl ?_
  refine j_icmp_lt (tgt := 16) dS_pchk_6 (by decide) (fun _ => ?_) (fun h => absurd h1 h)
  refine j_iload_n dS_pchk_16 rfl rfl ?_
  exact j_iret rfl dS_pchk_17 hp
theorem c_schk {x y : Int32} (h0 : ¬ x < 0) (h1 : x < y) (hp : post none mi ml mr dom) : CT G 2 0 0 yS_chk cS_chk 2 none [.int x, .int y] mi ml mr dom post := by
  refine enter 0 (by decide) rfl rfl (fun X => ?_)
  refine j_iload_n dS_chk_0 rfl rfl ?_
  refine j_iload_n dS_chk_1 rfl rfl ?_
  refine j_getsF dS_chk_2 ?_ ?_
  · refine j_callS (d' := 1) (As := [.int x, .int y, .null]) (y := yS_pchk) (mc' := 0) (ms' := 0) (n := 3) wd116 wd409 wd410 wd411 ⟨by decide +kernel, by decide +kernel, by decide +kernel⟩ rfl (by decide) dS_chk_5 (by decide) (Nat.zero_le _) (Nat.zero_le _) (Nat.le_of_ble_eq_true rfl) rfl ?_
    refine c_spchkn h0 h1 ?_
    refine j_pop dS_chk_8 rfl ?_
    exact j_vret rfl dS_chk_9 hp
  · refine j_callS (d' := 1) (As := [.int x, .int y, .ref 599]) (y := yS_pchk) (mc' := 0) (ms' := 0) (n := 3) wd116 wd409 wd410 wd411 ⟨by decide +kernel, by decide +kernel, by decide +kernel⟩ rfl (by decide) dS_chk_5 (by decide) (Nat.zero_le _) (Nat.zero_le _) (Nat.le_of_ble_eq_true rfl) rfl ?_
    refine c_spchkr h0 h1 ?_
    refine j_pop dS_chk_8 rfl ?_
    exact j_vret rfl dS_chk_9 hp
theorem c_sat1 {i k : Nat} (hi : i < 24) (hk : k < strL.getD i 0) (hp : post (some (.int ((strB.getD i []).getD k 0))) mi ml mr dom) : CT G 3 0 0 yS_at1 cS_at1 2 (some .char) [.ref (550 + i), .int (nI k)] mi ml mr dom post := by
  have h8 := (str_ok i hi).2.1
  have hb := (str_ok i hi).2.2.2 k hk
  refine enter 0 (by decide) rfl rfl (fun X => ?_)
  refine j_iload_n dS_at1_0 rfl rfl ?_
  refine j_aload_n dS_at1_1 rfl rfl ?_
  refine j_strL hi dS_at1_2 ?_
  refine j_callS (d' := 2) (As := [.int (nI k), .int (Int32.ofNat (strL.getD i 0))]) (y := yS_chk) (mc' := 0) (ms' := 0) (n := 2) wd114 wd404 wd405 wd406 ⟨by decide +kernel, by decide +kernel, by decide +kernel⟩ rfl (by decide) dS_at1_3 (by decide) (Nat.zero_le _) (Nat.zero_le _) (Nat.le_of_ble_eq_true rfl) rfl ?_
  refine c_schk (nI_pos (by omega)) (nI_lt hk (by omega)) ?_
  refine j_aload_n dS_at1_6 rfl rfl ?_
  refine j_iload_n dS_at1_7 rfl rfl ?_
  refine j_strB hi hk dS_at1_8 ?_
  refine j_sipush (v := 255) dS_at1_9 (by decide) ?_
  refine j_iand dS_at1_12 ?_
  refine j_i2c dS_at1_13 hb.1 ?_
  refine j_nret rfl ?_ dS_at1_14 hp
  rw [← hb.2.1]
  exact sc_nar _
theorem c_sat {i k : Nat} (hi : i < 24) (hk : k < strL.getD i 0) (hp : post (some (.int ((strB.getD i []).getD k 0))) mi ml mr dom) : CT G 4 0 0 yS_charAt cS_charAt 2 (some .char) [.ref (500 + i), .int (nI k)] mi ml mr dom post := by
  have hb := (str_ok i hi).2.2.2 k hk
  refine enter 0 (by decide) rfl rfl (fun X => ?_)
  refine j_aload_n dS_charAt_0 rfl rfl ?_
  refine j_callT (d' := 1) (As := []) (y := yS_isLatin1) (n := 0) hi rfl wd114 wd397 wd398 wd399 wd400 ⟨by decide +kernel, by decide +kernel, by decide +kernel⟩ rfl (by decide) dS_charAt_1 (by decide) (Nat.le_of_ble_eq_true rfl) rfl ?_
  refine c_slatin hi ?_
  refine j_if_eq (tgt := 16) dS_charAt_4 (by decide) (fun h => absurd h (by decide)) (fun _ => ?_)
  refine j_aload_n dS_charAt_7 rfl rfl ?_
  refine j_strV hi dS_charAt_8 ?_
  refine j_iload_n dS_charAt_11 rfl rfl ?_
  refine j_callS (d' := 3) (As := [.ref (550 + i), .int (nI k)]) (y := yS_at1) (mc' := 0) (ms' := 0) (n := 2) wd115 wd401 wd402 wd403 ⟨by decide +kernel, by decide +kernel, by decide +kernel⟩ rfl (by decide) dS_charAt_12 (by decide) (Nat.zero_le _) (Nat.zero_le _) (Nat.le_of_ble_eq_true rfl) rfl ?_
  refine c_sat1 hi hk ?_
  refine j_nret rfl ?_ dS_charAt_15 hp
  rw [← hb.2.1]
  exact sc_nar _
theorem cT6_124 {i : Nat} (hi : i < 24) (hd : decode cc pc = .ok (.invokevirtual 124, 3)) (hdd : 3 ≤ d) (hst : (st.map fun v => v.category).sum ≤ 8) (kk : J cc nL RX6 nm rt d G X post bc bs mi ml mr dom (pc + 3) lv (.int (nI (strL.getD i 0)) :: st)) : J cc nL RX6 nm rt d G X post bc bs mi ml mr dom pc lv (.ref (500 + i) :: st) := j_callT (d' := 2) (As := []) (y := yS_length) (n := 0) hi rfl wd114 wd382 wd383 wd384 wd385 ⟨by decide +kernel, by decide +kernel, by decide +kernel⟩ rfl (by decide) hd hdd hst rfl (c_slen hi kk)
theorem cT6_130 {i k : Nat} (hi : i < 24) (hk : k < strL.getD i 0) (hd : decode cc pc = .ok (.invokevirtual 130, 3)) (hdd : 5 ≤ d) (hst : (st.map fun v => v.category).sum ≤ 8) (kk : J cc nL RX6 nm rt d G X post bc bs mi ml mr dom (pc + 3) lv (.int ((strB.getD i []).getD k 0) :: st)) : J cc nL RX6 nm rt d G X post bc bs mi ml mr dom pc lv (.int (nI k) :: .ref (500 + i) :: st) := j_callT (d' := 4) (As := [.int (nI k)]) (y := yS_charAt) (n := 1) hi rfl wd114 wd393 wd394 wd395 wd396 ⟨by decide +kernel, by decide +kernel, by decide +kernel⟩ rfl (by decide) hd hdd hst rfl (c_sat hi hk kk)
theorem cT13_67 {i : Nat} (hi : i < 24) (hd : decode cc pc = .ok (.invokevirtual 67, 3)) (hdd : 3 ≤ d) (hst : (st.map fun v => v.category).sum ≤ 8) (kk : J cc nL RX13 nm rt d G X post bc bs mi ml mr dom (pc + 3) lv (.int (nI (strL.getD i 0)) :: st)) : J cc nL RX13 nm rt d G X post bc bs mi ml mr dom pc lv (.ref (500 + i) :: st) := j_callT (d' := 2) (As := []) (y := yS_length) (n := 0) hi rfl wd114 wd1619 wd383 wd384 wd385 ⟨by decide +kernel, by decide +kernel, by decide +kernel⟩ rfl (by decide) hd hdd hst rfl (c_slen hi kk)
theorem cT13_75 {i k : Nat} (hi : i < 24) (hk : k < strL.getD i 0) (hd : decode cc pc = .ok (.invokevirtual 75, 3)) (hdd : 5 ≤ d) (hst : (st.map fun v => v.category).sum ≤ 8) (kk : J cc nL RX13 nm rt d G X post bc bs mi ml mr dom (pc + 3) lv (.int ((strB.getD i []).getD k 0) :: st)) : J cc nL RX13 nm rt d G X post bc bs mi ml mr dom pc lv (.int (nI k) :: .ref (500 + i) :: st) := j_callT (d' := 4) (As := [.int (nI k)]) (y := yS_charAt) (n := 1) hi rfl wd114 wd1620 wd394 wd395 wd396 ⟨by decide +kernel, by decide +kernel, by decide +kernel⟩ rfl (by decide) hd hdd hst rfl (c_sat hi hk kk)
theorem j_ldcS6_58 (hd : decode cc pc = .ok (.ldc 58, 2)) (kk : J cc nL RX6 nm rt d G X post bc bs mi ml mr dom (pc + 2) lv (.ref 500 :: st)) : J cc nL RX6 nm rt d G X post bc bs mi ml mr dom pc lv st := j_ldcS (i := 0) (tx := "town") (by decide) (by decide) hd kk
theorem j_ldcS6_64 (hd : decode cc pc = .ok (.ldc 64, 2)) (kk : J cc nL RX6 nm rt d G X post bc bs mi ml mr dom (pc + 2) lv (.ref 501 :: st)) : J cc nL RX6 nm rt d G X post bc bs mi ml mr dom pc lv st := j_ldcS (i := 1) (tx := "house") (by decide) (by decide) hd kk
theorem j_ldcS6_66 (hd : decode cc pc = .ok (.ldc 66, 2)) (kk : J cc nL RX6 nm rt d G X post bc bs mi ml mr dom (pc + 2) lv (.ref 502 :: st)) : J cc nL RX6 nm rt d G X post bc bs mi ml mr dom pc lv st := j_ldcS (i := 2) (tx := "lane") (by decide) (by decide) hd kk
theorem j_ldcS6_68 (hd : decode cc pc = .ok (.ldc 68, 2)) (kk : J cc nL RX6 nm rt d G X post bc bs mi ml mr dom (pc + 2) lv (.ref 503 :: st)) : J cc nL RX6 nm rt d G X post bc bs mi ml mr dom pc lv st := j_ldcS (i := 3) (tx := "person") (by decide) (by decide) hd kk
theorem j_ldcS6_70 (hd : decode cc pc = .ok (.ldc 70, 2)) (kk : J cc nL RX6 nm rt d G X post bc bs mi ml mr dom (pc + 2) lv (.ref 504 :: st)) : J cc nL RX6 nm rt d G X post bc bs mi ml mr dom pc lv st := j_ldcS (i := 4) (tx := "good") (by decide) (by decide) hd kk
theorem j_ldcS6_72 (hd : decode cc pc = .ok (.ldc 72, 2)) (kk : J cc nL RX6 nm rt d G X post bc bs mi ml mr dom (pc + 2) lv (.ref 505 :: st)) : J cc nL RX6 nm rt d G X post bc bs mi ml mr dom pc lv st := j_ldcS (i := 5) (tx := "visit") (by decide) (by decide) hd kk
theorem j_ldcS6_74 (hd : decode cc pc = .ok (.ldc 74, 2)) (kk : J cc nL RX6 nm rt d G X post bc bs mi ml mr dom (pc + 2) lv (.ref 506 :: st)) : J cc nL RX6 nm rt d G X post bc bs mi ml mr dom pc lv st := j_ldcS (i := 6) (tx := "print") (by decide) (by decide) hd kk
theorem j_ldcS6_180 (hd : decode cc pc = .ok (.ldc 180, 2)) (kk : J cc nL RX6 nm rt d G X post bc bs mi ml mr dom (pc + 2) lv (.ref 507 :: st)) : J cc nL RX6 nm rt d G X post bc bs mi ml mr dom pc lv st := j_ldcS (i := 7) (tx := "dawn") (by decide) (by decide) hd kk
theorem j_ldcS6_192 (hd : decode cc pc = .ok (.ldc 192, 2)) (kk : J cc nL RX6 nm rt d G X post bc bs mi ml mr dom (pc + 2) lv (.ref 508 :: st)) : J cc nL RX6 nm rt d G X post bc bs mi ml mr dom pc lv st := j_ldcS (i := 8) (tx := "dusk") (by decide) (by decide) hd kk
theorem j_ldcS6_196 (hd : decode cc pc = .ok (.ldc 196, 2)) (kk : J cc nL RX6 nm rt d G X post bc bs mi ml mr dom (pc + 2) lv (.ref 509 :: st)) : J cc nL RX6 nm rt d G X post bc bs mi ml mr dom pc lv st := j_ldcS (i := 9) (tx := "door") (by decide) (by decide) hd kk
theorem j_ldcS6_203 (hd : decode cc pc = .ok (.ldc 203, 2)) (kk : J cc nL RX6 nm rt d G X post bc bs mi ml mr dom (pc + 2) lv (.ref 510 :: st)) : J cc nL RX6 nm rt d G X post bc bs mi ml mr dom pc lv st := j_ldcS (i := 10) (tx := "sill") (by decide) (by decide) hd kk
theorem j_ldcS6_217 (hd : decode cc pc = .ok (.ldc 217, 2)) (kk : J cc nL RX6 nm rt d G X post bc bs mi ml mr dom (pc + 2) lv (.ref 511 :: st)) : J cc nL RX6 nm rt d G X post bc bs mi ml mr dom pc lv st := j_ldcS (i := 11) (tx := "minutes") (by decide) (by decide) hd kk
theorem j_ldcS6_313 (hd : decode cc pc = .ok (.ldc_w 313, 3)) (kk : J cc nL RX6 nm rt d G X post bc bs mi ml mr dom (pc + 3) lv (.ref 512 :: st)) : J cc nL RX6 nm rt d G X post bc bs mi ml mr dom pc lv st := j_ldcSw (i := 12) (tx := "adult") (by decide) (by decide) hd kk
theorem j_ldcS6_315 (hd : decode cc pc = .ok (.ldc_w 315, 3)) (kk : J cc nL RX6 nm rt d G X post bc bs mi ml mr dom (pc + 3) lv (.ref 513 :: st)) : J cc nL RX6 nm rt d G X post bc bs mi ml mr dom pc lv st := j_ldcSw (i := 13) (tx := "child") (by decide) (by decide) hd kk
theorem j_ldcS6_317 (hd : decode cc pc = .ok (.ldc_w 317, 3)) (kk : J cc nL RX6 nm rt d G X post bc bs mi ml mr dom (pc + 3) lv (.ref 514 :: st)) : J cc nL RX6 nm rt d G X post bc bs mi ml mr dom pc lv st := j_ldcSw (i := 14) (tx := "mermaid") (by decide) (by decide) hd kk
theorem j_ldcS6_236 (hd : decode cc pc = .ok (.ldc 236, 2)) (kk : J cc nL RX6 nm rt d G X post bc bs mi ml mr dom (pc + 2) lv (.ref 515 :: st)) : J cc nL RX6 nm rt d G X post bc bs mi ml mr dom pc lv st := j_ldcS (i := 15) (tx := "of") (by decide) (by decide) hd kk
theorem j_ldcS6_241 (hd : decode cc pc = .ok (.ldc 241, 2)) (kk : J cc nL RX6 nm rt d G X post bc bs mi ml mr dom (pc + 2) lv (.ref 516 :: st)) : J cc nL RX6 nm rt d G X post bc bs mi ml mr dom pc lv st := j_ldcS (i := 16) (tx := "tall") (by decide) (by decide) hd kk
theorem j_ldcS6_246 (hd : decode cc pc = .ok (.ldc 246, 2)) (kk : J cc nL RX6 nm rt d G X post bc bs mi ml mr dom (pc + 2) lv (.ref 517 :: st)) : J cc nL RX6 nm rt d G X post bc bs mi ml mr dom pc lv st := j_ldcS (i := 17) (tx := "upper") (by decide) (by decide) hd kk
theorem j_ldcS6_258 (hd : decode cc pc = .ok (.ldc_w 258, 3)) (kk : J cc nL RX6 nm rt d G X post bc bs mi ml mr dom (pc + 3) lv (.ref 518 :: st)) : J cc nL RX6 nm rt d G X post bc bs mi ml mr dom pc lv st := j_ldcSw (i := 18) (tx := "lower") (by decide) (by decide) hd kk
theorem j_ldcS6_264 (hd : decode cc pc = .ok (.ldc_w 264, 3)) (kk : J cc nL RX6 nm rt d G X post bc bs mi ml mr dom (pc + 3) lv (.ref 519 :: st)) : J cc nL RX6 nm rt d G X post bc bs mi ml mr dom pc lv st := j_ldcSw (i := 19) (tx := "size") (by decide) (by decide) hd kk
theorem j_ldcS6_271 (hd : decode cc pc = .ok (.ldc_w 271, 3)) (kk : J cc nL RX6 nm rt d G X post bc bs mi ml mr dom (pc + 3) lv (.ref 520 :: st)) : J cc nL RX6 nm rt d G X post bc bs mi ml mr dom pc lv st := j_ldcSw (i := 20) (tx := "at") (by decide) (by decide) hd kk
theorem j_ldcS6_275 (hd : decode cc pc = .ok (.ldc_w 275, 3)) (kk : J cc nL RX6 nm rt d G X post bc bs mi ml mr dom (pc + 3) lv (.ref 521 :: st)) : J cc nL RX6 nm rt d G X post bc bs mi ml mr dom pc lv st := j_ldcSw (i := 21) (tx := "to") (by decide) (by decide) hd kk
theorem j_ldcS6_292 (hd : decode cc pc = .ok (.ldc_w 292, 3)) (kk : J cc nL RX6 nm rt d G X post bc bs mi ml mr dom (pc + 3) lv (.ref 522 :: st)) : J cc nL RX6 nm rt d G X post bc bs mi ml mr dom pc lv st := j_ldcSw (i := 22) (tx := "hour") (by decide) (by decide) hd kk
theorem j_ldcS6_306 (hd : decode cc pc = .ok (.ldc_w 306, 3)) (kk : J cc nL RX6 nm rt d G X post bc bs mi ml mr dom (pc + 3) lv (.ref 523 :: st)) : J cc nL RX6 nm rt d G X post bc bs mi ml mr dom pc lv st := j_ldcSw (i := 23) (tx := "night") (by decide) (by decide) hd kk
theorem j_ldcS13_143 (hd : decode cc pc = .ok (.ldc 143, 2)) (kk : J cc nL RX13 nm rt d G X post bc bs mi ml mr dom (pc + 2) lv (.ref 500 :: st)) : J cc nL RX13 nm rt d G X post bc bs mi ml mr dom pc lv st := j_ldcS (i := 0) (tx := "town") (by decide) (by decide) hd kk
theorem j_ldcS13_223 (hd : decode cc pc = .ok (.ldc 223, 2)) (kk : J cc nL RX13 nm rt d G X post bc bs mi ml mr dom (pc + 2) lv (.ref 507 :: st)) : J cc nL RX13 nm rt d G X post bc bs mi ml mr dom pc lv st := j_ldcS (i := 7) (tx := "dawn") (by decide) (by decide) hd kk
theorem j_ldcS13_229 (hd : decode cc pc = .ok (.ldc 229, 2)) (kk : J cc nL RX13 nm rt d G X post bc bs mi ml mr dom (pc + 2) lv (.ref 508 :: st)) : J cc nL RX13 nm rt d G X post bc bs mi ml mr dom pc lv st := j_ldcS (i := 8) (tx := "dusk") (by decide) (by decide) hd kk
theorem j_ldcS13_231 (hd : decode cc pc = .ok (.ldc 231, 2)) (kk : J cc nL RX13 nm rt d G X post bc bs mi ml mr dom (pc + 2) lv (.ref 509 :: st)) : J cc nL RX13 nm rt d G X post bc bs mi ml mr dom pc lv st := j_ldcS (i := 9) (tx := "door") (by decide) (by decide) hd kk
theorem j_ldcS13_145 (hd : decode cc pc = .ok (.ldc 145, 2)) (kk : J cc nL RX13 nm rt d G X post bc bs mi ml mr dom (pc + 2) lv (.ref 501 :: st)) : J cc nL RX13 nm rt d G X post bc bs mi ml mr dom pc lv st := j_ldcS (i := 1) (tx := "house") (by decide) (by decide) hd kk
theorem j_ldcS13_147 (hd : decode cc pc = .ok (.ldc 147, 2)) (kk : J cc nL RX13 nm rt d G X post bc bs mi ml mr dom (pc + 2) lv (.ref 502 :: st)) : J cc nL RX13 nm rt d G X post bc bs mi ml mr dom pc lv st := j_ldcS (i := 2) (tx := "lane") (by decide) (by decide) hd kk
theorem j_ldcS13_149 (hd : decode cc pc = .ok (.ldc 149, 2)) (kk : J cc nL RX13 nm rt d G X post bc bs mi ml mr dom (pc + 2) lv (.ref 503 :: st)) : J cc nL RX13 nm rt d G X post bc bs mi ml mr dom pc lv st := j_ldcS (i := 3) (tx := "person") (by decide) (by decide) hd kk
theorem j_ldcS13_151 (hd : decode cc pc = .ok (.ldc 151, 2)) (kk : J cc nL RX13 nm rt d G X post bc bs mi ml mr dom (pc + 2) lv (.ref 504 :: st)) : J cc nL RX13 nm rt d G X post bc bs mi ml mr dom pc lv st := j_ldcS (i := 4) (tx := "good") (by decide) (by decide) hd kk
theorem j_ldcS13_153 (hd : decode cc pc = .ok (.ldc 153, 2)) (kk : J cc nL RX13 nm rt d G X post bc bs mi ml mr dom (pc + 2) lv (.ref 505 :: st)) : J cc nL RX13 nm rt d G X post bc bs mi ml mr dom pc lv st := j_ldcS (i := 5) (tx := "visit") (by decide) (by decide) hd kk
theorem j_ldcS13_155 (hd : decode cc pc = .ok (.ldc 155, 2)) (kk : J cc nL RX13 nm rt d G X post bc bs mi ml mr dom (pc + 2) lv (.ref 506 :: st)) : J cc nL RX13 nm rt d G X post bc bs mi ml mr dom pc lv st := j_ldcS (i := 6) (tx := "print") (by decide) (by decide) hd kk
theorem j_ldcS13_244 (hd : decode cc pc = .ok (.ldc 244, 2)) (kk : J cc nL RX13 nm rt d G X post bc bs mi ml mr dom (pc + 2) lv (.ref 510 :: st)) : J cc nL RX13 nm rt d G X post bc bs mi ml mr dom pc lv st := j_ldcS (i := 10) (tx := "sill") (by decide) (by decide) hd kk
theorem j_ldcS13_260 (hd : decode cc pc = .ok (.ldc_w 260, 3)) (kk : J cc nL RX13 nm rt d G X post bc bs mi ml mr dom (pc + 3) lv (.ref 511 :: st)) : J cc nL RX13 nm rt d G X post bc bs mi ml mr dom pc lv st := j_ldcSw (i := 11) (tx := "minutes") (by decide) (by decide) hd kk
theorem j_ldcS13_261 (hd : decode cc pc = .ok (.ldc_w 261, 3)) (kk : J cc nL RX13 nm rt d G X post bc bs mi ml mr dom (pc + 3) lv (.ref 512 :: st)) : J cc nL RX13 nm rt d G X post bc bs mi ml mr dom pc lv st := j_ldcSw (i := 12) (tx := "adult") (by decide) (by decide) hd kk
theorem j_ldcS13_263 (hd : decode cc pc = .ok (.ldc_w 263, 3)) (kk : J cc nL RX13 nm rt d G X post bc bs mi ml mr dom (pc + 3) lv (.ref 513 :: st)) : J cc nL RX13 nm rt d G X post bc bs mi ml mr dom pc lv st := j_ldcSw (i := 13) (tx := "child") (by decide) (by decide) hd kk
theorem j_ldcS13_265 (hd : decode cc pc = .ok (.ldc_w 265, 3)) (kk : J cc nL RX13 nm rt d G X post bc bs mi ml mr dom (pc + 3) lv (.ref 514 :: st)) : J cc nL RX13 nm rt d G X post bc bs mi ml mr dom pc lv st := j_ldcSw (i := 14) (tx := "mermaid") (by decide) (by decide) hd kk
theorem j_ldcS13_267 (hd : decode cc pc = .ok (.ldc_w 267, 3)) (kk : J cc nL RX13 nm rt d G X post bc bs mi ml mr dom (pc + 3) lv (.ref 515 :: st)) : J cc nL RX13 nm rt d G X post bc bs mi ml mr dom pc lv st := j_ldcSw (i := 15) (tx := "of") (by decide) (by decide) hd kk
theorem j_ldcS13_269 (hd : decode cc pc = .ok (.ldc_w 269, 3)) (kk : J cc nL RX13 nm rt d G X post bc bs mi ml mr dom (pc + 3) lv (.ref 516 :: st)) : J cc nL RX13 nm rt d G X post bc bs mi ml mr dom pc lv st := j_ldcSw (i := 16) (tx := "tall") (by decide) (by decide) hd kk
theorem j_ldcS13_271 (hd : decode cc pc = .ok (.ldc_w 271, 3)) (kk : J cc nL RX13 nm rt d G X post bc bs mi ml mr dom (pc + 3) lv (.ref 517 :: st)) : J cc nL RX13 nm rt d G X post bc bs mi ml mr dom pc lv st := j_ldcSw (i := 17) (tx := "upper") (by decide) (by decide) hd kk
theorem j_ldcS13_276 (hd : decode cc pc = .ok (.ldc_w 276, 3)) (kk : J cc nL RX13 nm rt d G X post bc bs mi ml mr dom (pc + 3) lv (.ref 518 :: st)) : J cc nL RX13 nm rt d G X post bc bs mi ml mr dom pc lv st := j_ldcSw (i := 18) (tx := "lower") (by decide) (by decide) hd kk
theorem j_ldcS13_291 (hd : decode cc pc = .ok (.ldc_w 291, 3)) (kk : J cc nL RX13 nm rt d G X post bc bs mi ml mr dom (pc + 3) lv (.ref 519 :: st)) : J cc nL RX13 nm rt d G X post bc bs mi ml mr dom pc lv st := j_ldcSw (i := 19) (tx := "size") (by decide) (by decide) hd kk
theorem j_ldcS13_292 (hd : decode cc pc = .ok (.ldc_w 292, 3)) (kk : J cc nL RX13 nm rt d G X post bc bs mi ml mr dom (pc + 3) lv (.ref 520 :: st)) : J cc nL RX13 nm rt d G X post bc bs mi ml mr dom pc lv st := j_ldcSw (i := 20) (tx := "at") (by decide) (by decide) hd kk
theorem j_ldcS13_294 (hd : decode cc pc = .ok (.ldc_w 294, 3)) (kk : J cc nL RX13 nm rt d G X post bc bs mi ml mr dom (pc + 3) lv (.ref 521 :: st)) : J cc nL RX13 nm rt d G X post bc bs mi ml mr dom pc lv st := j_ldcSw (i := 21) (tx := "to") (by decide) (by decide) hd kk
theorem j_ldcS13_305 (hd : decode cc pc = .ok (.ldc_w 305, 3)) (kk : J cc nL RX13 nm rt d G X post bc bs mi ml mr dom (pc + 3) lv (.ref 522 :: st)) : J cc nL RX13 nm rt d G X post bc bs mi ml mr dom pc lv st := j_ldcSw (i := 22) (tx := "hour") (by decide) (by decide) hd kk
theorem j_ldcS13_319 (hd : decode cc pc = .ok (.ldc_w 319, 3)) (kk : J cc nL RX13 nm rt d G X post bc bs mi ml mr dom (pc + 3) lv (.ref 523 :: st)) : J cc nL RX13 nm rt d G X post bc bs mi ml mr dom pc lv st := j_ldcSw (i := 23) (tx := "night") (by decide) (by decide) hd kk
end STRA

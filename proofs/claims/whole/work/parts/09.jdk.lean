/-! JDK's own methods: Math.max, min, Integer.bitCount, Arrays.fill: names, decode rows, links -/
def yJ_bitCount : MethodName := ⟨"java/lang/Integer", "bitCount", "(I)I"⟩
abbrev cJ_bitCount : ByteArray := prog_20_method_49_code
theorem dJ_bitCount_0 : decode cJ_bitCount 0 = .ok (.iload_n 0, 1) := by decide +kernel
theorem dJ_bitCount_1 : decode cJ_bitCount 1 = .ok (.iload_n 0, 1) := by decide +kernel
theorem dJ_bitCount_2 : decode cJ_bitCount 2 = .ok (.iconst 1, 1) := by decide +kernel
theorem dJ_bitCount_3 : decode cJ_bitCount 3 = .ok (.iushr, 1) := by decide +kernel
theorem dJ_bitCount_4 : decode cJ_bitCount 4 = .ok (.ldc_w 265, 3) := by decide +kernel
theorem dJ_bitCount_7 : decode cJ_bitCount 7 = .ok (.iand, 1) := by decide +kernel
theorem dJ_bitCount_8 : decode cJ_bitCount 8 = .ok (.isub, 1) := by decide +kernel
theorem dJ_bitCount_9 : decode cJ_bitCount 9 = .ok (.istore_n 0, 1) := by decide +kernel
theorem dJ_bitCount_10 : decode cJ_bitCount 10 = .ok (.iload_n 0, 1) := by decide +kernel
theorem dJ_bitCount_11 : decode cJ_bitCount 11 = .ok (.ldc_w 266, 3) := by decide +kernel
theorem dJ_bitCount_14 : decode cJ_bitCount 14 = .ok (.iand, 1) := by decide +kernel
theorem dJ_bitCount_15 : decode cJ_bitCount 15 = .ok (.iload_n 0, 1) := by decide +kernel
theorem dJ_bitCount_16 : decode cJ_bitCount 16 = .ok (.iconst 2, 1) := by decide +kernel
theorem dJ_bitCount_17 : decode cJ_bitCount 17 = .ok (.iushr, 1) := by decide +kernel
theorem dJ_bitCount_18 : decode cJ_bitCount 18 = .ok (.ldc_w 266, 3) := by decide +kernel
theorem dJ_bitCount_21 : decode cJ_bitCount 21 = .ok (.iand, 1) := by decide +kernel
theorem dJ_bitCount_22 : decode cJ_bitCount 22 = .ok (.iadd, 1) := by decide +kernel
theorem dJ_bitCount_23 : decode cJ_bitCount 23 = .ok (.istore_n 0, 1) := by decide +kernel
theorem dJ_bitCount_24 : decode cJ_bitCount 24 = .ok (.iload_n 0, 1) := by decide +kernel
theorem dJ_bitCount_25 : decode cJ_bitCount 25 = .ok (.iload_n 0, 1) := by decide +kernel
theorem dJ_bitCount_26 : decode cJ_bitCount 26 = .ok (.iconst 4, 1) := by decide +kernel
theorem dJ_bitCount_27 : decode cJ_bitCount 27 = .ok (.iushr, 1) := by decide +kernel
theorem dJ_bitCount_28 : decode cJ_bitCount 28 = .ok (.iadd, 1) := by decide +kernel
theorem dJ_bitCount_29 : decode cJ_bitCount 29 = .ok (.ldc_w 267, 3) := by decide +kernel
theorem dJ_bitCount_32 : decode cJ_bitCount 32 = .ok (.iand, 1) := by decide +kernel
theorem dJ_bitCount_33 : decode cJ_bitCount 33 = .ok (.istore_n 0, 1) := by decide +kernel
theorem dJ_bitCount_34 : decode cJ_bitCount 34 = .ok (.iload_n 0, 1) := by decide +kernel
theorem dJ_bitCount_35 : decode cJ_bitCount 35 = .ok (.iload_n 0, 1) := by decide +kernel
theorem dJ_bitCount_36 : decode cJ_bitCount 36 = .ok (.bipush 8, 2) := by decide +kernel
theorem dJ_bitCount_38 : decode cJ_bitCount 38 = .ok (.iushr, 1) := by decide +kernel
theorem dJ_bitCount_39 : decode cJ_bitCount 39 = .ok (.iadd, 1) := by decide +kernel
theorem dJ_bitCount_40 : decode cJ_bitCount 40 = .ok (.istore_n 0, 1) := by decide +kernel
theorem dJ_bitCount_41 : decode cJ_bitCount 41 = .ok (.iload_n 0, 1) := by decide +kernel
theorem dJ_bitCount_42 : decode cJ_bitCount 42 = .ok (.iload_n 0, 1) := by decide +kernel
theorem dJ_bitCount_43 : decode cJ_bitCount 43 = .ok (.bipush 16, 2) := by decide +kernel
theorem dJ_bitCount_45 : decode cJ_bitCount 45 = .ok (.iushr, 1) := by decide +kernel
theorem dJ_bitCount_46 : decode cJ_bitCount 46 = .ok (.iadd, 1) := by decide +kernel
theorem dJ_bitCount_47 : decode cJ_bitCount 47 = .ok (.istore_n 0, 1) := by decide +kernel
theorem dJ_bitCount_48 : decode cJ_bitCount 48 = .ok (.iload_n 0, 1) := by decide +kernel
theorem dJ_bitCount_49 : decode cJ_bitCount 49 = .ok (.bipush 63, 2) := by decide +kernel
theorem dJ_bitCount_51 : decode cJ_bitCount 51 = .ok (.iand, 1) := by decide +kernel
theorem dJ_bitCount_52 : decode cJ_bitCount 52 = .ok (.ireturn, 1) := by decide +kernel
def yJ_fill : MethodName := ⟨"java/util/Arrays", "fill", "([II)V"⟩
abbrev cJ_fill : ByteArray := prog_30_method_103_code
theorem dJ_fill_0 : decode cJ_fill 0 = .ok (.iconst 0, 1) := by decide +kernel
theorem dJ_fill_1 : decode cJ_fill 1 = .ok (.istore_n 2, 1) := by decide +kernel
theorem dJ_fill_2 : decode cJ_fill 2 = .ok (.aload_n 0, 1) := by decide +kernel
theorem dJ_fill_3 : decode cJ_fill 3 = .ok (.arraylength, 1) := by decide +kernel
theorem dJ_fill_4 : decode cJ_fill 4 = .ok (.istore_n 3, 1) := by decide +kernel
theorem dJ_fill_5 : decode cJ_fill 5 = .ok (.iload_n 2, 1) := by decide +kernel
theorem dJ_fill_6 : decode cJ_fill 6 = .ok (.iload_n 3, 1) := by decide +kernel
theorem dJ_fill_7 : decode cJ_fill 7 = .ok (.if_icmp .ge 13, 3) := by decide +kernel
theorem dJ_fill_10 : decode cJ_fill 10 = .ok (.aload_n 0, 1) := by decide +kernel
theorem dJ_fill_11 : decode cJ_fill 11 = .ok (.iload_n 2, 1) := by decide +kernel
theorem dJ_fill_12 : decode cJ_fill 12 = .ok (.iload_n 1, 1) := by decide +kernel
theorem dJ_fill_13 : decode cJ_fill 13 = .ok (.iastore, 1) := by decide +kernel
theorem dJ_fill_14 : decode cJ_fill 14 = .ok (.iinc 2 1, 3) := by decide +kernel
theorem dJ_fill_17 : decode cJ_fill 17 = .ok (.goto (-12), 3) := by decide +kernel
theorem dJ_fill_20 : decode cJ_fill 20 = .ok (.return_, 1) := by decide +kernel
section LKJ
variable {cc : ByteArray} {nL : Nat} {nm : String} {rt : Option FieldType} {d : Nat} {G : GG} {X : Cx} {post : PT} {bc bs : Nat} {mi : MI} {ml : ML} {mr : MR} {dom : List Nat} {pc : Nat} {lv : List (Option Value)} {st : List Value} {a b : Nat}
theorem j_iinc1 {own : String} {i : Nat} {x : Int32} {lv2 : List (Option Value)} (hd : decode cc pc = .ok (.iinc i 1, 3)) (hg : lv[i]? = some (some (.int x))) (hn : i < nL) (hz : nolong lv i = true) (h2 : lv.set i (some (.int (x + 1))) = lv2) (k : J cc nL own nm rt d G X post bc bs mi ml mr dom (pc + 3) lv2 st) : J cc nL own nm rt d G X post bc bs mi ml mr dom pc lv st := j_iinc hd hg (by rfl) hn hz h2 k
theorem j_iincm {own : String} {i : Nat} {x : Int32} {lv2 : List (Option Value)} (hd : decode cc pc = .ok (.iinc i (-1), 3)) (hg : lv[i]? = some (some (.int x))) (hn : i < nL) (hz : nolong lv i = true) (h2 : lv.set i (some (.int (x - 1))) = lv2) (k : J cc nL own nm rt d G X post bc bs mi ml mr dom (pc + 3) lv2 st) : J cc nL own nm rt d G X post bc bs mi ml mr dom pc lv st := j_iinc hd hg (by rw [Int32.sub_eq_add_neg]; rfl) hn hz h2 k
theorem cS2_25 {d1 : Nat} {x0 : Nat} {x1 : Int32} (hd : decode cc pc = .ok (.invokestatic 25, 3)) (hdd : d1 + 1 ≤ d) (hst : (st.map fun v => v.category).sum ≤ 8) (ct : CT G d1 0 0 yJ_fill cJ_fill 4 none [.ref x0, .int x1] mi ml mr dom (fun v mi ml mr dom => J cc nL RX2 nm rt d G X post bc bs mi ml mr dom (pc + 3) lv (vst v st))) : J cc nL RX2 nm rt d G X post bc bs mi ml mr dom pc lv (.int x1 :: .ref x0 :: st) := j_callS (y := yJ_fill) (mc' := 0) (ms' := 0) (n := 2) wd124 wd633 wd634 wd635 ⟨by decide +kernel, by decide +kernel, by decide +kernel⟩ rfl (by decide) hd hdd (Nat.zero_le _) (Nat.zero_le _) hst rfl ct
theorem cS11_196 {d1 : Nat} {x0 : Int32} (hd : decode cc pc = .ok (.invokestatic 196, 3)) (hdd : d1 + 1 ≤ d) (hst : (st.map fun v => v.category).sum ≤ 8) (ct : CT G d1 0 0 yJ_bitCount cJ_bitCount 1 (some .int) [.int x0] mi ml mr dom (fun v mi ml mr dom => J cc nL RX11 nm rt d G X post bc bs mi ml mr dom (pc + 3) lv (vst v st))) : J cc nL RX11 nm rt d G X post bc bs mi ml mr dom pc lv (.int x0 :: st) := j_callS (y := yJ_bitCount) (mc' := 0) (ms' := 0) (n := 1) wd126 wd901 wd902 wd903 ⟨by decide +kernel, by decide +kernel, by decide +kernel⟩ rfl (by decide) hd hdd (Nat.zero_le _) (Nat.zero_le _) hst rfl ct
theorem cS9_144 {d1 : Nat} {x0 : Nat} {x1 : Int32} (hd : decode cc pc = .ok (.invokestatic 144, 3)) (hdd : d1 + 1 ≤ d) (hst : (st.map fun v => v.category).sum ≤ 8) (ct : CT G d1 0 0 yJ_fill cJ_fill 4 none [.ref x0, .int x1] mi ml mr dom (fun v mi ml mr dom => J cc nL RX9 nm rt d G X post bc bs mi ml mr dom (pc + 3) lv (vst v st))) : J cc nL RX9 nm rt d G X post bc bs mi ml mr dom pc lv (.int x1 :: .ref x0 :: st) := j_callS (y := yJ_fill) (mc' := 0) (ms' := 0) (n := 2) wd124 wd1072 wd634 wd635 ⟨by decide +kernel, by decide +kernel, by decide +kernel⟩ rfl (by decide) hd hdd (Nat.zero_le _) (Nat.zero_le _) hst rfl ct
theorem cS7_25 {d1 : Nat} {x0 : Nat} {x1 : Int32} (hd : decode cc pc = .ok (.invokestatic 25, 3)) (hdd : d1 + 1 ≤ d) (hst : (st.map fun v => v.category).sum ≤ 8) (ct : CT G d1 0 0 yJ_fill cJ_fill 4 none [.ref x0, .int x1] mi ml mr dom (fun v mi ml mr dom => J cc nL RX7 nm rt d G X post bc bs mi ml mr dom (pc + 3) lv (vst v st))) : J cc nL RX7 nm rt d G X post bc bs mi ml mr dom pc lv (.int x1 :: .ref x0 :: st) := j_callS (y := yJ_fill) (mc' := 0) (ms' := 0) (n := 2) wd124 wd1099 wd634 wd635 ⟨by decide +kernel, by decide +kernel, by decide +kernel⟩ rfl (by decide) hd hdd (Nat.zero_le _) (Nat.zero_le _) hst rfl ct
theorem cS8_34 {d1 : Nat} {x0 : Nat} {x1 : Int32} (hd : decode cc pc = .ok (.invokestatic 34, 3)) (hdd : d1 + 1 ≤ d) (hst : (st.map fun v => v.category).sum ≤ 8) (ct : CT G d1 0 0 yJ_fill cJ_fill 4 none [.ref x0, .int x1] mi ml mr dom (fun v mi ml mr dom => J cc nL RX8 nm rt d G X post bc bs mi ml mr dom (pc + 3) lv (vst v st))) : J cc nL RX8 nm rt d G X post bc bs mi ml mr dom pc lv (.int x1 :: .ref x0 :: st) := j_callS (y := yJ_fill) (mc' := 0) (ms' := 0) (n := 2) wd124 wd1168 wd634 wd635 ⟨by decide +kernel, by decide +kernel, by decide +kernel⟩ rfl (by decide) hd hdd (Nat.zero_le _) (Nat.zero_le _) hst rfl ct
theorem wdM_max_s : Cond.static Lib.Math.max.name ∈ wtbl := wt4 95 (by decide +kernel) (by decide +kernel)
theorem wdM_max_c : Cond.code Lib.Math.max.name Lib.Math.max.code 2 (some .int) ∈ wtbl := wt4 96 (by decide +kernel) (by decide +kernel)
def imax (x y : Int32) : Int32 := if x < y then y else x
theorem j_mmax {own : String} {index : Nat} {x y : Int32} (hlink : Cond.methodLink own index Lib.Math.max.name ∈ wtbl) (hd : decode cc pc = .ok (.invokestatic index, 3)) (hdd : 1 ≤ d) (hst : (st.map fun v => v.category).sum ≤ 8) (k : J cc nL own nm rt d G X post bc bs mi ml mr dom (pc + 3) lv (.int (imax x y) :: st)) : J cc nL own nm rt d G X post bc bs mi ml mr dom pc lv (.int y :: .int x :: st) := by
  obtain ⟨p, l, e, R, s, m, args, below, meth, c, ad0, dom0⟩ := X
  intro ok ad H locs cells slots ls hR hS hE hc2 hs hl hol hos
  refine va_mmax ok.1 ok.2.1 (ok.2.2.1.trans hl.1.symm) ok.2.2.2.1 (ok.2.2.2.2.1 _ hlink) (ok.2.2.2.2.1 _ wdM_max_s) (ok.2.2.2.2.1 _ wd123) (ok.2.2.2.2.1 _ wdM_max_c) (by rw [ok.2.2.2.2.2.2.2.2.2.1]; exact hdd) ?_ (by omega) (by omega) hd (k ok ad H locs cells slots ls hR hS hE hc2 hs hl hol (hos.t.t.c (okv_int _ _)))
  rw [ok.2.2.2.2.2.2.2.2.2.2, rn_cats]; omega
theorem j_mmax3_37 {x y : Int32} (hd : decode cc pc = .ok (.invokestatic 37, 3)) (hdd : 1 ≤ d) (hst : (st.map fun v => v.category).sum ≤ 8) (k : J cc nL RX3 nm rt d G X post bc bs mi ml mr dom (pc + 3) lv (.int (imax x y) :: st)) : J cc nL RX3 nm rt d G X post bc bs mi ml mr dom pc lv (.int y :: .int x :: st) := j_mmax (wt4 94 (by decide +kernel) (by decide +kernel)) hd hdd hst k
theorem j_mmax9_127 {x y : Int32} (hd : decode cc pc = .ok (.invokestatic 127, 3)) (hdd : 1 ≤ d) (hst : (st.map fun v => v.category).sum ≤ 8) (k : J cc nL RX9 nm rt d G X post bc bs mi ml mr dom (pc + 3) lv (.int (imax x y) :: st)) : J cc nL RX9 nm rt d G X post bc bs mi ml mr dom pc lv (.int y :: .int x :: st) := j_mmax (wt4 115 (by decide +kernel) (by decide +kernel)) hd hdd hst k
theorem j_mmax0_51 {x y : Int32} (hd : decode cc pc = .ok (.invokestatic 51, 3)) (hdd : 1 ≤ d) (hst : (st.map fun v => v.category).sum ≤ 8) (k : J cc nL RX0 nm rt d G X post bc bs mi ml mr dom (pc + 3) lv (.int (imax x y) :: st)) : J cc nL RX0 nm rt d G X post bc bs mi ml mr dom pc lv (.int y :: .int x :: st) := j_mmax (wt4 210 (by decide +kernel) (by decide +kernel)) hd hdd hst k
theorem j_mmax7_63 {x y : Int32} (hd : decode cc pc = .ok (.invokestatic 63, 3)) (hdd : 1 ≤ d) (hst : (st.map fun v => v.category).sum ≤ 8) (k : J cc nL RX7 nm rt d G X post bc bs mi ml mr dom (pc + 3) lv (.int (imax x y) :: st)) : J cc nL RX7 nm rt d G X post bc bs mi ml mr dom pc lv (.int y :: .int x :: st) := j_mmax (wt5 86 (by decide +kernel) (by decide +kernel)) hd hdd hst k
theorem j_mmax8_44 {x y : Int32} (hd : decode cc pc = .ok (.invokestatic 44, 3)) (hdd : 1 ≤ d) (hst : (st.map fun v => v.category).sum ≤ 8) (k : J cc nL RX8 nm rt d G X post bc bs mi ml mr dom (pc + 3) lv (.int (imax x y) :: st)) : J cc nL RX8 nm rt d G X post bc bs mi ml mr dom pc lv (.int y :: .int x :: st) := j_mmax (wt5 105 (by decide +kernel) (by decide +kernel)) hd hdd hst k
theorem wdM_min_s : Cond.static Lib.Math.min.name ∈ wtbl := wt3 38 (by decide +kernel) (by decide +kernel)
theorem wdM_min_c : Cond.code Lib.Math.min.name Lib.Math.min.code 2 (some .int) ∈ wtbl := wt3 39 (by decide +kernel) (by decide +kernel)
def imin (x y : Int32) : Int32 := if y < x then y else x
theorem j_mmin {own : String} {index : Nat} {x y : Int32} (hlink : Cond.methodLink own index Lib.Math.min.name ∈ wtbl) (hd : decode cc pc = .ok (.invokestatic index, 3)) (hdd : 1 ≤ d) (hst : (st.map fun v => v.category).sum ≤ 8) (k : J cc nL own nm rt d G X post bc bs mi ml mr dom (pc + 3) lv (.int (imin x y) :: st)) : J cc nL own nm rt d G X post bc bs mi ml mr dom pc lv (.int y :: .int x :: st) := by
  obtain ⟨p, l, e, R, s, m, args, below, meth, c, ad0, dom0⟩ := X
  intro ok ad H locs cells slots ls hR hS hE hc2 hs hl hol hos
  refine va_mmin ok.1 ok.2.1 (ok.2.2.1.trans hl.1.symm) ok.2.2.2.1 (ok.2.2.2.2.1 _ hlink) (ok.2.2.2.2.1 _ wdM_min_s) (ok.2.2.2.2.1 _ wd123) (ok.2.2.2.2.1 _ wdM_min_c) (by rw [ok.2.2.2.2.2.2.2.2.2.1]; exact hdd) ?_ (by omega) (by omega) hd (k ok ad H locs cells slots ls hR hS hE hc2 hs hl hol (hos.t.t.c (okv_int _ _)))
  rw [ok.2.2.2.2.2.2.2.2.2.2, rn_cats]; omega
theorem j_mmin6_76 {x y : Int32} (hd : decode cc pc = .ok (.invokestatic 76, 3)) (hdd : 1 ≤ d) (hst : (st.map fun v => v.category).sum ≤ 8) (k : J cc nL RX6 nm rt d G X post bc bs mi ml mr dom (pc + 3) lv (.int (imin x y) :: st)) : J cc nL RX6 nm rt d G X post bc bs mi ml mr dom pc lv (.int y :: .int x :: st) := j_mmin (wt3 37 (by decide +kernel) (by decide +kernel)) hd hdd hst k
theorem j_mmin2_40 {x y : Int32} (hd : decode cc pc = .ok (.invokestatic 40, 3)) (hdd : 1 ≤ d) (hst : (st.map fun v => v.category).sum ≤ 8) (k : J cc nL RX2 nm rt d G X post bc bs mi ml mr dom (pc + 3) lv (.int (imin x y) :: st)) : J cc nL RX2 nm rt d G X post bc bs mi ml mr dom pc lv (.int y :: .int x :: st) := j_mmin (wt3 192 (by decide +kernel) (by decide +kernel)) hd hdd hst k
theorem j_mmin0_65 {x y : Int32} (hd : decode cc pc = .ok (.invokestatic 65, 3)) (hdd : 1 ≤ d) (hst : (st.map fun v => v.category).sum ≤ 8) (k : J cc nL RX0 nm rt d G X post bc bs mi ml mr dom (pc + 3) lv (.int (imin x y) :: st)) : J cc nL RX0 nm rt d G X post bc bs mi ml mr dom pc lv (.int y :: .int x :: st) := j_mmin (wt4 199 (by decide +kernel) (by decide +kernel)) hd hdd hst k
theorem j_mmin9_154 {x y : Int32} (hd : decode cc pc = .ok (.invokestatic 154, 3)) (hdd : 1 ≤ d) (hst : (st.map fun v => v.category).sum ≤ 8) (k : J cc nL RX9 nm rt d G X post bc bs mi ml mr dom (pc + 3) lv (.int (imin x y) :: st)) : J cc nL RX9 nm rt d G X post bc bs mi ml mr dom pc lv (.int y :: .int x :: st) := j_mmin (wt5 9 (by decide +kernel) (by decide +kernel)) hd hdd hst k
theorem j_mmin4_70 {x y : Int32} (hd : decode cc pc = .ok (.invokestatic 70, 3)) (hdd : 1 ≤ d) (hst : (st.map fun v => v.category).sum ≤ 8) (k : J cc nL RX4 nm rt d G X post bc bs mi ml mr dom (pc + 3) lv (.int (imin x y) :: st)) : J cc nL RX4 nm rt d G X post bc bs mi ml mr dom pc lv (.int y :: .int x :: st) := j_mmin (wt5 143 (by decide +kernel) (by decide +kernel)) hd hdd hst k
end LKJ

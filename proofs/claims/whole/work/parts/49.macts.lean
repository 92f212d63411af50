/-! the reference: acts, sizes, draws -/
section M13d
variable {G : GG} {post : PT} {mi : MI} {ml : ML} {mr : MR} {dom : List Nat} {M : Nat} {t : TW} {v : Nat → Nat}
theorem mx_size0  (hX : XM mr) (hM : MM M) (hY : XT mr M) (hTn : mr 1000 3 = some M) (hg : GB t) (hW : WT t) (hR : RM mi M t)  (hp : post (some (.int (nI (t 0 0)))) (up mi 1000 0 0) ml mr dom) : CT G 2 0 0 yX13_size cX13_size 2 (some .int) [.ref 1000, .int (nI 0)] mi ml mr dom post := by
  have w := hW.1
  have hge := hM.ge
  refine enter 0 (by decide) rfl rfl (fun X => ?_)
  refine j_aload_n dX13_size_0 rfl rfl ?_
  refine j_iconst (v := nI 0) dX13_size_1 (by decide) ?_
  refine pI13_51 rfl dX13_size_2 ?_
  obtain ⟨m1, e1⟩ : ∃ m, m = up mi 1000 0 (nI 0) := ⟨_, rfl⟩
  rw [← e1]
  have hR1 : RM m1 M t := RM_lo hM (fun n hn => by rw [e1, up_off _ _ (by omega)]) hR
  refine j_iload_n dX13_size_5 rfl rfl ?_
  refine j_bipush (v := nI 13) dX13_size_6 (by decide) ?_
  refine j_icmp_ne (tgt := 16) dX13_size_8 (by decide) (fun h8 => ?_) (fun h8 => absurd h8 (by decide))
  refine j_iload_n dX13_size_16 rfl rfl ?_
  refine j_iconst (v := nI 0) dX13_size_17 (by decide) ?_
  refine j_bipush (v := nI 12) dX13_size_18 (by decide) ?_
  refine cS13_129 (d1 := 1) dX13_size_20 (by decide) (Nat.le_of_ble_eq_true rfl) ?_
  refine m_inG (by show 0 ≤ 0; omega) (by show 0 ≤ 12; omega) (by decide) ?_
  refine j_if_ne (tgt := 28) dX13_size_23 (by decide) (fun h23 => ?_) (fun h23 => absurd h23 (by decide))
  refine j_aload_n dX13_size_28 rfl rfl ?_
  refine gR13_335 rfl dX13_size_29 hTn ?_
  refine j_ifnonnull (tgt := 37) dX13_size_32 (by decide) ?_
  refine j_iload_n dX13_size_37 rfl rfl ?_
  refine j_tableIn (tgt := 100) dX13_size_38 (by decide) (by decide) (by rfl) (by decide) ?_
  refine j_aload_n dX13_size_100 rfl rfl ?_
  refine gR13_335 rfl dX13_size_101 hTn ?_
  refine gI13_232 (kM0 hM) dX13_size_104 ?_
  rw [hR1.1 0 (by decide)]
  refine j_iret rfl dX13_size_107 ?_
  rw [e1]; exact hp
theorem mx_size1  (hX : XM mr) (hM : MM M) (hY : XT mr M) (hTn : mr 1000 3 = some M) (hg : GB t) (hW : WT t) (hR : RM mi M t)  (hp : post (some (.int (nI (t 0 1)))) (up mi 1000 0 0) ml mr dom) : CT G 2 0 0 yX13_size cX13_size 2 (some .int) [.ref 1000, .int (nI 1)] mi ml mr dom post := by
  have w := hW.1
  have hge := hM.ge
  refine enter 0 (by decide) rfl rfl (fun X => ?_)
  refine j_aload_n dX13_size_0 rfl rfl ?_
  refine j_iconst (v := nI 0) dX13_size_1 (by decide) ?_
  refine pI13_51 rfl dX13_size_2 ?_
  obtain ⟨m1, e1⟩ : ∃ m, m = up mi 1000 0 (nI 0) := ⟨_, rfl⟩
  rw [← e1]
  have hR1 : RM m1 M t := RM_lo hM (fun n hn => by rw [e1, up_off _ _ (by omega)]) hR
  refine j_iload_n dX13_size_5 rfl rfl ?_
  refine j_bipush (v := nI 13) dX13_size_6 (by decide) ?_
  refine j_icmp_ne (tgt := 16) dX13_size_8 (by decide) (fun h8 => ?_) (fun h8 => absurd h8 (by decide))
  refine j_iload_n dX13_size_16 rfl rfl ?_
  refine j_iconst (v := nI 0) dX13_size_17 (by decide) ?_
  refine j_bipush (v := nI 12) dX13_size_18 (by decide) ?_
  refine cS13_129 (d1 := 1) dX13_size_20 (by decide) (Nat.le_of_ble_eq_true rfl) ?_
  refine m_inG (by show 0 ≤ 1; omega) (by show 1 ≤ 12; omega) (by decide) ?_
  refine j_if_ne (tgt := 28) dX13_size_23 (by decide) (fun h23 => ?_) (fun h23 => absurd h23 (by decide))
  refine j_aload_n dX13_size_28 rfl rfl ?_
  refine gR13_335 rfl dX13_size_29 hTn ?_
  refine j_ifnonnull (tgt := 37) dX13_size_32 (by decide) ?_
  refine j_iload_n dX13_size_37 rfl rfl ?_
  refine j_tableIn (tgt := 108) dX13_size_38 (by decide) (by decide) (by rfl) (by decide) ?_
  refine j_aload_n dX13_size_108 rfl rfl ?_
  refine gR13_335 rfl dX13_size_109 hTn ?_
  refine gI13_234 (kM0 hM) dX13_size_112 ?_
  rw [hR1.1 1 (by decide)]
  refine j_iret rfl dX13_size_115 ?_
  rw [e1]; exact hp
theorem mx_size2  (hX : XM mr) (hM : MM M) (hY : XT mr M) (hTn : mr 1000 3 = some M) (hg : GB t) (hW : WT t) (hR : RM mi M t)  (hp : post (some (.int (nI (t 0 2)))) (up mi 1000 0 0) ml mr dom) : CT G 2 0 0 yX13_size cX13_size 2 (some .int) [.ref 1000, .int (nI 2)] mi ml mr dom post := by
  have w := hW.1
  have hge := hM.ge
  refine enter 0 (by decide) rfl rfl (fun X => ?_)
  refine j_aload_n dX13_size_0 rfl rfl ?_
  refine j_iconst (v := nI 0) dX13_size_1 (by decide) ?_
  refine pI13_51 rfl dX13_size_2 ?_
  obtain ⟨m1, e1⟩ : ∃ m, m = up mi 1000 0 (nI 0) := ⟨_, rfl⟩
  rw [← e1]
  have hR1 : RM m1 M t := RM_lo hM (fun n hn => by rw [e1, up_off _ _ (by omega)]) hR
  refine j_iload_n dX13_size_5 rfl rfl ?_
  refine j_bipush (v := nI 13) dX13_size_6 (by decide) ?_
  refine j_icmp_ne (tgt := 16) dX13_size_8 (by decide) (fun h8 => ?_) (fun h8 => absurd h8 (by decide))
  refine j_iload_n dX13_size_16 rfl rfl ?_
  refine j_iconst (v := nI 0) dX13_size_17 (by decide) ?_
  refine j_bipush (v := nI 12) dX13_size_18 (by decide) ?_
  refine cS13_129 (d1 := 1) dX13_size_20 (by decide) (Nat.le_of_ble_eq_true rfl) ?_
  refine m_inG (by show 0 ≤ 2; omega) (by show 2 ≤ 12; omega) (by decide) ?_
  refine j_if_ne (tgt := 28) dX13_size_23 (by decide) (fun h23 => ?_) (fun h23 => absurd h23 (by decide))
  refine j_aload_n dX13_size_28 rfl rfl ?_
  refine gR13_335 rfl dX13_size_29 hTn ?_
  refine j_ifnonnull (tgt := 37) dX13_size_32 (by decide) ?_
  refine j_iload_n dX13_size_37 rfl rfl ?_
  refine j_tableIn (tgt := 116) dX13_size_38 (by decide) (by decide) (by rfl) (by decide) ?_
  refine j_aload_n dX13_size_116 rfl rfl ?_
  refine gR13_335 rfl dX13_size_117 hTn ?_
  refine gI13_161 (kM0 hM) dX13_size_120 ?_
  rw [hR1.1 2 (by decide)]
  refine j_iret rfl dX13_size_123 ?_
  rw [e1]; exact hp
theorem mx_size3  (hX : XM mr) (hM : MM M) (hY : XT mr M) (hTn : mr 1000 3 = some M) (hg : GB t) (hW : WT t) (hR : RM mi M t)  (hp : post (some (.int (nI (t 0 3)))) (up mi 1000 0 0) ml mr dom) : CT G 2 0 0 yX13_size cX13_size 2 (some .int) [.ref 1000, .int (nI 3)] mi ml mr dom post := by
  have w := hW.1
  have hge := hM.ge
  refine enter 0 (by decide) rfl rfl (fun X => ?_)
  refine j_aload_n dX13_size_0 rfl rfl ?_
  refine j_iconst (v := nI 0) dX13_size_1 (by decide) ?_
  refine pI13_51 rfl dX13_size_2 ?_
  obtain ⟨m1, e1⟩ : ∃ m, m = up mi 1000 0 (nI 0) := ⟨_, rfl⟩
  rw [← e1]
  have hR1 : RM m1 M t := RM_lo hM (fun n hn => by rw [e1, up_off _ _ (by omega)]) hR
  refine j_iload_n dX13_size_5 rfl rfl ?_
  refine j_bipush (v := nI 13) dX13_size_6 (by decide) ?_
  refine j_icmp_ne (tgt := 16) dX13_size_8 (by decide) (fun h8 => ?_) (fun h8 => absurd h8 (by decide))
  refine j_iload_n dX13_size_16 rfl rfl ?_
  refine j_iconst (v := nI 0) dX13_size_17 (by decide) ?_
  refine j_bipush (v := nI 12) dX13_size_18 (by decide) ?_
  refine cS13_129 (d1 := 1) dX13_size_20 (by decide) (Nat.le_of_ble_eq_true rfl) ?_
  refine m_inG (by show 0 ≤ 3; omega) (by show 3 ≤ 12; omega) (by decide) ?_
  refine j_if_ne (tgt := 28) dX13_size_23 (by decide) (fun h23 => ?_) (fun h23 => absurd h23 (by decide))
  refine j_aload_n dX13_size_28 rfl rfl ?_
  refine gR13_335 rfl dX13_size_29 hTn ?_
  refine j_ifnonnull (tgt := 37) dX13_size_32 (by decide) ?_
  refine j_iload_n dX13_size_37 rfl rfl ?_
  refine j_tableIn (tgt := 124) dX13_size_38 (by decide) (by decide) (by rfl) (by decide) ?_
  refine j_aload_n dX13_size_124 rfl rfl ?_
  refine gR13_335 rfl dX13_size_125 hTn ?_
  refine gI13_196 (kM0 hM) dX13_size_128 ?_
  rw [hR1.1 3 (by decide)]
  refine j_iret rfl dX13_size_131 ?_
  rw [e1]; exact hp
theorem mx_size4  (hX : XM mr) (hM : MM M) (hY : XT mr M) (hTn : mr 1000 3 = some M) (hg : GB t) (hW : WT t) (hR : RM mi M t)  (hp : post (some (.int (nI (t 0 4)))) (up mi 1000 0 0) ml mr dom) : CT G 2 0 0 yX13_size cX13_size 2 (some .int) [.ref 1000, .int (nI 4)] mi ml mr dom post := by
  have w := hW.1
  have hge := hM.ge
  refine enter 0 (by decide) rfl rfl (fun X => ?_)
  refine j_aload_n dX13_size_0 rfl rfl ?_
  refine j_iconst (v := nI 0) dX13_size_1 (by decide) ?_
  refine pI13_51 rfl dX13_size_2 ?_
  obtain ⟨m1, e1⟩ : ∃ m, m = up mi 1000 0 (nI 0) := ⟨_, rfl⟩
  rw [← e1]
  have hR1 : RM m1 M t := RM_lo hM (fun n hn => by rw [e1, up_off _ _ (by omega)]) hR
  refine j_iload_n dX13_size_5 rfl rfl ?_
  refine j_bipush (v := nI 13) dX13_size_6 (by decide) ?_
  refine j_icmp_ne (tgt := 16) dX13_size_8 (by decide) (fun h8 => ?_) (fun h8 => absurd h8 (by decide))
  refine j_iload_n dX13_size_16 rfl rfl ?_
  refine j_iconst (v := nI 0) dX13_size_17 (by decide) ?_
  refine j_bipush (v := nI 12) dX13_size_18 (by decide) ?_
  refine cS13_129 (d1 := 1) dX13_size_20 (by decide) (Nat.le_of_ble_eq_true rfl) ?_
  refine m_inG (by show 0 ≤ 4; omega) (by show 4 ≤ 12; omega) (by decide) ?_
  refine j_if_ne (tgt := 28) dX13_size_23 (by decide) (fun h23 => ?_) (fun h23 => absurd h23 (by decide))
  refine j_aload_n dX13_size_28 rfl rfl ?_
  refine gR13_335 rfl dX13_size_29 hTn ?_
  refine j_ifnonnull (tgt := 37) dX13_size_32 (by decide) ?_
  refine j_iload_n dX13_size_37 rfl rfl ?_
  refine j_tableIn (tgt := 132) dX13_size_38 (by decide) (by decide) (by rfl) (by decide) ?_
  refine j_aload_n dX13_size_132 rfl rfl ?_
  refine gR13_335 rfl dX13_size_133 hTn ?_
  refine gI13_251 (kM0 hM) dX13_size_136 ?_
  rw [hR1.1 4 (by decide)]
  refine j_iret rfl dX13_size_139 ?_
  rw [e1]; exact hp
theorem mx_size5  (hX : XM mr) (hM : MM M) (hY : XT mr M) (hTn : mr 1000 3 = some M) (hg : GB t) (hW : WT t) (hR : RM mi M t)  (hp : post (some (.int (nI (t 0 5)))) (up mi 1000 0 0) ml mr dom) : CT G 2 0 0 yX13_size cX13_size 2 (some .int) [.ref 1000, .int (nI 5)] mi ml mr dom post := by
  have w := hW.1
  have hge := hM.ge
  refine enter 0 (by decide) rfl rfl (fun X => ?_)
  refine j_aload_n dX13_size_0 rfl rfl ?_
  refine j_iconst (v := nI 0) dX13_size_1 (by decide) ?_
  refine pI13_51 rfl dX13_size_2 ?_
  obtain ⟨m1, e1⟩ : ∃ m, m = up mi 1000 0 (nI 0) := ⟨_, rfl⟩
  rw [← e1]
  have hR1 : RM m1 M t := RM_lo hM (fun n hn => by rw [e1, up_off _ _ (by omega)]) hR
  refine j_iload_n dX13_size_5 rfl rfl ?_
  refine j_bipush (v := nI 13) dX13_size_6 (by decide) ?_
  refine j_icmp_ne (tgt := 16) dX13_size_8 (by decide) (fun h8 => ?_) (fun h8 => absurd h8 (by decide))
  refine j_iload_n dX13_size_16 rfl rfl ?_
  refine j_iconst (v := nI 0) dX13_size_17 (by decide) ?_
  refine j_bipush (v := nI 12) dX13_size_18 (by decide) ?_
  refine cS13_129 (d1 := 1) dX13_size_20 (by decide) (Nat.le_of_ble_eq_true rfl) ?_
  refine m_inG (by show 0 ≤ 5; omega) (by show 5 ≤ 12; omega) (by decide) ?_
  refine j_if_ne (tgt := 28) dX13_size_23 (by decide) (fun h23 => ?_) (fun h23 => absurd h23 (by decide))
  refine j_aload_n dX13_size_28 rfl rfl ?_
  refine gR13_335 rfl dX13_size_29 hTn ?_
  refine j_ifnonnull (tgt := 37) dX13_size_32 (by decide) ?_
  refine j_iload_n dX13_size_37 rfl rfl ?_
  refine j_tableIn (tgt := 140) dX13_size_38 (by decide) (by decide) (by rfl) (by decide) ?_
  refine j_aload_n dX13_size_140 rfl rfl ?_
  refine gR13_335 rfl dX13_size_141 hTn ?_
  refine gI13_199 (kM0 hM) dX13_size_144 ?_
  rw [hR1.1 5 (by decide)]
  refine j_iret rfl dX13_size_147 ?_
  rw [e1]; exact hp
theorem mx_size6  (hX : XM mr) (hM : MM M) (hY : XT mr M) (hTn : mr 1000 3 = some M) (hg : GB t) (hW : WT t) (hR : RM mi M t)  (hp : post (some (.int (nI (t 0 6)))) (up mi 1000 0 0) ml mr dom) : CT G 2 0 0 yX13_size cX13_size 2 (some .int) [.ref 1000, .int (nI 6)] mi ml mr dom post := by
  have w := hW.1
  have hge := hM.ge
  refine enter 0 (by decide) rfl rfl (fun X => ?_)
  refine j_aload_n dX13_size_0 rfl rfl ?_
  refine j_iconst (v := nI 0) dX13_size_1 (by decide) ?_
  refine pI13_51 rfl dX13_size_2 ?_
  obtain ⟨m1, e1⟩ : ∃ m, m = up mi 1000 0 (nI 0) := ⟨_, rfl⟩
  rw [← e1]
  have hR1 : RM m1 M t := RM_lo hM (fun n hn => by rw [e1, up_off _ _ (by omega)]) hR
  refine j_iload_n dX13_size_5 rfl rfl ?_
  refine j_bipush (v := nI 13) dX13_size_6 (by decide) ?_
  refine j_icmp_ne (tgt := 16) dX13_size_8 (by decide) (fun h8 => ?_) (fun h8 => absurd h8 (by decide))
  refine j_iload_n dX13_size_16 rfl rfl ?_
  refine j_iconst (v := nI 0) dX13_size_17 (by decide) ?_
  refine j_bipush (v := nI 12) dX13_size_18 (by decide) ?_
  refine cS13_129 (d1 := 1) dX13_size_20 (by decide) (Nat.le_of_ble_eq_true rfl) ?_
  refine m_inG (by show 0 ≤ 6; omega) (by show 6 ≤ 12; omega) (by decide) ?_
  refine j_if_ne (tgt := 28) dX13_size_23 (by decide) (fun h23 => ?_) (fun h23 => absurd h23 (by decide))
  refine j_aload_n dX13_size_28 rfl rfl ?_
  refine gR13_335 rfl dX13_size_29 hTn ?_
  refine j_ifnonnull (tgt := 37) dX13_size_32 (by decide) ?_
  refine j_iload_n dX13_size_37 rfl rfl ?_
  refine j_tableIn (tgt := 148) dX13_size_38 (by decide) (by decide) (by rfl) (by decide) ?_
  refine j_aload_n dX13_size_148 rfl rfl ?_
  refine gR13_335 rfl dX13_size_149 hTn ?_
  refine gI13_288 (kM0 hM) dX13_size_152 ?_
  rw [hR1.1 6 (by decide)]
  refine j_iret rfl dX13_size_155 ?_
  rw [e1]; exact hp
theorem mx_size7  (hX : XM mr) (hM : MM M) (hY : XT mr M) (hTn : mr 1000 3 = some M) (hg : GB t) (hW : WT t) (hR : RM mi M t)  (hp : post (some (.int (nI (t 0 7)))) (up mi 1000 0 0) ml mr dom) : CT G 2 0 0 yX13_size cX13_size 2 (some .int) [.ref 1000, .int (nI 7)] mi ml mr dom post := by
  have w := hW.1
  have hge := hM.ge
  refine enter 0 (by decide) rfl rfl (fun X => ?_)
  refine j_aload_n dX13_size_0 rfl rfl ?_
  refine j_iconst (v := nI 0) dX13_size_1 (by decide) ?_
  refine pI13_51 rfl dX13_size_2 ?_
  obtain ⟨m1, e1⟩ : ∃ m, m = up mi 1000 0 (nI 0) := ⟨_, rfl⟩
  rw [← e1]
  have hR1 : RM m1 M t := RM_lo hM (fun n hn => by rw [e1, up_off _ _ (by omega)]) hR
  refine j_iload_n dX13_size_5 rfl rfl ?_
  refine j_bipush (v := nI 13) dX13_size_6 (by decide) ?_
  refine j_icmp_ne (tgt := 16) dX13_size_8 (by decide) (fun h8 => ?_) (fun h8 => absurd h8 (by decide))
  refine j_iload_n dX13_size_16 rfl rfl ?_
  refine j_iconst (v := nI 0) dX13_size_17 (by decide) ?_
  refine j_bipush (v := nI 12) dX13_size_18 (by decide) ?_
  refine cS13_129 (d1 := 1) dX13_size_20 (by decide) (Nat.le_of_ble_eq_true rfl) ?_
  refine m_inG (by show 0 ≤ 7; omega) (by show 7 ≤ 12; omega) (by decide) ?_
  refine j_if_ne (tgt := 28) dX13_size_23 (by decide) (fun h23 => ?_) (fun h23 => absurd h23 (by decide))
  refine j_aload_n dX13_size_28 rfl rfl ?_
  refine gR13_335 rfl dX13_size_29 hTn ?_
  refine j_ifnonnull (tgt := 37) dX13_size_32 (by decide) ?_
  refine j_iload_n dX13_size_37 rfl rfl ?_
  refine j_tableIn (tgt := 156) dX13_size_38 (by decide) (by decide) (by rfl) (by decide) ?_
  refine j_aload_n dX13_size_156 rfl rfl ?_
  refine gR13_335 rfl dX13_size_157 hTn ?_
  refine gI13_302 (kM0 hM) dX13_size_160 ?_
  rw [hR1.1 7 (by decide)]
  refine j_iret rfl dX13_size_163 ?_
  rw [e1]; exact hp
theorem mx_size8  (hX : XM mr) (hM : MM M) (hY : XT mr M) (hTn : mr 1000 3 = some M) (hg : GB t) (hW : WT t) (hR : RM mi M t)  (hp : post (some (.int (nI (t 0 8)))) (up mi 1000 0 0) ml mr dom) : CT G 2 0 0 yX13_size cX13_size 2 (some .int) [.ref 1000, .int (nI 8)] mi ml mr dom post := by
  have w := hW.1
  have hge := hM.ge
  refine enter 0 (by decide) rfl rfl (fun X => ?_)
  refine j_aload_n dX13_size_0 rfl rfl ?_
  refine j_iconst (v := nI 0) dX13_size_1 (by decide) ?_
  refine pI13_51 rfl dX13_size_2 ?_
  obtain ⟨m1, e1⟩ : ∃ m, m = up mi 1000 0 (nI 0) := ⟨_, rfl⟩
  rw [← e1]
  have hR1 : RM m1 M t := RM_lo hM (fun n hn => by rw [e1, up_off _ _ (by omega)]) hR
  refine j_iload_n dX13_size_5 rfl rfl ?_
  refine j_bipush (v := nI 13) dX13_size_6 (by decide) ?_
  refine j_icmp_ne (tgt := 16) dX13_size_8 (by decide) (fun h8 => ?_) (fun h8 => absurd h8 (by decide))
  refine j_iload_n dX13_size_16 rfl rfl ?_
  refine j_iconst (v := nI 0) dX13_size_17 (by decide) ?_
  refine j_bipush (v := nI 12) dX13_size_18 (by decide) ?_
  refine cS13_129 (d1 := 1) dX13_size_20 (by decide) (Nat.le_of_ble_eq_true rfl) ?_
  refine m_inG (by show 0 ≤ 8; omega) (by show 8 ≤ 12; omega) (by decide) ?_
  refine j_if_ne (tgt := 28) dX13_size_23 (by decide) (fun h23 => ?_) (fun h23 => absurd h23 (by decide))
  refine j_aload_n dX13_size_28 rfl rfl ?_
  refine gR13_335 rfl dX13_size_29 hTn ?_
  refine j_ifnonnull (tgt := 37) dX13_size_32 (by decide) ?_
  refine j_iload_n dX13_size_37 rfl rfl ?_
  refine j_tableIn (tgt := 164) dX13_size_38 (by decide) (by decide) (by rfl) (by decide) ?_
  refine j_aload_n dX13_size_164 rfl rfl ?_
  refine gR13_335 rfl dX13_size_165 hTn ?_
  refine gI13_316 (kM0 hM) dX13_size_168 ?_
  rw [hR1.1 8 (by decide)]
  refine j_iret rfl dX13_size_171 ?_
  rw [e1]; exact hp
theorem mx_size9  (hX : XM mr) (hM : MM M) (hY : XT mr M) (hTn : mr 1000 3 = some M) (hg : GB t) (hW : WT t) (hR : RM mi M t) (hV : VM mi t v)  (hp : post (some (.int (nI (v 11)))) (up mi 1000 0 0) ml mr dom) : CT G 2 0 0 yX13_size cX13_size 2 (some .int) [.ref 1000, .int (nI 9)] mi ml mr dom post := by
  have w := hW.1
  have hge := hM.ge
  refine enter 0 (by decide) rfl rfl (fun X => ?_)
  refine j_aload_n dX13_size_0 rfl rfl ?_
  refine j_iconst (v := nI 0) dX13_size_1 (by decide) ?_
  refine pI13_51 rfl dX13_size_2 ?_
  obtain ⟨m1, e1⟩ : ∃ m, m = up mi 1000 0 (nI 0) := ⟨_, rfl⟩
  rw [← e1]
  have hR1 : RM m1 M t := RM_lo hM (fun n hn => by rw [e1, up_off _ _ (by omega)]) hR
  have hV1 : VM m1 t v := VM_off (by rw [e1, up_off _ _ (by decide)]) hV
  refine j_iload_n dX13_size_5 rfl rfl ?_
  refine j_bipush (v := nI 13) dX13_size_6 (by decide) ?_
  refine j_icmp_ne (tgt := 16) dX13_size_8 (by decide) (fun h8 => ?_) (fun h8 => absurd h8 (by decide))
  refine j_iload_n dX13_size_16 rfl rfl ?_
  refine j_iconst (v := nI 0) dX13_size_17 (by decide) ?_
  refine j_bipush (v := nI 12) dX13_size_18 (by decide) ?_
  refine cS13_129 (d1 := 1) dX13_size_20 (by decide) (Nat.le_of_ble_eq_true rfl) ?_
  refine m_inG (by show 0 ≤ 9; omega) (by show 9 ≤ 12; omega) (by decide) ?_
  refine j_if_ne (tgt := 28) dX13_size_23 (by decide) (fun h23 => ?_) (fun h23 => absurd h23 (by decide))
  refine j_aload_n dX13_size_28 rfl rfl ?_
  refine gR13_335 rfl dX13_size_29 hTn ?_
  refine j_ifnonnull (tgt := 37) dX13_size_32 (by decide) ?_
  refine j_iload_n dX13_size_37 rfl rfl ?_
  refine j_tableIn (tgt := 172) dX13_size_38 (by decide) (by decide) (by rfl) (by decide) ?_
  refine j_aload_n dX13_size_172 rfl rfl ?_
  refine gR13_17 rfl dX13_size_173 (x1002 hX) ?_
  refine j_bipush (v := nI 11) dX13_size_176 (by decide) ?_
  refine j_iald rfl (inT (show ln 1002 = 13 from rfl) (by show 11 < 13; omega) (by decide)) dX13_size_178 ?_
  rw [nI_clamp (by omega), hV1.2.2.1.1]
  refine j_iret rfl dX13_size_179 ?_
  rw [e1]; exact hp
theorem mx_size10  (hX : XM mr) (hM : MM M) (hY : XT mr M) (hTn : mr 1000 3 = some M) (hg : GB t) (hW : WT t) (hR : RM mi M t) (hV : VM mi t v)  (hp : post (some (.int (nI (v 12)))) (up mi 1000 0 0) ml mr dom) : CT G 2 0 0 yX13_size cX13_size 2 (some .int) [.ref 1000, .int (nI 10)] mi ml mr dom post := by
  have w := hW.1
  have hge := hM.ge
  refine enter 0 (by decide) rfl rfl (fun X => ?_)
  refine j_aload_n dX13_size_0 rfl rfl ?_
  refine j_iconst (v := nI 0) dX13_size_1 (by decide) ?_
  refine pI13_51 rfl dX13_size_2 ?_
  obtain ⟨m1, e1⟩ : ∃ m, m = up mi 1000 0 (nI 0) := ⟨_, rfl⟩
  rw [← e1]
  have hR1 : RM m1 M t := RM_lo hM (fun n hn => by rw [e1, up_off _ _ (by omega)]) hR
  have hV1 : VM m1 t v := VM_off (by rw [e1, up_off _ _ (by decide)]) hV
  refine j_iload_n dX13_size_5 rfl rfl ?_
  refine j_bipush (v := nI 13) dX13_size_6 (by decide) ?_
  refine j_icmp_ne (tgt := 16) dX13_size_8 (by decide) (fun h8 => ?_) (fun h8 => absurd h8 (by decide))
  refine j_iload_n dX13_size_16 rfl rfl ?_
  refine j_iconst (v := nI 0) dX13_size_17 (by decide) ?_
  refine j_bipush (v := nI 12) dX13_size_18 (by decide) ?_
  refine cS13_129 (d1 := 1) dX13_size_20 (by decide) (Nat.le_of_ble_eq_true rfl) ?_
  refine m_inG (by show 0 ≤ 10; omega) (by show 10 ≤ 12; omega) (by decide) ?_
  refine j_if_ne (tgt := 28) dX13_size_23 (by decide) (fun h23 => ?_) (fun h23 => absurd h23 (by decide))
  refine j_aload_n dX13_size_28 rfl rfl ?_
  refine gR13_335 rfl dX13_size_29 hTn ?_
  refine j_ifnonnull (tgt := 37) dX13_size_32 (by decide) ?_
  refine j_iload_n dX13_size_37 rfl rfl ?_
  refine j_tableIn (tgt := 180) dX13_size_38 (by decide) (by decide) (by rfl) (by decide) ?_
  refine j_aload_n dX13_size_180 rfl rfl ?_
  refine gR13_17 rfl dX13_size_181 (x1002 hX) ?_
  refine j_bipush (v := nI 12) dX13_size_184 (by decide) ?_
  refine j_iald rfl (inT (show ln 1002 = 13 from rfl) (by show 12 < 13; omega) (by decide)) dX13_size_186 ?_
  rw [nI_clamp (by omega), hV1.2.2.2.1]
  refine j_iret rfl dX13_size_187 ?_
  rw [e1]; exact hp
theorem mx_size11 {a : Nat} (hX : XM mr) (hM : MM M) (hY : XT mr M) (hTn : mr 1000 3 = some M) (hg : GB t) (hW : WT t) (hR : RM mi M t) (h_acts : mi 1000 19 = nI a) (ha : a ≤ 16) (hp : post (some (.int (nI a))) (up mi 1000 0 0) ml mr dom) : CT G 2 0 0 yX13_size cX13_size 2 (some .int) [.ref 1000, .int (nI 11)] mi ml mr dom post := by
  have w := hW.1
  have hge := hM.ge
  refine enter 0 (by decide) rfl rfl (fun X => ?_)
  refine j_aload_n dX13_size_0 rfl rfl ?_
  refine j_iconst (v := nI 0) dX13_size_1 (by decide) ?_
  refine pI13_51 rfl dX13_size_2 ?_
  obtain ⟨m1, e1⟩ : ∃ m, m = up mi 1000 0 (nI 0) := ⟨_, rfl⟩
  rw [← e1]
  have hR1 : RM m1 M t := RM_lo hM (fun n hn => by rw [e1, up_off _ _ (by omega)]) hR
  refine j_iload_n dX13_size_5 rfl rfl ?_
  refine j_bipush (v := nI 13) dX13_size_6 (by decide) ?_
  refine j_icmp_ne (tgt := 16) dX13_size_8 (by decide) (fun h8 => ?_) (fun h8 => absurd h8 (by decide))
  refine j_iload_n dX13_size_16 rfl rfl ?_
  refine j_iconst (v := nI 0) dX13_size_17 (by decide) ?_
  refine j_bipush (v := nI 12) dX13_size_18 (by decide) ?_
  refine cS13_129 (d1 := 1) dX13_size_20 (by decide) (Nat.le_of_ble_eq_true rfl) ?_
  refine m_inG (by show 0 ≤ 11; omega) (by show 11 ≤ 12; omega) (by decide) ?_
  refine j_if_ne (tgt := 28) dX13_size_23 (by decide) (fun h23 => ?_) (fun h23 => absurd h23 (by decide))
  refine j_aload_n dX13_size_28 rfl rfl ?_
  refine gR13_335 rfl dX13_size_29 hTn ?_
  refine j_ifnonnull (tgt := 37) dX13_size_32 (by decide) ?_
  refine j_iload_n dX13_size_37 rfl rfl ?_
  refine j_tableIn (tgt := 188) dX13_size_38 (by decide) (by decide) (by rfl) (by decide) ?_
  refine j_aload_n dX13_size_188 rfl rfl ?_
  refine gI13_340 rfl dX13_size_189 ?_
  rw [show m1 1000 19 = nI a by rw [e1, up_ne _ _ (by decide)]; exact h_acts]
  refine j_iret rfl dX13_size_192 ?_
  rw [e1]; exact hp
theorem mx_size12 {a : Nat} (hX : XM mr) (hM : MM M) (hY : XT mr M) (hTn : mr 1000 3 = some M) (hg : GB t) (hW : WT t) (hR : RM mi M t) (h_marks : mi 1000 20 = nI a) (ha : a ≤ 3) (hp : post (some (.int (nI a))) (up mi 1000 0 0) ml mr dom) : CT G 2 0 0 yX13_size cX13_size 2 (some .int) [.ref 1000, .int (nI 12)] mi ml mr dom post := by
  have w := hW.1
  have hge := hM.ge
  refine enter 0 (by decide) rfl rfl (fun X => ?_)
  refine j_aload_n dX13_size_0 rfl rfl ?_
  refine j_iconst (v := nI 0) dX13_size_1 (by decide) ?_
  refine pI13_51 rfl dX13_size_2 ?_
  obtain ⟨m1, e1⟩ : ∃ m, m = up mi 1000 0 (nI 0) := ⟨_, rfl⟩
  rw [← e1]
  have hR1 : RM m1 M t := RM_lo hM (fun n hn => by rw [e1, up_off _ _ (by omega)]) hR
  refine j_iload_n dX13_size_5 rfl rfl ?_
  refine j_bipush (v := nI 13) dX13_size_6 (by decide) ?_
  refine j_icmp_ne (tgt := 16) dX13_size_8 (by decide) (fun h8 => ?_) (fun h8 => absurd h8 (by decide))
  refine j_iload_n dX13_size_16 rfl rfl ?_
  refine j_iconst (v := nI 0) dX13_size_17 (by decide) ?_
  refine j_bipush (v := nI 12) dX13_size_18 (by decide) ?_
  refine cS13_129 (d1 := 1) dX13_size_20 (by decide) (Nat.le_of_ble_eq_true rfl) ?_
  refine m_inG (by show 0 ≤ 12; omega) (by show 12 ≤ 12; omega) (by decide) ?_
  refine j_if_ne (tgt := 28) dX13_size_23 (by decide) (fun h23 => ?_) (fun h23 => absurd h23 (by decide))
  refine j_aload_n dX13_size_28 rfl rfl ?_
  refine gR13_335 rfl dX13_size_29 hTn ?_
  refine j_ifnonnull (tgt := 37) dX13_size_32 (by decide) ?_
  refine j_iload_n dX13_size_37 rfl rfl ?_
  refine j_tableOut (tgt := 193) dX13_size_38 (by decide) (by decide) ?_
  refine j_aload_n dX13_size_193 rfl rfl ?_
  refine gI13_343 rfl dX13_size_194 ?_
  rw [show m1 1000 20 = nI a by rw [e1, up_ne _ _ (by decide)]; exact h_marks]
  refine j_iret rfl dX13_size_197 ?_
  rw [e1]; exact hp
theorem mx_size13    (hp : post (some (.int (mi 1000 6))) (up mi 1000 0 0) ml mr dom) : CT G 2 0 0 yX13_size cX13_size 2 (some .int) [.ref 1000, .int (nI 13)] mi ml mr dom post := by
  refine enter 0 (by decide) rfl rfl (fun X => ?_)
  refine j_aload_n dX13_size_0 rfl rfl ?_
  refine j_iconst (v := nI 0) dX13_size_1 (by decide) ?_
  refine pI13_51 rfl dX13_size_2 ?_
  obtain ⟨m1, e1⟩ : ∃ m, m = up mi 1000 0 (nI 0) := ⟨_, rfl⟩
  rw [← e1]
  refine j_iload_n dX13_size_5 rfl rfl ?_
  refine j_bipush (v := nI 13) dX13_size_6 (by decide) ?_
  refine j_icmp_ne (tgt := 16) dX13_size_8 (by decide) (fun h8 => absurd (by decide) h8) (fun h8 => ?_)
  refine j_aload_n dX13_size_11 rfl rfl ?_
  refine gI13_328 rfl dX13_size_12 ?_
  refine j_iret rfl dX13_size_15 ?_
  rw [e1, up_ne _ _ (by decide)]; exact hp
theorem mx_sizeN0  (hTn : mr 1000 3 = none)  (hp : post (some (.int 0)) (up mi 1000 0 0) ml mr dom) : CT G 2 0 0 yX13_size cX13_size 2 (some .int) [.ref 1000, .int (nI 0)] mi ml mr dom post := by
  refine enter 0 (by decide) rfl rfl (fun X => ?_)
  refine j_aload_n dX13_size_0 rfl rfl ?_
  refine j_iconst (v := nI 0) dX13_size_1 (by decide) ?_
  refine pI13_51 rfl dX13_size_2 ?_
  obtain ⟨m1, e1⟩ : ∃ m, m = up mi 1000 0 (nI 0) := ⟨_, rfl⟩
  rw [← e1]
  refine j_iload_n dX13_size_5 rfl rfl ?_
  refine j_bipush (v := nI 13) dX13_size_6 (by decide) ?_
  refine j_icmp_ne (tgt := 16) dX13_size_8 (by decide) (fun h8 => ?_) (fun h8 => absurd h8 (by decide))
  refine j_iload_n dX13_size_16 rfl rfl ?_
  refine j_iconst (v := nI 0) dX13_size_17 (by decide) ?_
  refine j_bipush (v := nI 12) dX13_size_18 (by decide) ?_
  refine cS13_129 (d1 := 1) dX13_size_20 (by decide) (Nat.le_of_ble_eq_true rfl) ?_
  refine m_inG (by show 0 ≤ 0; omega) (by show 0 ≤ 12; omega) (by decide) ?_
  refine j_if_ne (tgt := 28) dX13_size_23 (by decide) (fun h23 => ?_) (fun h23 => absurd h23 (by decide))
  refine j_aload_n dX13_size_28 rfl rfl ?_
  refine gN13_335 rfl dX13_size_29 hTn ?_
  refine j_ifnonnullN dX13_size_32 ?_
  refine j_iconst (v := nI 0) dX13_size_35 (by decide) ?_
  refine j_iret rfl dX13_size_36 ?_
  rw [e1]; exact hp
theorem mx_sizeN1  (hTn : mr 1000 3 = none)  (hp : post (some (.int 0)) (up mi 1000 0 0) ml mr dom) : CT G 2 0 0 yX13_size cX13_size 2 (some .int) [.ref 1000, .int (nI 1)] mi ml mr dom post := by
  refine enter 0 (by decide) rfl rfl (fun X => ?_)
  refine j_aload_n dX13_size_0 rfl rfl ?_
  refine j_iconst (v := nI 0) dX13_size_1 (by decide) ?_
  refine pI13_51 rfl dX13_size_2 ?_
  obtain ⟨m1, e1⟩ : ∃ m, m = up mi 1000 0 (nI 0) := ⟨_, rfl⟩
  rw [← e1]
  refine j_iload_n dX13_size_5 rfl rfl ?_
  refine j_bipush (v := nI 13) dX13_size_6 (by decide) ?_
  refine j_icmp_ne (tgt := 16) dX13_size_8 (by decide) (fun h8 => ?_) (fun h8 => absurd h8 (by decide))
  refine j_iload_n dX13_size_16 rfl rfl ?_
  refine j_iconst (v := nI 0) dX13_size_17 (by decide) ?_
  refine j_bipush (v := nI 12) dX13_size_18 (by decide) ?_
  refine cS13_129 (d1 := 1) dX13_size_20 (by decide) (Nat.le_of_ble_eq_true rfl) ?_
  refine m_inG (by show 0 ≤ 1; omega) (by show 1 ≤ 12; omega) (by decide) ?_
  refine j_if_ne (tgt := 28) dX13_size_23 (by decide) (fun h23 => ?_) (fun h23 => absurd h23 (by decide))
  refine j_aload_n dX13_size_28 rfl rfl ?_
  refine gN13_335 rfl dX13_size_29 hTn ?_
  refine j_ifnonnullN dX13_size_32 ?_
  refine j_iconst (v := nI 0) dX13_size_35 (by decide) ?_
  refine j_iret rfl dX13_size_36 ?_
  rw [e1]; exact hp
theorem mx_sizeN2  (hTn : mr 1000 3 = none)  (hp : post (some (.int 0)) (up mi 1000 0 0) ml mr dom) : CT G 2 0 0 yX13_size cX13_size 2 (some .int) [.ref 1000, .int (nI 2)] mi ml mr dom post := by
  refine enter 0 (by decide) rfl rfl (fun X => ?_)
  refine j_aload_n dX13_size_0 rfl rfl ?_
  refine j_iconst (v := nI 0) dX13_size_1 (by decide) ?_
  refine pI13_51 rfl dX13_size_2 ?_
  obtain ⟨m1, e1⟩ : ∃ m, m = up mi 1000 0 (nI 0) := ⟨_, rfl⟩
  rw [← e1]
  refine j_iload_n dX13_size_5 rfl rfl ?_
  refine j_bipush (v := nI 13) dX13_size_6 (by decide) ?_
  refine j_icmp_ne (tgt := 16) dX13_size_8 (by decide) (fun h8 => ?_) (fun h8 => absurd h8 (by decide))
  refine j_iload_n dX13_size_16 rfl rfl ?_
  refine j_iconst (v := nI 0) dX13_size_17 (by decide) ?_
  refine j_bipush (v := nI 12) dX13_size_18 (by decide) ?_
  refine cS13_129 (d1 := 1) dX13_size_20 (by decide) (Nat.le_of_ble_eq_true rfl) ?_
  refine m_inG (by show 0 ≤ 2; omega) (by show 2 ≤ 12; omega) (by decide) ?_
  refine j_if_ne (tgt := 28) dX13_size_23 (by decide) (fun h23 => ?_) (fun h23 => absurd h23 (by decide))
  refine j_aload_n dX13_size_28 rfl rfl ?_
  refine gN13_335 rfl dX13_size_29 hTn ?_
  refine j_ifnonnullN dX13_size_32 ?_
  refine j_iconst (v := nI 0) dX13_size_35 (by decide) ?_
  refine j_iret rfl dX13_size_36 ?_
  rw [e1]; exact hp
theorem mx_sizeN3  (hTn : mr 1000 3 = none)  (hp : post (some (.int 0)) (up mi 1000 0 0) ml mr dom) : CT G 2 0 0 yX13_size cX13_size 2 (some .int) [.ref 1000, .int (nI 3)] mi ml mr dom post := by
  refine enter 0 (by decide) rfl rfl (fun X => ?_)
  refine j_aload_n dX13_size_0 rfl rfl ?_
  refine j_iconst (v := nI 0) dX13_size_1 (by decide) ?_
  refine pI13_51 rfl dX13_size_2 ?_
  obtain ⟨m1, e1⟩ : ∃ m, m = up mi 1000 0 (nI 0) := ⟨_, rfl⟩
  rw [← e1]
  refine j_iload_n dX13_size_5 rfl rfl ?_
  refine j_bipush (v := nI 13) dX13_size_6 (by decide) ?_
  refine j_icmp_ne (tgt := 16) dX13_size_8 (by decide) (fun h8 => ?_) (fun h8 => absurd h8 (by decide))
  refine j_iload_n dX13_size_16 rfl rfl ?_
  refine j_iconst (v := nI 0) dX13_size_17 (by decide) ?_
  refine j_bipush (v := nI 12) dX13_size_18 (by decide) ?_
  refine cS13_129 (d1 := 1) dX13_size_20 (by decide) (Nat.le_of_ble_eq_true rfl) ?_
  refine m_inG (by show 0 ≤ 3; omega) (by show 3 ≤ 12; omega) (by decide) ?_
  refine j_if_ne (tgt := 28) dX13_size_23 (by decide) (fun h23 => ?_) (fun h23 => absurd h23 (by decide))
  refine j_aload_n dX13_size_28 rfl rfl ?_
  refine gN13_335 rfl dX13_size_29 hTn ?_
  refine j_ifnonnullN dX13_size_32 ?_
  refine j_iconst (v := nI 0) dX13_size_35 (by decide) ?_
  refine j_iret rfl dX13_size_36 ?_
  rw [e1]; exact hp
theorem mx_sizeN4  (hTn : mr 1000 3 = none)  (hp : post (some (.int 0)) (up mi 1000 0 0) ml mr dom) : CT G 2 0 0 yX13_size cX13_size 2 (some .int) [.ref 1000, .int (nI 4)] mi ml mr dom post := by
  refine enter 0 (by decide) rfl rfl (fun X => ?_)
  refine j_aload_n dX13_size_0 rfl rfl ?_
  refine j_iconst (v := nI 0) dX13_size_1 (by decide) ?_
  refine pI13_51 rfl dX13_size_2 ?_
  obtain ⟨m1, e1⟩ : ∃ m, m = up mi 1000 0 (nI 0) := ⟨_, rfl⟩
  rw [← e1]
  refine j_iload_n dX13_size_5 rfl rfl ?_
  refine j_bipush (v := nI 13) dX13_size_6 (by decide) ?_
  refine j_icmp_ne (tgt := 16) dX13_size_8 (by decide) (fun h8 => ?_) (fun h8 => absurd h8 (by decide))
  refine j_iload_n dX13_size_16 rfl rfl ?_
  refine j_iconst (v := nI 0) dX13_size_17 (by decide) ?_
  refine j_bipush (v := nI 12) dX13_size_18 (by decide) ?_
  refine cS13_129 (d1 := 1) dX13_size_20 (by decide) (Nat.le_of_ble_eq_true rfl) ?_
  refine m_inG (by show 0 ≤ 4; omega) (by show 4 ≤ 12; omega) (by decide) ?_
  refine j_if_ne (tgt := 28) dX13_size_23 (by decide) (fun h23 => ?_) (fun h23 => absurd h23 (by decide))
  refine j_aload_n dX13_size_28 rfl rfl ?_
  refine gN13_335 rfl dX13_size_29 hTn ?_
  refine j_ifnonnullN dX13_size_32 ?_
  refine j_iconst (v := nI 0) dX13_size_35 (by decide) ?_
  refine j_iret rfl dX13_size_36 ?_
  rw [e1]; exact hp
theorem mx_sizeN5  (hTn : mr 1000 3 = none)  (hp : post (some (.int 0)) (up mi 1000 0 0) ml mr dom) : CT G 2 0 0 yX13_size cX13_size 2 (some .int) [.ref 1000, .int (nI 5)] mi ml mr dom post := by
  refine enter 0 (by decide) rfl rfl (fun X => ?_)
  refine j_aload_n dX13_size_0 rfl rfl ?_
  refine j_iconst (v := nI 0) dX13_size_1 (by decide) ?_
  refine pI13_51 rfl dX13_size_2 ?_
  obtain ⟨m1, e1⟩ : ∃ m, m = up mi 1000 0 (nI 0) := ⟨_, rfl⟩
  rw [← e1]
  refine j_iload_n dX13_size_5 rfl rfl ?_
  refine j_bipush (v := nI 13) dX13_size_6 (by decide) ?_
  refine j_icmp_ne (tgt := 16) dX13_size_8 (by decide) (fun h8 => ?_) (fun h8 => absurd h8 (by decide))
  refine j_iload_n dX13_size_16 rfl rfl ?_
  refine j_iconst (v := nI 0) dX13_size_17 (by decide) ?_
  refine j_bipush (v := nI 12) dX13_size_18 (by decide) ?_
  refine cS13_129 (d1 := 1) dX13_size_20 (by decide) (Nat.le_of_ble_eq_true rfl) ?_
  refine m_inG (by show 0 ≤ 5; omega) (by show 5 ≤ 12; omega) (by decide) ?_
  refine j_if_ne (tgt := 28) dX13_size_23 (by decide) (fun h23 => ?_) (fun h23 => absurd h23 (by decide))
  refine j_aload_n dX13_size_28 rfl rfl ?_
  refine gN13_335 rfl dX13_size_29 hTn ?_
  refine j_ifnonnullN dX13_size_32 ?_
  refine j_iconst (v := nI 0) dX13_size_35 (by decide) ?_
  refine j_iret rfl dX13_size_36 ?_
  rw [e1]; exact hp
theorem mx_sizeN6  (hTn : mr 1000 3 = none)  (hp : post (some (.int 0)) (up mi 1000 0 0) ml mr dom) : CT G 2 0 0 yX13_size cX13_size 2 (some .int) [.ref 1000, .int (nI 6)] mi ml mr dom post := by
  refine enter 0 (by decide) rfl rfl (fun X => ?_)
  refine j_aload_n dX13_size_0 rfl rfl ?_
  refine j_iconst (v := nI 0) dX13_size_1 (by decide) ?_
  refine pI13_51 rfl dX13_size_2 ?_
  obtain ⟨m1, e1⟩ : ∃ m, m = up mi 1000 0 (nI 0) := ⟨_, rfl⟩
  rw [← e1]
  refine j_iload_n dX13_size_5 rfl rfl ?_
  refine j_bipush (v := nI 13) dX13_size_6 (by decide) ?_
  refine j_icmp_ne (tgt := 16) dX13_size_8 (by decide) (fun h8 => ?_) (fun h8 => absurd h8 (by decide))
  refine j_iload_n dX13_size_16 rfl rfl ?_
  refine j_iconst (v := nI 0) dX13_size_17 (by decide) ?_
  refine j_bipush (v := nI 12) dX13_size_18 (by decide) ?_
  refine cS13_129 (d1 := 1) dX13_size_20 (by decide) (Nat.le_of_ble_eq_true rfl) ?_
  refine m_inG (by show 0 ≤ 6; omega) (by show 6 ≤ 12; omega) (by decide) ?_
  refine j_if_ne (tgt := 28) dX13_size_23 (by decide) (fun h23 => ?_) (fun h23 => absurd h23 (by decide))
  refine j_aload_n dX13_size_28 rfl rfl ?_
  refine gN13_335 rfl dX13_size_29 hTn ?_
  refine j_ifnonnullN dX13_size_32 ?_
  refine j_iconst (v := nI 0) dX13_size_35 (by decide) ?_
  refine j_iret rfl dX13_size_36 ?_
  rw [e1]; exact hp
theorem mx_sizeN7  (hTn : mr 1000 3 = none)  (hp : post (some (.int 0)) (up mi 1000 0 0) ml mr dom) : CT G 2 0 0 yX13_size cX13_size 2 (some .int) [.ref 1000, .int (nI 7)] mi ml mr dom post := by
  refine enter 0 (by decide) rfl rfl (fun X => ?_)
  refine j_aload_n dX13_size_0 rfl rfl ?_
  refine j_iconst (v := nI 0) dX13_size_1 (by decide) ?_
  refine pI13_51 rfl dX13_size_2 ?_
  obtain ⟨m1, e1⟩ : ∃ m, m = up mi 1000 0 (nI 0) := ⟨_, rfl⟩
  rw [← e1]
  refine j_iload_n dX13_size_5 rfl rfl ?_
  refine j_bipush (v := nI 13) dX13_size_6 (by decide) ?_
  refine j_icmp_ne (tgt := 16) dX13_size_8 (by decide) (fun h8 => ?_) (fun h8 => absurd h8 (by decide))
  refine j_iload_n dX13_size_16 rfl rfl ?_
  refine j_iconst (v := nI 0) dX13_size_17 (by decide) ?_
  refine j_bipush (v := nI 12) dX13_size_18 (by decide) ?_
  refine cS13_129 (d1 := 1) dX13_size_20 (by decide) (Nat.le_of_ble_eq_true rfl) ?_
  refine m_inG (by show 0 ≤ 7; omega) (by show 7 ≤ 12; omega) (by decide) ?_
  refine j_if_ne (tgt := 28) dX13_size_23 (by decide) (fun h23 => ?_) (fun h23 => absurd h23 (by decide))
  refine j_aload_n dX13_size_28 rfl rfl ?_
  refine gN13_335 rfl dX13_size_29 hTn ?_
  refine j_ifnonnullN dX13_size_32 ?_
  refine j_iconst (v := nI 0) dX13_size_35 (by decide) ?_
  refine j_iret rfl dX13_size_36 ?_
  rw [e1]; exact hp
theorem mx_sizeN8  (hTn : mr 1000 3 = none)  (hp : post (some (.int 0)) (up mi 1000 0 0) ml mr dom) : CT G 2 0 0 yX13_size cX13_size 2 (some .int) [.ref 1000, .int (nI 8)] mi ml mr dom post := by
  refine enter 0 (by decide) rfl rfl (fun X => ?_)
  refine j_aload_n dX13_size_0 rfl rfl ?_
  refine j_iconst (v := nI 0) dX13_size_1 (by decide) ?_
  refine pI13_51 rfl dX13_size_2 ?_
  obtain ⟨m1, e1⟩ : ∃ m, m = up mi 1000 0 (nI 0) := ⟨_, rfl⟩
  rw [← e1]
  refine j_iload_n dX13_size_5 rfl rfl ?_
  refine j_bipush (v := nI 13) dX13_size_6 (by decide) ?_
  refine j_icmp_ne (tgt := 16) dX13_size_8 (by decide) (fun h8 => ?_) (fun h8 => absurd h8 (by decide))
  refine j_iload_n dX13_size_16 rfl rfl ?_
  refine j_iconst (v := nI 0) dX13_size_17 (by decide) ?_
  refine j_bipush (v := nI 12) dX13_size_18 (by decide) ?_
  refine cS13_129 (d1 := 1) dX13_size_20 (by decide) (Nat.le_of_ble_eq_true rfl) ?_
  refine m_inG (by show 0 ≤ 8; omega) (by show 8 ≤ 12; omega) (by decide) ?_
  refine j_if_ne (tgt := 28) dX13_size_23 (by decide) (fun h23 => ?_) (fun h23 => absurd h23 (by decide))
  refine j_aload_n dX13_size_28 rfl rfl ?_
  refine gN13_335 rfl dX13_size_29 hTn ?_
  refine j_ifnonnullN dX13_size_32 ?_
  refine j_iconst (v := nI 0) dX13_size_35 (by decide) ?_
  refine j_iret rfl dX13_size_36 ?_
  rw [e1]; exact hp
theorem mx_sizeN9  (hTn : mr 1000 3 = none)  (hp : post (some (.int 0)) (up mi 1000 0 0) ml mr dom) : CT G 2 0 0 yX13_size cX13_size 2 (some .int) [.ref 1000, .int (nI 9)] mi ml mr dom post := by
  refine enter 0 (by decide) rfl rfl (fun X => ?_)
  refine j_aload_n dX13_size_0 rfl rfl ?_
  refine j_iconst (v := nI 0) dX13_size_1 (by decide) ?_
  refine pI13_51 rfl dX13_size_2 ?_
  obtain ⟨m1, e1⟩ : ∃ m, m = up mi 1000 0 (nI 0) := ⟨_, rfl⟩
  rw [← e1]
  refine j_iload_n dX13_size_5 rfl rfl ?_
  refine j_bipush (v := nI 13) dX13_size_6 (by decide) ?_
  refine j_icmp_ne (tgt := 16) dX13_size_8 (by decide) (fun h8 => ?_) (fun h8 => absurd h8 (by decide))
  refine j_iload_n dX13_size_16 rfl rfl ?_
  refine j_iconst (v := nI 0) dX13_size_17 (by decide) ?_
  refine j_bipush (v := nI 12) dX13_size_18 (by decide) ?_
  refine cS13_129 (d1 := 1) dX13_size_20 (by decide) (Nat.le_of_ble_eq_true rfl) ?_
  refine m_inG (by show 0 ≤ 9; omega) (by show 9 ≤ 12; omega) (by decide) ?_
  refine j_if_ne (tgt := 28) dX13_size_23 (by decide) (fun h23 => ?_) (fun h23 => absurd h23 (by decide))
  refine j_aload_n dX13_size_28 rfl rfl ?_
  refine gN13_335 rfl dX13_size_29 hTn ?_
  refine j_ifnonnullN dX13_size_32 ?_
  refine j_iconst (v := nI 0) dX13_size_35 (by decide) ?_
  refine j_iret rfl dX13_size_36 ?_
  rw [e1]; exact hp
theorem mx_sizeN10  (hTn : mr 1000 3 = none)  (hp : post (some (.int 0)) (up mi 1000 0 0) ml mr dom) : CT G 2 0 0 yX13_size cX13_size 2 (some .int) [.ref 1000, .int (nI 10)] mi ml mr dom post := by
  refine enter 0 (by decide) rfl rfl (fun X => ?_)
  refine j_aload_n dX13_size_0 rfl rfl ?_
  refine j_iconst (v := nI 0) dX13_size_1 (by decide) ?_
  refine pI13_51 rfl dX13_size_2 ?_
  obtain ⟨m1, e1⟩ : ∃ m, m = up mi 1000 0 (nI 0) := ⟨_, rfl⟩
  rw [← e1]
  refine j_iload_n dX13_size_5 rfl rfl ?_
  refine j_bipush (v := nI 13) dX13_size_6 (by decide) ?_
  refine j_icmp_ne (tgt := 16) dX13_size_8 (by decide) (fun h8 => ?_) (fun h8 => absurd h8 (by decide))
  refine j_iload_n dX13_size_16 rfl rfl ?_
  refine j_iconst (v := nI 0) dX13_size_17 (by decide) ?_
  refine j_bipush (v := nI 12) dX13_size_18 (by decide) ?_
  refine cS13_129 (d1 := 1) dX13_size_20 (by decide) (Nat.le_of_ble_eq_true rfl) ?_
  refine m_inG (by show 0 ≤ 10; omega) (by show 10 ≤ 12; omega) (by decide) ?_
  refine j_if_ne (tgt := 28) dX13_size_23 (by decide) (fun h23 => ?_) (fun h23 => absurd h23 (by decide))
  refine j_aload_n dX13_size_28 rfl rfl ?_
  refine gN13_335 rfl dX13_size_29 hTn ?_
  refine j_ifnonnullN dX13_size_32 ?_
  refine j_iconst (v := nI 0) dX13_size_35 (by decide) ?_
  refine j_iret rfl dX13_size_36 ?_
  rw [e1]; exact hp
theorem mx_sizeN11  (hTn : mr 1000 3 = none)  (hp : post (some (.int 0)) (up mi 1000 0 0) ml mr dom) : CT G 2 0 0 yX13_size cX13_size 2 (some .int) [.ref 1000, .int (nI 11)] mi ml mr dom post := by
  refine enter 0 (by decide) rfl rfl (fun X => ?_)
  refine j_aload_n dX13_size_0 rfl rfl ?_
  refine j_iconst (v := nI 0) dX13_size_1 (by decide) ?_
  refine pI13_51 rfl dX13_size_2 ?_
  obtain ⟨m1, e1⟩ : ∃ m, m = up mi 1000 0 (nI 0) := ⟨_, rfl⟩
  rw [← e1]
  refine j_iload_n dX13_size_5 rfl rfl ?_
  refine j_bipush (v := nI 13) dX13_size_6 (by decide) ?_
  refine j_icmp_ne (tgt := 16) dX13_size_8 (by decide) (fun h8 => ?_) (fun h8 => absurd h8 (by decide))
  refine j_iload_n dX13_size_16 rfl rfl ?_
  refine j_iconst (v := nI 0) dX13_size_17 (by decide) ?_
  refine j_bipush (v := nI 12) dX13_size_18 (by decide) ?_
  refine cS13_129 (d1 := 1) dX13_size_20 (by decide) (Nat.le_of_ble_eq_true rfl) ?_
  refine m_inG (by show 0 ≤ 11; omega) (by show 11 ≤ 12; omega) (by decide) ?_
  refine j_if_ne (tgt := 28) dX13_size_23 (by decide) (fun h23 => ?_) (fun h23 => absurd h23 (by decide))
  refine j_aload_n dX13_size_28 rfl rfl ?_
  refine gN13_335 rfl dX13_size_29 hTn ?_
  refine j_ifnonnullN dX13_size_32 ?_
  refine j_iconst (v := nI 0) dX13_size_35 (by decide) ?_
  refine j_iret rfl dX13_size_36 ?_
  rw [e1]; exact hp
theorem mx_sizeN12  (hTn : mr 1000 3 = none)  (hp : post (some (.int 0)) (up mi 1000 0 0) ml mr dom) : CT G 2 0 0 yX13_size cX13_size 2 (some .int) [.ref 1000, .int (nI 12)] mi ml mr dom post := by
  refine enter 0 (by decide) rfl rfl (fun X => ?_)
  refine j_aload_n dX13_size_0 rfl rfl ?_
  refine j_iconst (v := nI 0) dX13_size_1 (by decide) ?_
  refine pI13_51 rfl dX13_size_2 ?_
  obtain ⟨m1, e1⟩ : ∃ m, m = up mi 1000 0 (nI 0) := ⟨_, rfl⟩
  rw [← e1]
  refine j_iload_n dX13_size_5 rfl rfl ?_
  refine j_bipush (v := nI 13) dX13_size_6 (by decide) ?_
  refine j_icmp_ne (tgt := 16) dX13_size_8 (by decide) (fun h8 => ?_) (fun h8 => absurd h8 (by decide))
  refine j_iload_n dX13_size_16 rfl rfl ?_
  refine j_iconst (v := nI 0) dX13_size_17 (by decide) ?_
  refine j_bipush (v := nI 12) dX13_size_18 (by decide) ?_
  refine cS13_129 (d1 := 1) dX13_size_20 (by decide) (Nat.le_of_ble_eq_true rfl) ?_
  refine m_inG (by show 0 ≤ 12; omega) (by show 12 ≤ 12; omega) (by decide) ?_
  refine j_if_ne (tgt := 28) dX13_size_23 (by decide) (fun h23 => ?_) (fun h23 => absurd h23 (by decide))
  refine j_aload_n dX13_size_28 rfl rfl ?_
  refine gN13_335 rfl dX13_size_29 hTn ?_
  refine j_ifnonnullN dX13_size_32 ?_
  refine j_iconst (v := nI 0) dX13_size_35 (by decide) ?_
  refine j_iret rfl dX13_size_36 ?_
  rw [e1]; exact hp
theorem mx_sizeB {x : Int32}  (hb : bad x 14) (hp : post (some (.int (-1))) (up mi 1000 0 0) ml mr dom) : CT G 2 0 0 yX13_size cX13_size 2 (some .int) [.ref 1000, .int x] mi ml mr dom post := by
  refine enter 0 (by decide) rfl rfl (fun X => ?_)
  refine j_aload_n dX13_size_0 rfl rfl ?_
  refine j_iconst (v := nI 0) dX13_size_1 (by decide) ?_
  refine pI13_51 rfl dX13_size_2 ?_
  obtain ⟨m1, e1⟩ : ∃ m, m = up mi 1000 0 (nI 0) := ⟨_, rfl⟩
  rw [← e1]
  refine j_iload_n dX13_size_5 rfl rfl ?_
  refine j_bipush (v := nI 13) dX13_size_6 (by decide) ?_
  refine j_icmp_ne (tgt := 16) dX13_size_8 (by decide) (fun h8 => ?_) (fun h8 => by subst h8; exact absurd (hb.elim (fun q => absurd q (by decide)) (fun q => q)) (by decide))
  refine j_iload_n dX13_size_16 rfl rfl ?_
  refine j_iconst (v := nI 0) dX13_size_17 (by decide) ?_
  refine j_bipush (v := nI 12) dX13_size_18 (by decide) ?_
  refine cS13_129 (d1 := 1) dX13_size_20 (by decide) (Nat.le_of_ble_eq_true rfl) ?_
  refine m_inB (bad_in (n := 13) (by decide) (by decide) (hb.elim Or.inl (fun q => Or.inr (Int32.le_trans (by decide) q)))) ?_
  refine j_if_ne (tgt := 28) dX13_size_23 (by decide) (fun h23 => absurd (by decide) h23) (fun h23 => ?_)
  refine j_iconst (v := -1) dX13_size_26 (by decide) ?_
  refine j_iret rfl dX13_size_27 ?_
  rw [e1]; exact hp
theorem mx_trouble    (hp : post (some (.int (mi 1000 1))) (up mi 1000 0 0) ml mr dom) : CT G 1 0 0 yX13_trouble cX13_trouble 1 (some .int) [.ref 1000] mi ml mr dom post := by
  refine enter 0 (by decide) rfl rfl (fun X => ?_)
  refine j_aload_n dX13_trouble_0 rfl rfl ?_
  refine j_iconst (v := nI 0) dX13_trouble_1 (by decide) ?_
  refine pI13_51 rfl dX13_trouble_2 ?_
  obtain ⟨m1, e1⟩ : ∃ m, m = up mi 1000 0 (nI 0) := ⟨_, rfl⟩
  rw [← e1]
  refine j_aload_n dX13_trouble_5 rfl rfl ?_
  refine gI13_54 rfl dX13_trouble_6 ?_
  refine j_iret rfl dX13_trouble_9 ?_
  rw [e1, up_ne _ _ (by decide)]; exact hp
theorem mx_fault    (hp : post (some (.int (mi 1000 13))) (up mi 1000 0 0) ml mr dom) : CT G 1 0 0 yX13_fault cX13_fault 1 (some .int) [.ref 1000] mi ml mr dom post := by
  refine enter 0 (by decide) rfl rfl (fun X => ?_)
  refine j_aload_n dX13_fault_0 rfl rfl ?_
  refine j_iconst (v := nI 0) dX13_fault_1 (by decide) ?_
  refine pI13_51 rfl dX13_fault_2 ?_
  obtain ⟨m1, e1⟩ : ∃ m, m = up mi 1000 0 (nI 0) := ⟨_, rfl⟩
  rw [← e1]
  refine j_aload_n dX13_fault_5 rfl rfl ?_
  refine gI13_108 rfl dX13_fault_6 ?_
  refine j_iret rfl dX13_fault_9 ?_
  rw [e1, up_ne _ _ (by decide)]; exact hp
theorem mx_where    (hp : post (some (.int (mi 1000 2))) (up mi 1000 0 0) ml mr dom) : CT G 1 0 0 yX13_where cX13_where 1 (some .int) [.ref 1000] mi ml mr dom post := by
  refine enter 0 (by decide) rfl rfl (fun X => ?_)
  refine j_aload_n dX13_where_0 rfl rfl ?_
  refine j_iconst (v := nI 0) dX13_where_1 (by decide) ?_
  refine pI13_51 rfl dX13_where_2 ?_
  obtain ⟨m1, e1⟩ : ∃ m, m = up mi 1000 0 (nI 0) := ⟨_, rfl⟩
  rw [← e1]
  refine j_aload_n dX13_where_5 rfl rfl ?_
  refine gI13_9 rfl dX13_where_6 ?_
  refine j_iret rfl dX13_where_9 ?_
  rw [e1, up_ne _ _ (by decide)]; exact hp
theorem m_rem2 {X : Cx} {m1 : MI} {b : Nat} {f : Nat → Int32} (hb : b ≤ 15) (hac : m1 1000 19 = nI b) (hX : XM mr) (hoff : ∀ z, z ≠ 1000 → z ≠ 1003 → m1 z = mi z) (hsl : ∀ j, j ≠ 19 → m1 1000 j = mi 1000 j) (hps : ∀ j, j < 13 * b → m1 1003 j = f j) (hp : ∀ m : MI, (∀ z, z ≠ 1000 → z ≠ 1003 → m z = mi z) → (∀ j, j ≠ 19 → m 1000 j = mi 1000 j) → m 1000 19 = nI (b + 1) → (∀ j, j < 13 → m 1003 (13 * b + j) = mi 1002 j) → (∀ j, j < 13 * b → m 1003 j = f j) → post none m ml mr dom) : J cX13_remembers 2 yX13_remembers.cls yX13_remembers.name none 1 G X post 0 0 m1 ml mr dom 51 [some (.ref 1000), some (.int (nI 0))] [] := by
  have key : ∀ m : MI, (off1 1003 m m1 ∧ m 1000 19 = nI b ∧ (∀ j, j < 0 → m 1003 (13 * b + j) = m1 1002 j) ∧ ∀ j, j < 13 * b → m 1003 j = m1 1003 j) → J cX13_remembers 2 yX13_remembers.cls yX13_remembers.name none 1 G X post 0 0 m ml mr dom 51 [some (.ref 1000), some (.int (nI 0))] [] := by
    refine lq (n := 13) (H := fun i => ∀ m : MI, (off1 1003 m m1 ∧ m 1000 19 = nI b ∧ (∀ j, j < i → m 1003 (13 * b + j) = m1 1002 j) ∧ ∀ j, j < 13 * b → m 1003 j = m1 1003 j) → J cX13_remembers 2 yX13_remembers.cls yX13_remembers.name none 1 G X post 0 0 m ml mr dom 51 [some (.ref 1000), some (.int (nI i))] []) (fun m hm => ?_) (fun i hi ih m hm => ?_)
    · skip
      refine j_iload_n dX13_remembers_51 rfl rfl ?_
      refine j_bipush (v := nI 13) dX13_remembers_52 (by decide) ?_
      refine j_icmp_ge (tgt := 83) dX13_remembers_54 (by decide) (fun h54 => ?_) (fun h54 => by exfalso; rw [nI_leI (by omega) (by omega)] at h54; omega)
      refine j_aload_n dX13_remembers_83 rfl rfl ?_
      refine j_dup dX13_remembers_84 rfl ?_
      refine gI13_340 rfl dX13_remembers_85 ?_
      rw [hm.2.1]
      refine j_iconst (v := nI 1) dX13_remembers_88 (by decide) ?_
      refine j_iadd dX13_remembers_89 ?_
      rw [nI_add]
      refine pI13_340 rfl dX13_remembers_90 ?_
      refine j_vret rfl dX13_remembers_93 ?_
      refine hp (up m 1000 19 (nI (b + 1))) (fun z h0 h1 => ?_) (fun j hj => ?_) (up_at _ _ _ _) (fun j hj => ?_) (fun j hj => ?_)
      · rw [up_off _ _ h0, hm.1 z h1, hoff z h0 h1]
      · rw [up_ne _ _ hj, hm.1 1000 (by decide)]; exact hsl j hj
      · rw [up_off _ _ (by decide), hm.2.2.1 j hj, hoff 1002 (by decide) (by decide)]
      · rw [up_off _ _ (by decide), hm.2.2.2 j hj]; exact hps j hj
    · skip
      refine j_iload_n dX13_remembers_51 rfl rfl ?_
      refine j_bipush (v := nI 13) dX13_remembers_52 (by decide) ?_
      refine j_icmp_ge (tgt := 83) dX13_remembers_54 (by decide) (fun h54 => by exfalso; rw [nI_leI (by omega) (by omega)] at h54; omega) (fun h54 => ?_)
      refine j_aload_n dX13_remembers_57 rfl rfl ?_
      refine gR13_21 rfl dX13_remembers_58 (x1003 hX) ?_
      refine j_bipush (v := nI 13) dX13_remembers_61 (by decide) ?_
      refine j_aload_n dX13_remembers_63 rfl rfl ?_
      refine gI13_340 rfl dX13_remembers_64 ?_
      rw [hm.2.1]
      refine j_imul dX13_remembers_67 ?_
      rw [pk_mul]
      refine j_iload_n dX13_remembers_68 rfl rfl ?_
      refine j_iadd dX13_remembers_69 ?_
      rw [nI_add]
      refine j_aload_n dX13_remembers_70 rfl rfl ?_
      refine gR13_17 rfl dX13_remembers_71 (x1002 hX) ?_
      refine j_iload_n dX13_remembers_74 rfl rfl ?_
      refine j_iald rfl (inT (show ln 1002 = 13 from rfl) (by show i < 13; omega) (by decide)) dX13_remembers_75 ?_
      rw [nI_clamp (by omega)]
      refine j_iast rfl (inT (show ln 1003 = 208 from rfl) (by show (13 * b) + i < 208; omega) (by decide)) dX13_remembers_76 ?_
      rw [nI_clamp (by omega)]
      refine j_iinc1 (lv2 := [_, _]) dX13_remembers_77 rfl (by decide) rfl rfl ?_
      rw [nI_1]
      refine j_goto (tgt := 51) dX13_remembers_80 (by decide) ?_
      refine ih _ ⟨fun z hz => ?_, ?_, fun j hj => ?_, fun j hj => ?_⟩
      · rw [up_off _ _ hz]; exact hm.1 z hz
      · rw [up_off _ _ (by decide)]; exact hm.2.1
      · by_cases q : j = i
        · subst q; rw [up_at, hm.1 1002 (by decide)]
        · rw [up_ne _ _ (by omega)]; exact hm.2.2.1 j (by omega)
      · rw [up_ne _ _ (by omega)]; exact hm.2.2.2 j hj
  exact key m1 ⟨fun _ _ => rfl, hac, fun j hj => absurd hj (by omega), fun j _ => rfl⟩
theorem m_remembers {a : Nat} (hX : XM mr) (ha : a ≤ 16) (hac : mi 1000 19 = nI a) (hp1 : a < 16 → ∀ m : MI, (∀ z, z ≠ 1000 → z ≠ 1003 → m z = mi z) → (∀ j, j ≠ 19 → m 1000 j = mi 1000 j) → m 1000 19 = nI (a + 1) → (∀ j, j < 13 → m 1003 (13 * a + j) = mi 1002 j) → (∀ j, j < 13 * a → m 1003 j = mi 1003 j) → post none m ml mr dom) (hp2 : a = 16 → ∀ m : MI, (∀ z, z ≠ 1000 → z ≠ 1003 → m z = mi z) → (∀ j, j ≠ 19 → m 1000 j = mi 1000 j) → m 1000 19 = nI (15 + 1) → (∀ j, j < 13 → m 1003 (13 * 15 + j) = mi 1002 j) → (∀ j, j < 13 * 15 → m 1003 j = mi 1003 (j + 13)) → post none m ml mr dom) : CT G 1 0 0 yX13_remembers cX13_remembers 2 none [.ref 1000] mi ml mr dom post := by
  refine enter 1 (by decide) rfl rfl (fun X => ?_)
  refine j_aload_n dX13_remembers_0 rfl rfl ?_
  refine gI13_340 rfl dX13_remembers_1 ?_
  rw [hac]
  refine j_bipush (v := nI 16) dX13_remembers_4 (by decide) ?_
  refine j_icmp_ne (tgt := 49) dX13_remembers_6 (by decide) (fun h6 => ?_) (fun h6 => ?_)
  all_goals rw [nI_eq (by omega) (by omega)] at h6
  · refine j_iconst (v := nI 0) dX13_remembers_49 (by decide) ?_
    refine j_istore_n (lv2 := [_, _]) dX13_remembers_50 rfl (by decide) rfl rfl ?_
    refine m_rem2 (mi := mi) (f := fun j => mi 1003 j) (b := a) (by omega) hac hX (fun z _ _ => rfl) (fun j _ => rfl) (fun j _ => rfl) (hp1 (by omega))
  · refine j_iconst (v := nI 0) dX13_remembers_9 (by decide) ?_
    refine j_istore_n (lv2 := [_, _]) dX13_remembers_10 rfl (by decide) rfl rfl ?_
    have hac16 : a = 16 := h6
    subst hac16
    have key : ∀ m : MI, (off1 1003 m mi ∧ (∀ j, j < 0 → m 1003 j = mi 1003 (j + 13)) ∧ ∀ j, 0 ≤ j → m 1003 j = mi 1003 j) → J cX13_remembers 2 yX13_remembers.cls yX13_remembers.name none 1 G X post 0 0 m ml mr dom 11 [some (.ref 1000), some (.int (nI 0))] [] := by
      refine lq (n := 195) (H := fun i => ∀ m : MI, (off1 1003 m mi ∧ (∀ j, j < i → m 1003 j = mi 1003 (j + 13)) ∧ ∀ j, i ≤ j → m 1003 j = mi 1003 j) → J cX13_remembers 2 yX13_remembers.cls yX13_remembers.name none 1 G X post 0 0 m ml mr dom 11 [some (.ref 1000), some (.int (nI i))] []) (fun m hm => ?_) (fun i hi ih m hm => ?_)
      · skip
        refine j_iload_n dX13_remembers_11 rfl rfl ?_
        refine j_sipush (v := nI 195) dX13_remembers_12 (by decide) ?_
        refine j_icmp_ge (tgt := 39) dX13_remembers_15 (by decide) (fun h15 => ?_) (fun h15 => by exfalso; rw [nI_leI (by omega) (by omega)] at h15; omega)
        refine j_aload_n dX13_remembers_39 rfl rfl ?_
        refine j_dup dX13_remembers_40 rfl ?_
        refine gI13_340 rfl dX13_remembers_41 ?_
        rw [hm.1 1000 (by decide), hac]
        refine j_iconst (v := nI 1) dX13_remembers_44 (by decide) ?_
        refine j_isub dX13_remembers_45 ?_
        rw [show nI 16 - nI 1 = nI 15 by decide]
        refine pI13_340 rfl dX13_remembers_46 ?_
        refine j_iconst (v := nI 0) dX13_remembers_49 (by decide) ?_
        refine j_istore_n (lv2 := [_, _]) dX13_remembers_50 rfl (by decide) rfl rfl ?_
        refine m_rem2 (mi := mi) (f := fun j => mi 1003 (j + 13)) (b := 15) (by decide) (up_at _ _ _ _) hX (fun z h0 h1 => ?_) (fun j hj => ?_) (fun j hj => ?_) (fun m2 a1 a2 a3 a4 a5 => hp2 h6 m2 a1 a2 a3 a4 a5)
        · rw [up_off _ _ h0]; exact hm.1 z h1
        · rw [up_ne _ _ hj, hm.1 1000 (by decide)]
        · rw [up_off _ _ (by decide)]; exact hm.2.1 j (by omega)
      · skip
        refine j_iload_n dX13_remembers_11 rfl rfl ?_
        refine j_sipush (v := nI 195) dX13_remembers_12 (by decide) ?_
        refine j_icmp_ge (tgt := 39) dX13_remembers_15 (by decide) (fun h15 => by exfalso; rw [nI_leI (by omega) (by omega)] at h15; omega) (fun h15 => ?_)
        refine j_aload_n dX13_remembers_18 rfl rfl ?_
        refine gR13_21 rfl dX13_remembers_19 (x1003 hX) ?_
        refine j_iload_n dX13_remembers_22 rfl rfl ?_
        refine j_aload_n dX13_remembers_23 rfl rfl ?_
        refine gR13_21 rfl dX13_remembers_24 (x1003 hX) ?_
        refine j_iload_n dX13_remembers_27 rfl rfl ?_
        refine j_bipush (v := nI 13) dX13_remembers_28 (by decide) ?_
        refine j_iadd dX13_remembers_30 ?_
        rw [nI_add]
        refine j_iald rfl (inT (show ln 1003 = 208 from rfl) (by show i + 13 < 208; omega) (by decide)) dX13_remembers_31 ?_
        rw [nI_clamp (by omega)]
        refine j_iast rfl (inT (show ln 1003 = 208 from rfl) (by show i < 208; omega) (by decide)) dX13_remembers_32 ?_
        rw [nI_clamp (by omega)]
        refine j_iinc1 (lv2 := [_, _]) dX13_remembers_33 rfl (by decide) rfl rfl ?_
        rw [nI_1]
        refine j_goto (tgt := 11) dX13_remembers_36 (by decide) ?_
        refine ih _ ⟨fun z hz => ?_, fun j hj => ?_, fun j hj => ?_⟩
        · rw [up_off _ _ hz]; exact hm.1 z hz
        · by_cases q : j = i
          · subst q; rw [up_at]; exact hm.2.2 _ (by omega)
          · rw [up_ne _ _ q]; exact hm.2.1 j (by omega)
        · rw [up_ne _ _ (by omega)]; exact hm.2.2 j (by omega)
    exact key mi ⟨fun _ _ => rfl, fun j hj => absurd hj (by omega), fun j _ => rfl⟩
end M13d

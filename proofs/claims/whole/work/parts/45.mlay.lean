/-! LAYOUT of the reference -/
def fxM : List (Nat × Nat × Nat) := [(1000, 5, 1001), (1000, 16, 1002), (1000, 17, 1003), (1000, 18, 1004), (1000, 21, 1005), (1000, 22, 1006), (1000, 23, 1007), (1000, 24, 1008), (1000, 25, 1009), (1000, 27, 1010), (1000, 28, 1011), (1000, 29, 1012)]
def XM (mr : MR) : Prop := ∀ q ∈ fxM, mr q.1 q.2.1 = some q.2.2
def XT (mr : MR) (M : Nat) : Prop := ∀ r, 1 ≤ r → r ≤ 19 → mr M (9 + r) = some (M + r)
def MM (M : Nat) : Prop := ∃ k, M = 2000 + 20 * k
/-- the reference's town M holds t -/
def RM (mi : MI) (M : Nat) (t : TW) : Prop := (∀ i, i < 9 → mi M i = nI (t 0 i)) ∧ ∀ r, 1 ≤ r → r ≤ 16 → ∀ i, i < lnD.getD r 0 → mi (M + r) i = nI (t r i)
def GB (t : TW) : Prop := ∀ r i, t r i ≤ 99999
theorem bN01 (b : Bool) : narrow .boolean (.int (nI (bN b))) = .int (nI (bN b)) := by cases b <;> decide
section LAYM
variable {mi : MI} {mr : MR} {M i : Nat} {t : TW}
theorem MM.ge (h : MM M) : 2000 ≤ M := by obtain ⟨k, rfl⟩ := h; omega
theorem kM0 (h : MM M) : kd M = 12 := by obtain ⟨k, rfl⟩ := h; exact kdM k 0 (by decide)
theorem RM_off {m : MI} (e : ∀ j, j < 20 → m (M + j) = mi (M + j)) (h : RM mi M t) : RM m M t := ⟨fun i hi => by have := e 0 (by decide); rw [Nat.add_zero] at this; rw [this]; exact h.1 i hi, fun r h1 h2 i hi => by rw [e r (by omega)]; exact h.2 r h1 h2 i hi⟩
theorem RM_lo {m : MI} (hM : MM M) (e : ∀ n, 2000 ≤ n → m n = mi n) (h : RM mi M t) : RM m M t := RM_off (fun j _ => e _ (by have := hM.ge; omega)) h
theorem x1001 (h : XM mr) : mr 1000 5 = some 1001 := h (1000, 5, 1001) (by decide)
theorem x1002 (h : XM mr) : mr 1000 16 = some 1002 := h (1000, 16, 1002) (by decide)
theorem x1003 (h : XM mr) : mr 1000 17 = some 1003 := h (1000, 17, 1003) (by decide)
theorem x1004 (h : XM mr) : mr 1000 18 = some 1004 := h (1000, 18, 1004) (by decide)
theorem x1005 (h : XM mr) : mr 1000 21 = some 1005 := h (1000, 21, 1005) (by decide)
theorem x1006 (h : XM mr) : mr 1000 22 = some 1006 := h (1000, 22, 1006) (by decide)
theorem x1007 (h : XM mr) : mr 1000 23 = some 1007 := h (1000, 23, 1007) (by decide)
theorem x1008 (h : XM mr) : mr 1000 24 = some 1008 := h (1000, 24, 1008) (by decide)
theorem x1009 (h : XM mr) : mr 1000 25 = some 1009 := h (1000, 25, 1009) (by decide)
theorem x1010 (h : XM mr) : mr 1000 27 = some 1010 := h (1000, 27, 1010) (by decide)
theorem x1011 (h : XM mr) : mr 1000 28 = some 1011 := h (1000, 28, 1011) (by decide)
theorem x1012 (h : XM mr) : mr 1000 29 = some 1012 := h (1000, 29, 1012) (by decide)
theorem kM1 (h : MM M) : kd (M + 1) = 15 := by obtain ⟨k, rfl⟩ := h; exact kdM k 1 (by decide)
theorem lM1 (h : MM M) : ln (M + 1) = 6 := by obtain ⟨k, rfl⟩ := h; exact lnM k 1 (by decide)
theorem xM1 (h : XT mr M) : mr M 10 = some (M + 1) := h 1 (by decide) (by decide)
theorem rM1 (h : RM mi M t) (hi : i < 6) : mi (M + 1) i = nI (t 1 i) := h.2 1 (by decide) (by decide) i hi
theorem kM2 (h : MM M) : kd (M + 2) = 15 := by obtain ⟨k, rfl⟩ := h; exact kdM k 2 (by decide)
theorem lM2 (h : MM M) : ln (M + 2) = 36 := by obtain ⟨k, rfl⟩ := h; exact lnM k 2 (by decide)
theorem xM2 (h : XT mr M) : mr M 11 = some (M + 2) := h 2 (by decide) (by decide)
theorem rM2 (h : RM mi M t) (hi : i < 36) : mi (M + 2) i = nI (t 2 i) := h.2 2 (by decide) (by decide) i hi
theorem kM3 (h : MM M) : kd (M + 3) = 15 := by obtain ⟨k, rfl⟩ := h; exact kdM k 3 (by decide)
theorem lM3 (h : MM M) : ln (M + 3) = 36 := by obtain ⟨k, rfl⟩ := h; exact lnM k 3 (by decide)
theorem xM3 (h : XT mr M) : mr M 12 = some (M + 3) := h 3 (by decide) (by decide)
theorem rM3 (h : RM mi M t) (hi : i < 36) : mi (M + 3) i = nI (t 3 i) := h.2 3 (by decide) (by decide) i hi
theorem kM4 (h : MM M) : kd (M + 4) = 15 := by obtain ⟨k, rfl⟩ := h; exact kdM k 4 (by decide)
theorem lM4 (h : MM M) : ln (M + 4) = 6 := by obtain ⟨k, rfl⟩ := h; exact lnM k 4 (by decide)
theorem xM4 (h : XT mr M) : mr M 13 = some (M + 4) := h 4 (by decide) (by decide)
theorem rM4 (h : RM mi M t) (hi : i < 6) : mi (M + 4) i = nI (t 4 i) := h.2 4 (by decide) (by decide) i hi
theorem kM5 (h : MM M) : kd (M + 5) = 15 := by obtain ⟨k, rfl⟩ := h; exact kdM k 5 (by decide)
theorem lM5 (h : MM M) : ln (M + 5) = 6 := by obtain ⟨k, rfl⟩ := h; exact lnM k 5 (by decide)
theorem xM5 (h : XT mr M) : mr M 14 = some (M + 5) := h 5 (by decide) (by decide)
theorem rM5 (h : RM mi M t) (hi : i < 6) : mi (M + 5) i = nI (t 5 i) := h.2 5 (by decide) (by decide) i hi
theorem kM6 (h : MM M) : kd (M + 6) = 15 := by obtain ⟨k, rfl⟩ := h; exact kdM k 6 (by decide)
theorem lM6 (h : MM M) : ln (M + 6) = 6 := by obtain ⟨k, rfl⟩ := h; exact lnM k 6 (by decide)
theorem xM6 (h : XT mr M) : mr M 15 = some (M + 6) := h 6 (by decide) (by decide)
theorem rM6 (h : RM mi M t) (hi : i < 6) : mi (M + 6) i = nI (t 6 i) := h.2 6 (by decide) (by decide) i hi
theorem kM7 (h : MM M) : kd (M + 7) = 15 := by obtain ⟨k, rfl⟩ := h; exact kdM k 7 (by decide)
theorem lM7 (h : MM M) : ln (M + 7) = 30 := by obtain ⟨k, rfl⟩ := h; exact lnM k 7 (by decide)
theorem xM7 (h : XT mr M) : mr M 16 = some (M + 7) := h 7 (by decide) (by decide)
theorem rM7 (h : RM mi M t) (hi : i < 30) : mi (M + 7) i = nI (t 7 i) := h.2 7 (by decide) (by decide) i hi
theorem kM8 (h : MM M) : kd (M + 8) = 15 := by obtain ⟨k, rfl⟩ := h; exact kdM k 8 (by decide)
theorem lM8 (h : MM M) : ln (M + 8) = 5 := by obtain ⟨k, rfl⟩ := h; exact lnM k 8 (by decide)
theorem xM8 (h : XT mr M) : mr M 17 = some (M + 8) := h 8 (by decide) (by decide)
theorem rM8 (h : RM mi M t) (hi : i < 5) : mi (M + 8) i = nI (t 8 i) := h.2 8 (by decide) (by decide) i hi
theorem kM9 (h : MM M) : kd (M + 9) = 15 := by obtain ⟨k, rfl⟩ := h; exact kdM k 9 (by decide)
theorem lM9 (h : MM M) : ln (M + 9) = 5 := by obtain ⟨k, rfl⟩ := h; exact lnM k 9 (by decide)
theorem xM9 (h : XT mr M) : mr M 18 = some (M + 9) := h 9 (by decide) (by decide)
theorem rM9 (h : RM mi M t) (hi : i < 5) : mi (M + 9) i = nI (t 9 i) := h.2 9 (by decide) (by decide) i hi
theorem kM10 (h : MM M) : kd (M + 10) = 15 := by obtain ⟨k, rfl⟩ := h; exact kdM k 10 (by decide)
theorem lM10 (h : MM M) : ln (M + 10) = 5 := by obtain ⟨k, rfl⟩ := h; exact lnM k 10 (by decide)
theorem xM10 (h : XT mr M) : mr M 19 = some (M + 10) := h 10 (by decide) (by decide)
theorem rM10 (h : RM mi M t) (hi : i < 5) : mi (M + 10) i = nI (t 10 i) := h.2 10 (by decide) (by decide) i hi
theorem kM11 (h : MM M) : kd (M + 11) = 15 := by obtain ⟨k, rfl⟩ := h; exact kdM k 11 (by decide)
theorem lM11 (h : MM M) : ln (M + 11) = 8 := by obtain ⟨k, rfl⟩ := h; exact lnM k 11 (by decide)
theorem xM11 (h : XT mr M) : mr M 20 = some (M + 11) := h 11 (by decide) (by decide)
theorem rM11 (h : RM mi M t) (hi : i < 8) : mi (M + 11) i = nI (t 11 i) := h.2 11 (by decide) (by decide) i hi
theorem kM12 (h : MM M) : kd (M + 12) = 15 := by obtain ⟨k, rfl⟩ := h; exact kdM k 12 (by decide)
theorem lM12 (h : MM M) : ln (M + 12) = 8 := by obtain ⟨k, rfl⟩ := h; exact lnM k 12 (by decide)
theorem xM12 (h : XT mr M) : mr M 21 = some (M + 12) := h 12 (by decide) (by decide)
theorem rM12 (h : RM mi M t) (hi : i < 8) : mi (M + 12) i = nI (t 12 i) := h.2 12 (by decide) (by decide) i hi
theorem kM13 (h : MM M) : kd (M + 13) = 15 := by obtain ⟨k, rfl⟩ := h; exact kdM k 13 (by decide)
theorem lM13 (h : MM M) : ln (M + 13) = 8 := by obtain ⟨k, rfl⟩ := h; exact lnM k 13 (by decide)
theorem xM13 (h : XT mr M) : mr M 22 = some (M + 13) := h 13 (by decide) (by decide)
theorem rM13 (h : RM mi M t) (hi : i < 8) : mi (M + 13) i = nI (t 13 i) := h.2 13 (by decide) (by decide) i hi
theorem kM14 (h : MM M) : kd (M + 14) = 15 := by obtain ⟨k, rfl⟩ := h; exact kdM k 14 (by decide)
theorem lM14 (h : MM M) : ln (M + 14) = 5 := by obtain ⟨k, rfl⟩ := h; exact lnM k 14 (by decide)
theorem xM14 (h : XT mr M) : mr M 23 = some (M + 14) := h 14 (by decide) (by decide)
theorem rM14 (h : RM mi M t) (hi : i < 5) : mi (M + 14) i = nI (t 14 i) := h.2 14 (by decide) (by decide) i hi
theorem kM15 (h : MM M) : kd (M + 15) = 15 := by obtain ⟨k, rfl⟩ := h; exact kdM k 15 (by decide)
theorem lM15 (h : MM M) : ln (M + 15) = 5 := by obtain ⟨k, rfl⟩ := h; exact lnM k 15 (by decide)
theorem xM15 (h : XT mr M) : mr M 24 = some (M + 15) := h 15 (by decide) (by decide)
theorem rM15 (h : RM mi M t) (hi : i < 5) : mi (M + 15) i = nI (t 15 i) := h.2 15 (by decide) (by decide) i hi
theorem kM16 (h : MM M) : kd (M + 16) = 15 := by obtain ⟨k, rfl⟩ := h; exact kdM k 16 (by decide)
theorem lM16 (h : MM M) : ln (M + 16) = 5 := by obtain ⟨k, rfl⟩ := h; exact lnM k 16 (by decide)
theorem xM16 (h : XT mr M) : mr M 25 = some (M + 16) := h 16 (by decide) (by decide)
theorem rM16 (h : RM mi M t) (hi : i < 5) : mi (M + 16) i = nI (t 16 i) := h.2 16 (by decide) (by decide) i hi
theorem kM17 (h : MM M) : kd (M + 17) = 16 := by obtain ⟨k, rfl⟩ := h; exact kdM k 17 (by decide)
theorem lM17 (h : MM M) : ln (M + 17) = 17 := by obtain ⟨k, rfl⟩ := h; exact lnM k 17 (by decide)
theorem xM17 (h : XT mr M) : mr M 26 = some (M + 17) := h 17 (by decide) (by decide)
theorem kM18 (h : MM M) : kd (M + 18) = 15 := by obtain ⟨k, rfl⟩ := h; exact kdM k 18 (by decide)
theorem lM18 (h : MM M) : ln (M + 18) = 17 := by obtain ⟨k, rfl⟩ := h; exact lnM k 18 (by decide)
theorem xM18 (h : XT mr M) : mr M 27 = some (M + 18) := h 18 (by decide) (by decide)
theorem kM19 (h : MM M) : kd (M + 19) = 15 := by obtain ⟨k, rfl⟩ := h; exact kdM k 19 (by decide)
theorem lM19 (h : MM M) : ln (M + 19) = 17 := by obtain ⟨k, rfl⟩ := h; exact lnM k 19 (by decide)
theorem xM19 (h : XT mr M) : mr M 28 = some (M + 19) := h 19 (by decide) (by decide)
end LAYM
/-- how the reference's refusals and answers end -/
def fa (mi : MI) : MI := up (up (up mi 1000 0 0) 1000 1 0) 1000 2 (-1)
def rf (mi : MI) (x : Int32) : MI := up (up (up mi 1000 0 0) 1000 1 x) 1000 2 (-1)
section M12
variable {G : GG} {post : PT} {mi : MI} {ml : ML} {mr : MR} {dom : List Nat} {M : Nat} {t : TW}
theorem m_gap {h : Nat} (hM : MM M) (hY : XT mr M) (hg : GB t) (hW : WT t) (hR : RM mi M t) (hL : 60 ≤ t 0 2) (hh : h < t 0 3) (hp : post (some (.int (nI (t 0 2 - t 1 h)))) mi ml mr dom) : CT G 1 0 0 yX12_gap cX12_gap 2 (some .int) [.ref M, .int (nI h)] mi ml mr dom post := by
  have w := hW.1
  have hge := hM.ge
  have hs := hW.2.1 h hh
  refine enter 0 (by decide) rfl rfl (fun X => ?_)
  refine j_aload_n dX12_gap_0 rfl rfl ?_
  refine gI12_80 (kM0 hM) dX12_gap_1 ?_
  rw [hR.1 2 (by decide)]
  refine j_aload_n dX12_gap_4 rfl rfl ?_
  refine gR12_9 (kM0 hM) dX12_gap_5 (xM1 hY) ?_
  refine j_iload_n dX12_gap_8 rfl rfl ?_
  refine j_iald (kM1 hM) (inT (lM1 hM) (by show h < 6; omega) (by decide)) dX12_gap_9 ?_
  rw [nI_clamp (by omega), rM1 hR (by show h < 6; omega)]
  refine j_isub dX12_gap_10 ?_
  rw [pk_sub (by have := hg 0 2; have := hg 1 h; show t 1 h ≤ t 0 2; omega)]
  refine j_iret rfl dX12_gap_11 ?_
  exact hp
theorem m_isDay {x : Nat} (hM : MM M) (hY : XT mr M) (hg : GB t) (hW : WT t) (hR : RM mi M t) (hx : x < 2 ^ 31) (hp : post (some (.int (nI (bN (isD t x))))) mi ml mr dom) : CT G 1 0 0 yX12_isDay cX12_isDay 2 (some .boolean) [.ref M, .int (nI x)] mi ml mr dom post := by
  have w := hW.1
  have hge := hM.ge
  refine enter 0 (by decide) rfl rfl (fun X => ?_)
  refine j_iload_n dX12_isDay_0 rfl rfl ?_
  refine j_aload_n dX12_isDay_1 rfl rfl ?_
  refine gI12_74 (kM0 hM) dX12_isDay_2 ?_
  rw [hR.1 0 (by decide)]
  refine j_icmp_lt (tgt := 20) dX12_isDay_5 (by decide) (fun h5 => ?_) (fun h5 => ?_)
  all_goals rw [nI_ltI (by omega) (by have := hg 0 0; omega)] at h5
  · refine j_iconst (v := nI 0) dX12_isDay_20 (by decide) ?_
    refine j_zret rfl (by decide) dX12_isDay_21 ?_
    unfold isD at hp
    first
      | (rw [decide_eq_true (by omega), decide_eq_true (by omega)] at hp; exact hp)
      | (rw [decide_eq_false (by omega), Bool.false_and] at hp; exact hp)
      | (rw [decide_eq_false (p := x < t 0 1) (by omega), Bool.and_false] at hp; exact hp)
  · refine j_iload_n dX12_isDay_8 rfl rfl ?_
    refine j_aload_n dX12_isDay_9 rfl rfl ?_
    refine gI12_77 (kM0 hM) dX12_isDay_10 ?_
    rw [hR.1 1 (by decide)]
    refine j_icmp_ge (tgt := 20) dX12_isDay_13 (by decide) (fun h13 => ?_) (fun h13 => ?_)
    all_goals rw [nI_leI (by have := hg 0 1; omega) (by omega)] at h13
    · refine j_iconst (v := nI 0) dX12_isDay_20 (by decide) ?_
      refine j_zret rfl (by decide) dX12_isDay_21 ?_
      unfold isD at hp
      first
        | (rw [decide_eq_true (by omega), decide_eq_true (by omega)] at hp; exact hp)
        | (rw [decide_eq_false (by omega), Bool.false_and] at hp; exact hp)
        | (rw [decide_eq_false (p := x < t 0 1) (by omega), Bool.and_false] at hp; exact hp)
    · refine j_iconst (v := nI 1) dX12_isDay_16 (by decide) ?_
      refine j_goto (tgt := 21) dX12_isDay_17 (by decide) ?_
      refine j_zret rfl (by decide) dX12_isDay_21 ?_
      unfold isD at hp
      first
        | (rw [decide_eq_true (by omega), decide_eq_true (by omega)] at hp; exact hp)
        | (rw [decide_eq_false (by omega), Bool.false_and] at hp; exact hp)
        | (rw [decide_eq_false (p := x < t 0 1) (by omega), Bool.and_false] at hp; exact hp)
theorem m_feet {p : Nat} (hM : MM M) (hY : XT mr M) (hg : GB t) (hW : WT t) (hR : RM mi M t) (h1 : p < t 0 5) (hp : post (some (.int (nI (4 * t 7 (5 * p + 3) + t 7 (5 * p + 3 + 1))))) mi ml mr dom) : CT G 1 0 0 yX12_feet cX12_feet 2 (some .int) [.ref M, .int (nI p)] mi ml mr dom post := by
  have w := hW.1
  have hge := hM.ge
  refine enter 0 (by decide) rfl rfl (fun X => ?_)
  refine j_iconst (v := nI 4) dX12_feet_0 (by decide) ?_
  refine j_aload_n dX12_feet_1 rfl rfl ?_
  refine gR12_30 (kM0 hM) dX12_feet_2 (xM7 hY) ?_
  refine j_iconst (v := nI 5) dX12_feet_5 (by decide) ?_
  refine j_iload_n dX12_feet_6 rfl rfl ?_
  refine j_imul dX12_feet_7 ?_
  rw [pk_mul]
  refine j_iconst (v := nI 3) dX12_feet_8 (by decide) ?_
  refine j_iadd dX12_feet_9 ?_
  rw [nI_add]
  refine j_iald (kM7 hM) (inT (lM7 hM) (by show (5 * p) + 3 < 30; omega) (by decide)) dX12_feet_10 ?_
  rw [nI_clamp (by omega), rM7 hR (by show (5 * p) + 3 < 30; omega)]
  refine j_imul dX12_feet_11 ?_
  rw [pk_mul]
  refine j_aload_n dX12_feet_12 rfl rfl ?_
  refine gR12_30 (kM0 hM) dX12_feet_13 (xM7 hY) ?_
  refine j_iconst (v := nI 5) dX12_feet_16 (by decide) ?_
  refine j_iload_n dX12_feet_17 rfl rfl ?_
  refine j_imul dX12_feet_18 ?_
  rw [pk_mul]
  refine j_iconst (v := nI 3) dX12_feet_19 (by decide) ?_
  refine j_iadd dX12_feet_20 ?_
  rw [nI_add]
  refine j_iconst (v := nI 1) dX12_feet_21 (by decide) ?_
  refine j_iadd dX12_feet_22 ?_
  rw [nI_add]
  refine j_iald (kM7 hM) (inT (lM7 hM) (by show ((5 * p) + 3) + 1 < 30; omega) (by decide)) dX12_feet_23 ?_
  rw [nI_clamp (by omega), rM7 hR (by show ((5 * p) + 3) + 1 < 30; omega)]
  refine j_iadd dX12_feet_24 ?_
  rw [nI_add]
  refine j_iret rfl dX12_feet_25 ?_
  exact hp
theorem m_far {a b : Nat} (hM : MM M) (hY : XT mr M) (hg : GB t) (hW : WT t) (hR : RM mi M t) (h1 : a < 6) (h2 : b < 6) (hp : post (some (.int (nI (t 3 (6 * a + b))))) mi ml mr dom) : CT G 1 0 0 yX12_far cX12_far 3 (some .int) [.ref M, .int (nI a), .int (nI b)] mi ml mr dom post := by
  have w := hW.1
  have hge := hM.ge
  refine enter 0 (by decide) rfl rfl (fun X => ?_)
  refine j_aload_n dX12_far_0 rfl rfl ?_
  refine gR12_18 (kM0 hM) dX12_far_1 (xM3 hY) ?_
  refine j_bipush (v := nI 6) dX12_far_4 (by decide) ?_
  refine j_iload_n dX12_far_6 rfl rfl ?_
  refine j_imul dX12_far_7 ?_
  rw [pk_mul]
  refine j_iload_n dX12_far_8 rfl rfl ?_
  refine j_iadd dX12_far_9 ?_
  rw [nI_add]
  refine j_iald (kM3 hM) (inT (lM3 hM) (by show (6 * a) + b < 36; omega) (by decide)) dX12_far_10 ?_
  rw [nI_clamp (by omega), rM3 hR (by show (6 * a) + b < 36; omega)]
  refine j_iret rfl dX12_far_11 ?_
  exact hp
theorem m_carries {p : Nat} (hM : MM M) (hY : XT mr M) (hg : GB t) (hW : WT t) (hR : RM mi M t) (h1 : p < t 0 5) (hp : post (some (.int (nI (str t p)))) mi ml mr dom) : CT G 1 0 0 yX12_carries cX12_carries 2 (some .int) [.ref M, .int (nI p)] mi ml mr dom post := by
  have w := hW.1
  have hge := hM.ge
  refine enter 0 (by decide) rfl rfl (fun X => ?_)
  refine j_aload_n dX12_carries_0 rfl rfl ?_
  refine gR12_21 (kM0 hM) dX12_carries_1 (xM4 hY) ?_
  refine j_iload_n dX12_carries_4 rfl rfl ?_
  refine j_iald (kM4 hM) (inT (lM4 hM) (by show p < 6; omega) (by decide)) dX12_carries_5 ?_
  rw [nI_clamp (by omega), rM4 hR (by show p < 6; omega)]
  refine j_iconst (v := nI 1) dX12_carries_6 (by decide) ?_
  refine j_icmp_ne (tgt := 21) dX12_carries_7 (by decide) (fun h7 => ?_) (fun h7 => ?_)
  all_goals rw [nI_eq (by have := hg 4 p; omega) (by omega)] at h7
  · refine j_iconst (v := nI 0) dX12_carries_21 (by decide) ?_
    refine j_iret rfl dX12_carries_22 ?_
    unfold str at hp
    first
      | (rw [if_pos (by assumption)] at hp; exact hp)
      | (rw [if_neg (by assumption)] at hp; exact hp)
  · refine j_aload_n dX12_carries_10 rfl rfl ?_
    refine gR12_27 (kM0 hM) dX12_carries_11 (xM6 hY) ?_
    refine j_iload_n dX12_carries_14 rfl rfl ?_
    refine j_iald (kM6 hM) (inT (lM6 hM) (by show p < 6; omega) (by decide)) dX12_carries_15 ?_
    rw [nI_clamp (by omega), rM6 hR (by show p < 6; omega)]
    refine j_iconst (v := nI 3) dX12_carries_16 (by decide) ?_
    refine j_idiv dX12_carries_17 (by decide) ?_
    rw [pk_div (by have := hg 6 p; omega) (by show 0 < 3; omega) (by omega)]
    refine j_goto (tgt := 22) dX12_carries_18 (by decide) ?_
    refine j_iret rfl dX12_carries_22 ?_
    unfold str at hp
    first
      | (rw [if_pos (by assumption)] at hp; exact hp)
      | (rw [if_neg (by assumption)] at hp; exact hp)
theorem m_fineBy {p s x : Nat} (hM : MM M) (hY : XT mr M) (hg : GB t) (hW : WT t) (hR : RM mi M t) (h1 : p < t 0 5) (hs : s < 2 ^ 28) (hx : x < 2 ^ 31) (hp : post (some (.int (nI (fineO (t 4 p) (t 6 p) s (isD t x))))) mi ml mr dom) : CT G 2 0 0 yX12_fineBy cX12_fineBy 5 (some .int) [.ref M, .int (nI p), .int (nI s), .int (nI x)] mi ml mr dom post := by
  have w := hW.1
  have hge := hM.ge
  have hb := hg 6 p
  refine enter 1 (by decide) rfl rfl (fun X => ?_)
  refine j_aload_n dX12_fineBy_0 rfl rfl ?_
  refine gR12_27 (kM0 hM) dX12_fineBy_1 (xM6 hY) ?_
  refine j_iload_n dX12_fineBy_4 rfl rfl ?_
  refine j_iald (kM6 hM) (inT (lM6 hM) (by show p < 6; omega) (by decide)) dX12_fineBy_5 ?_
  rw [nI_clamp (by omega), rM6 hR (by show p < 6; omega)]
  refine j_iconst (v := nI 2) dX12_fineBy_6 (by decide) ?_
  refine j_idiv dX12_fineBy_7 (by decide) ?_
  rw [pk_div (by have := hg 6 p; omega) (by show 0 < 2; omega) (by omega)]
  refine j_iload_n dX12_fineBy_8 rfl rfl ?_
  refine j_isub dX12_fineBy_9 ?_
  refine j_istore (lv2 := [_, _, _, _, _]) dX12_fineBy_10 (by decide) rfl rfl ?_
  refine j_aload_n dX12_fineBy_12 rfl rfl ?_
  refine j_iload_n dX12_fineBy_13 rfl rfl ?_
  refine cV12_83 (d1 := 1) (kM0 hM) dX12_fineBy_14 (by decide) (Nat.le_of_ble_eq_true rfl) ?_
  refine m_isDay hM hY hg hW hR (by omega) ?_
  refine j_if_eq (tgt := 40) dX12_fineBy_17 (by decide) (fun h17 => ?_) (fun h17 => ?_)
  all_goals rw [bN_eq0] at h17
  · refine j_iconst (v := nI 0) dX12_fineBy_40 (by decide) ?_
    refine j_iret rfl dX12_fineBy_41 ?_
    unfold fineO at hp
    first
      | (rw [h17, Bool.false_and, if_neg (by decide)] at hp; exact hp)
      | (rw [decide_eq_false (p := t 4 p ≠ 1) (by omega), Bool.and_false, if_neg (by decide)] at hp; exact hp)
      | (have e : t 6 p / 2 - s = 0 := by omega
         rw [e, ite_self] at hp; exact hp)
      | (rw [Bool.not_eq_false] at h17
         rw [h17, decide_eq_true (p := t 4 p ≠ 1) (by omega), if_pos (by decide)] at hp
         rw [pk_sub (by omega)]; exact hp)
  · refine j_aload_n dX12_fineBy_20 rfl rfl ?_
    refine gR12_21 (kM0 hM) dX12_fineBy_21 (xM4 hY) ?_
    refine j_iload_n dX12_fineBy_24 rfl rfl ?_
    refine j_iald (kM4 hM) (inT (lM4 hM) (by show p < 6; omega) (by decide)) dX12_fineBy_25 ?_
    rw [nI_clamp (by omega), rM4 hR (by show p < 6; omega)]
    refine j_iconst (v := nI 1) dX12_fineBy_26 (by decide) ?_
    refine j_icmp_eq (tgt := 40) dX12_fineBy_27 (by decide) (fun h27 => ?_) (fun h27 => ?_)
    all_goals rw [nI_eq (by have := hg 4 p; omega) (by omega)] at h27
    · refine j_iconst (v := nI 0) dX12_fineBy_40 (by decide) ?_
      refine j_iret rfl dX12_fineBy_41 ?_
      unfold fineO at hp
      first
        | (rw [h17, Bool.false_and, if_neg (by decide)] at hp; exact hp)
        | (rw [decide_eq_false (p := t 4 p ≠ 1) (by omega), Bool.and_false, if_neg (by decide)] at hp; exact hp)
        | (have e : t 6 p / 2 - s = 0 := by omega
           rw [e, ite_self] at hp; exact hp)
        | (rw [Bool.not_eq_false] at h17
           rw [h17, decide_eq_true (p := t 4 p ≠ 1) (by omega), if_pos (by decide)] at hp
           rw [pk_sub (by omega)]; exact hp)
    · refine j_iload dX12_fineBy_30 rfl ?_
      refine j_if_le (tgt := 40) dX12_fineBy_32 (by decide) (fun h32 => ?_) (fun h32 => ?_)
      all_goals rw [show (0 : Int32) = nI 0 from rfl, nI_subLe (by have := hg 6 p; omega) (by omega) (by decide)] at h32
      · refine j_iconst (v := nI 0) dX12_fineBy_40 (by decide) ?_
        refine j_iret rfl dX12_fineBy_41 ?_
        unfold fineO at hp
        first
          | (rw [h17, Bool.false_and, if_neg (by decide)] at hp; exact hp)
          | (rw [decide_eq_false (p := t 4 p ≠ 1) (by omega), Bool.and_false, if_neg (by decide)] at hp; exact hp)
          | (have e : t 6 p / 2 - s = 0 := by omega
             rw [e, ite_self] at hp; exact hp)
          | (rw [Bool.not_eq_false] at h17
             rw [h17, decide_eq_true (p := t 4 p ≠ 1) (by omega), if_pos (by decide)] at hp
             rw [pk_sub (by omega)]; exact hp)
      · refine j_iload dX12_fineBy_35 rfl ?_
        refine j_goto (tgt := 41) dX12_fineBy_37 (by decide) ?_
        refine j_iret rfl dX12_fineBy_41 ?_
        unfold fineO at hp
        first
          | (rw [h17, Bool.false_and, if_neg (by decide)] at hp; exact hp)
          | (rw [decide_eq_false (p := t 4 p ≠ 1) (by omega), Bool.and_false, if_neg (by decide)] at hp; exact hp)
          | (have e : t 6 p / 2 - s = 0 := by omega
             rw [e, ite_self] at hp; exact hp)
          | (rw [Bool.not_eq_false] at h17
             rw [h17, decide_eq_true (p := t 4 p ≠ 1) (by omega), if_pos (by decide)] at hp
             rw [pk_sub (by omega)]; exact hp)
theorem bitv : ∀ n, n < 64 → ∀ i, i < 6 → (nI n >>> (nI i &&& 31)) &&& nI 1 = nI (bN (n.testBit i)) := by decide +kernel
theorem bit_or : ∀ n, n < 256 → ∀ i, i < 8 → nI n ||| (nI 1 <<< (nI i &&& 31)) = nI (n ||| 2 ^ i) := by decide +kernel
theorem or_0 (n : Nat) : nI n ||| nI 0 = nI n := by rw [show nI 0 = (0 : Int32) from rfl, Int32.or_zero]
theorem m_bit {n i : Nat} (hn : n < 64) (hi : i < 6) (hp : post (some (.int (nI (bN (n.testBit i))))) mi ml mr dom) : CT G 1 0 0 yX13_bit cX13_bit 2 (some .boolean) [.int (nI n), .int (nI i)] mi ml mr dom post := by
  refine enter 0 (by decide) rfl rfl (fun X => ?_)
  refine j_iload_n dX13_bit_0 rfl rfl ?_
  refine j_iload_n dX13_bit_1 rfl rfl ?_
  refine j_ishr dX13_bit_2 ?_
  refine j_iconst (v := nI 1) dX13_bit_3 (by decide) ?_
  refine j_iand dX13_bit_4 ?_
  rw [bitv n hn i hi]
  refine j_iconst (v := nI 1) dX13_bit_5 (by decide) ?_
  refine j_icmp_ne (tgt := 13) dX13_bit_6 (by decide) (fun h6 => ?_) (fun h6 => ?_)
  all_goals rw [nI_eq (by unfold bN; split <;> decide) (by decide)] at h6
  · refine j_iconst (v := nI 0) dX13_bit_13 (by decide) ?_
    refine j_zret rfl (by decide) dX13_bit_14 ?_
    unfold bN at h6 hp
    cases hb : n.testBit i with
    | true => rw [hb] at hp; first | exact hp | (rw [hb] at h6; exact absurd rfl h6)
    | false => rw [hb] at hp; first | exact hp | (rw [hb] at h6; exact absurd h6 (by decide))
  · refine j_iconst (v := nI 1) dX13_bit_9 (by decide) ?_
    refine j_goto (tgt := 14) dX13_bit_10 (by decide) ?_
    refine j_zret rfl (by decide) dX13_bit_14 ?_
    unfold bN at h6 hp
    cases hb : n.testBit i with
    | true => rw [hb] at hp; first | exact hp | (rw [hb] at h6; exact absurd rfl h6)
    | false => rw [hb] at hp; first | exact hp | (rw [hb] at h6; exact absurd h6 (by decide))
theorem pop_lo : ∀ n, n < 64 → n ≠ 0 → nI n &&& (nI n - nI 1) = nI (n &&& (n - 1)) ∧ popc n = popc (n &&& (n - 1)) + 1 ∧ (n &&& (n - 1)) < n := by decide +kernel
theorem popc_6 : ∀ n, n < 64 → popc n ≤ 6 := by decide +kernel
theorem m_bits {n : Nat} (hn : n < 64) (hp : post (some (.int (nI (popc n)))) mi ml mr dom) : CT G 1 0 0 yX13_bits cX13_bits 3 (some .int) [.int (nI n)] mi ml mr dom post := by
  refine enter 2 (by decide) rfl rfl (fun X => ?_)
  refine j_iconst (v := nI 0) dX13_bits_0 (by decide) ?_
  refine j_istore_n (lv2 := [_, _, _]) dX13_bits_1 rfl (by decide) rfl rfl ?_
  refine j_iload_n dX13_bits_2 rfl rfl ?_
  refine j_istore_n (lv2 := [_, _, _]) dX13_bits_3 rfl (by decide) rfl rfl ?_
  skip
  have key : ∀ r, r < 64 → ∀ c, c + popc r = popc n → c ≤ 64 → J cX13_bits 3 yX13_bits.cls yX13_bits.name (some .int) 1 G X post 0 0 mi ml mr dom 4 [some (.int (nI n)), some (.int (nI c)), some (.int (nI r))] [] := by
    intro r
    induction r using Nat.strongRecOn with
    | _ r ih =>
      intro hr c hc hc6
      by_cases h0 : r = 0
      · subst h0
        refine j_iload_n dX13_bits_4 rfl rfl ?_
        refine j_if_eq (tgt := 20) dX13_bits_5 (by decide) (fun h5 => ?_) (fun h5 => absurd (by decide) h5)
        refine j_iload_n dX13_bits_20 rfl rfl ?_
        refine j_iret rfl dX13_bits_21 ?_
        rw [show popc 0 = 0 from rfl, Nat.add_zero] at hc; rw [hc]; exact hp
      · have hq := pop_lo r hr h0
        have hpr := popc_6 r hr
        refine j_iload_n dX13_bits_4 rfl rfl ?_
        refine j_if_eq (tgt := 20) dX13_bits_5 (by decide) (fun h5 => by exfalso; rw [show (0 : Int32) = nI 0 from rfl, nI_eq (by omega) (by decide)] at h5; omega) (fun h5 => ?_)
        refine j_iinc1 (lv2 := [_, _, _]) dX13_bits_8 rfl (by decide) rfl rfl ?_
        rw [nI_1]
        refine j_iload_n dX13_bits_11 rfl rfl ?_
        refine j_iload_n dX13_bits_12 rfl rfl ?_
        refine j_iconst (v := nI 1) dX13_bits_13 (by decide) ?_
        refine j_isub dX13_bits_14 ?_
        refine j_iand dX13_bits_15 ?_
        rw [hq.1]
        refine j_istore_n (lv2 := [_, _, _]) dX13_bits_16 rfl (by decide) rfl rfl ?_
        refine j_goto (tgt := 4) dX13_bits_17 (by decide) ?_
        exact ih _ hq.2.2 (by omega) (c + 1) (by omega) (by have := popc_6 n hn; omega)
  exact key n hn 0 (by omega) (by omega)
theorem m_less {a b : Nat} (ha : a < 2 ^ 31) (hb : b < 2 ^ 31) (hp : post (some (.int (nI (min a b)))) mi ml mr dom) : CT G 1 0 0 yX13_less cX13_less 2 (some .int) [.int (nI a), .int (nI b)] mi ml mr dom post := by
  refine enter 0 (by decide) rfl rfl (fun X => ?_)
  refine j_iload_n dX13_less_0 rfl rfl ?_
  refine j_iload_n dX13_less_1 rfl rfl ?_
  refine j_icmp_ge (tgt := 9) dX13_less_2 (by decide) (fun h2 => ?_) (fun h2 => ?_)
  all_goals rw [nI_leI (by omega) (by omega)] at h2
  · refine j_iload_n dX13_less_9 rfl rfl ?_
    refine j_iret rfl dX13_less_10 ?_
    first
      | (rw [Nat.min_eq_left (by omega)] at hp; exact hp)
      | (rw [Nat.min_eq_right (by omega)] at hp; exact hp)
  · refine j_iload_n dX13_less_5 rfl rfl ?_
    refine j_goto (tgt := 10) dX13_less_6 (by decide) ?_
    refine j_iret rfl dX13_less_10 ?_
    first
      | (rw [Nat.min_eq_left (by omega)] at hp; exact hp)
      | (rw [Nat.min_eq_right (by omega)] at hp; exact hp)
theorem m_inG {a b c : Nat} (h1 : b ≤ a) (h2 : a ≤ c) (hc : c < 2 ^ 31) (hp : post (some (.int 1)) mi ml mr dom) : CT G 1 0 0 yX13_in cX13_in 3 (some .boolean) [.int (nI a), .int (nI b), .int (nI c)] mi ml mr dom post := by
  refine enter 0 (by decide) rfl rfl (fun X => ?_)
  refine j_iload_n dX13_in_0 rfl rfl ?_
  refine j_iload_n dX13_in_1 rfl rfl ?_
  refine j_icmp_lt (tgt := 14) dX13_in_2 (by decide) (fun h2 => by exfalso; rw [nI_ltI (by omega) (by omega)] at h2; omega) (fun h2 => ?_)
  refine j_iload_n dX13_in_5 rfl rfl ?_
  refine j_iload_n dX13_in_6 rfl rfl ?_
  refine j_icmp_gt (tgt := 14) dX13_in_7 (by decide) (fun h7 => by exfalso; rw [nI_ltI (by omega) (by omega)] at h7; omega) (fun h7 => ?_)
  refine j_iconst (v := nI 1) dX13_in_10 (by decide) ?_
  refine j_goto (tgt := 15) dX13_in_11 (by decide) ?_
  refine j_zret rfl (by decide) dX13_in_15 ?_
  exact hp
theorem m_inB {x y z : Int32} (hb : x < y ∨ z < x) (hp : post (some (.int 0)) mi ml mr dom) : CT G 1 0 0 yX13_in cX13_in 3 (some .boolean) [.int x, .int y, .int z] mi ml mr dom post := by
  refine enter 0 (by decide) rfl rfl (fun X => ?_)
  refine j_iload_n dX13_in_0 rfl rfl ?_
  refine j_iload_n dX13_in_1 rfl rfl ?_
  refine j_icmp_lt (tgt := 14) dX13_in_2 (by decide) (fun h2 => ?_) (fun h2 => ?_)
  · refine j_iconst (v := nI 0) dX13_in_14 (by decide) ?_
    refine j_zret rfl (by decide) dX13_in_15 ?_
    exact hp
  · refine j_iload_n dX13_in_5 rfl rfl ?_
    refine j_iload_n dX13_in_6 rfl rfl ?_
    refine j_icmp_gt (tgt := 14) dX13_in_7 (by decide) (fun h7 => ?_) (fun h7 => ?_)
    · refine j_iconst (v := nI 0) dX13_in_14 (by decide) ?_
      refine j_zret rfl (by decide) dX13_in_15 ?_
      exact hp
    · exact (hb.elim h2 h7).elim
theorem bad_in {x : Int32} {n : Nat} (h0 : 0 < n) (hn : n < 2 ^ 31) (h : bad x n) : x < nI 0 ∨ nI (n - 1) < x := h.elim Or.inl (fun q => Or.inr (Int32.lt_of_lt_of_le (nI_lt (by omega) hn) q))
theorem m_refused {x : Int32} (hp : post (some (.int (-1))) (up (up mi 1000 1 x) 1000 2 (-1)) ml mr dom) : CT G 1 0 0 yX13_refused cX13_refused 2 (some .int) [.ref 1000, .int x] mi ml mr dom post := by
  refine enter 0 (by decide) rfl rfl (fun X => ?_)
  refine j_aload_n dX13_refused_0 rfl rfl ?_
  refine j_iload_n dX13_refused_1 rfl rfl ?_
  refine pI13_54 rfl dX13_refused_2 ?_
  refine j_aload_n dX13_refused_5 rfl rfl ?_
  refine j_iconst (v := -1) dX13_refused_6 (by decide) ?_
  refine pI13_9 rfl dX13_refused_7 ?_
  refine j_iconst (v := -1) dX13_refused_10 (by decide) ?_
  refine j_iret rfl dX13_refused_11 ?_
  exact hp
theorem m_fair {x : Int32} (hp : post (some (.int x)) (up (up mi 1000 1 0) 1000 2 (-1)) ml mr dom) : CT G 1 0 0 yX13_fair cX13_fair 2 (some .int) [.ref 1000, .int x] mi ml mr dom post := by
  refine enter 0 (by decide) rfl rfl (fun X => ?_)
  refine j_aload_n dX13_fair_0 rfl rfl ?_
  refine j_iconst (v := nI 0) dX13_fair_1 (by decide) ?_
  refine pI13_54 rfl dX13_fair_2 ?_
  refine j_aload_n dX13_fair_5 rfl rfl ?_
  refine j_iconst (v := -1) dX13_fair_6 (by decide) ?_
  refine pI13_9 rfl dX13_fair_7 ?_
  refine j_iload_n dX13_fair_10 rfl rfl ?_
  refine j_iret rfl dX13_fair_11 ?_
  exact hp
theorem m_lost {x : Int32} (hp : post (some (.int (-100))) (up (up mi 1000 1 x) 1000 2 (-1)) ml mr dom) : CT G 2 0 0 yX13_lost cX13_lost 2 (some .int) [.ref 1000, .int x] mi ml mr dom post := by
  refine enter 0 (by decide) rfl rfl (fun X => ?_)
  refine j_aload_n dX13_lost_0 rfl rfl ?_
  refine j_iload_n dX13_lost_1 rfl rfl ?_
  refine cV13_57 (d1 := 1) rfl dX13_lost_2 (by decide) (Nat.le_of_ble_eq_true rfl) ?_
  refine m_refused ?_
  refine j_pop dX13_lost_5 rfl ?_
  refine j_bipush (v := -100) dX13_lost_6 (by decide) ?_
  refine j_iret rfl dX13_lost_8 ?_
  exact hp
theorem m_denied {x : Int32} (hp : post (some (.int 0)) (up (up mi 1000 1 x) 1000 2 (-1)) ml mr dom) : CT G 2 0 0 yX13_denied cX13_denied 2 (some .boolean) [.ref 1000, .int x] mi ml mr dom post := by
  refine enter 0 (by decide) rfl rfl (fun X => ?_)
  refine j_aload_n dX13_denied_0 rfl rfl ?_
  refine j_iload_n dX13_denied_1 rfl rfl ?_
  refine cV13_57 (d1 := 1) rfl dX13_denied_2 (by decide) (Nat.le_of_ble_eq_true rfl) ?_
  refine m_refused ?_
  refine j_pop dX13_denied_5 rfl ?_
  refine j_iconst (v := nI 0) dX13_denied_6 (by decide) ?_
  refine j_zret rfl (by decide) dX13_denied_7 ?_
  exact hp
theorem m_granted (hp : post (some (.int 1)) (up (up mi 1000 1 0) 1000 2 (-1)) ml mr dom) : CT G 2 0 0 yX13_granted cX13_granted 1 (some .boolean) [.ref 1000] mi ml mr dom post := by
  refine enter 0 (by decide) rfl rfl (fun X => ?_)
  refine j_aload_n dX13_granted_0 rfl rfl ?_
  refine j_iconst (v := nI 0) dX13_granted_1 (by decide) ?_
  refine cV13_61 (d1 := 1) rfl dX13_granted_2 (by decide) (Nat.le_of_ble_eq_true rfl) ?_
  refine m_fair ?_
  refine j_pop dX13_granted_5 rfl ?_
  refine j_iconst (v := nI 1) dX13_granted_6 (by decide) ?_
  refine j_zret rfl (by decide) dX13_granted_7 ?_
  exact hp
theorem m_above {p s : Nat} (hM : MM M) (hY : XT mr M) (hg : GB t) (hW : WT t) (hR : RM mi M t) (h1 : p < t 0 5) (hs : s < 2 ^ 28) (hp : post (some (.int (nI (2 ^ over (t 6 p) s - 1)))) mi ml mr dom) : CT G 1 0 0 yX12_above cX12_above 5 (some .int) [.ref M, .int (nI p), .int (nI s)] mi ml mr dom post := by
  have w := hW.1
  have hge := hM.ge
  have hb := hW.2.2.2.1 p h1
  refine enter 2 (by decide) rfl rfl (fun X => ?_)
  refine j_iconst (v := nI 0) dX12_above_0 (by decide) ?_
  refine j_istore_n (lv2 := [_, _, _, _, _]) dX12_above_1 rfl (by decide) rfl rfl ?_
  refine j_iconst (v := nI 0) dX12_above_2 (by decide) ?_
  refine j_istore (lv2 := [_, _, _, _, _]) dX12_above_3 (by decide) rfl rfl ?_
  refine j_iload dX12_above_5 rfl ?_
  refine j_iconst (v := nI 3) dX12_above_7 (by decide) ?_
  refine j_icmp_ge (tgt := 44) dX12_above_8 (by decide) (fun h8 => absurd h8 (by decide)) (fun h8 => ?_)
  refine j_iload_n dX12_above_11 rfl rfl ?_
  refine j_aload_n dX12_above_12 rfl rfl ?_
  refine gR12_27 (kM0 hM) dX12_above_13 (xM6 hY) ?_
  refine j_iload_n dX12_above_16 rfl rfl ?_
  refine j_iald (kM6 hM) (inT (lM6 hM) (by show p < 6; omega) (by decide)) dX12_above_17 ?_
  rw [nI_clamp (by omega), rM6 hR (by show p < 6; omega)]
  refine j_bipush (v := nI 10) dX12_above_18 (by decide) ?_
  refine j_iload dX12_above_20 rfl ?_
  refine j_imul dX12_above_22 ?_
  rw [show nI 10 * nI 0 = nI 0 by decide]
  refine j_isub dX12_above_23 ?_
  rw [pk_sub (by have := hg 6 p; show 0 ≤ t 6 p; omega)]
  refine j_iload_n dX12_above_24 rfl rfl ?_
  refine j_icmp_le (tgt := 35) dX12_above_25 (by decide) (fun h25 => ?_) (fun h25 => ?_)
  all_goals rw [nI_leI (by have := hg 6 p; omega) (by omega)] at h25
  · refine j_iconst (v := nI 0) dX12_above_35 (by decide) ?_
    refine j_ior dX12_above_36 ?_
    rw [or_0]
    refine j_istore_n (lv2 := [_, _, _, _, _]) dX12_above_37 rfl (by decide) rfl rfl ?_
    refine j_iinc1 (lv2 := [_, _, _, _, _]) dX12_above_38 rfl (by decide) rfl rfl ?_
    rw [show nI 0 + 1 = nI 1 from rfl]
    refine j_goto (tgt := 5) dX12_above_41 (by decide) ?_
    refine j_iload dX12_above_5 rfl ?_
    refine j_iconst (v := nI 3) dX12_above_7 (by decide) ?_
    refine j_icmp_ge (tgt := 44) dX12_above_8 (by decide) (fun h8 => absurd h8 (by decide)) (fun h8 => ?_)
    refine j_iload_n dX12_above_11 rfl rfl ?_
    refine j_aload_n dX12_above_12 rfl rfl ?_
    refine gR12_27 (kM0 hM) dX12_above_13 (xM6 hY) ?_
    refine j_iload_n dX12_above_16 rfl rfl ?_
    refine j_iald (kM6 hM) (inT (lM6 hM) (by show p < 6; omega) (by decide)) dX12_above_17 ?_
    rw [nI_clamp (by omega), rM6 hR (by show p < 6; omega)]
    refine j_bipush (v := nI 10) dX12_above_18 (by decide) ?_
    refine j_iload dX12_above_20 rfl ?_
    refine j_imul dX12_above_22 ?_
    rw [show nI 10 * nI 1 = nI 10 by decide]
    refine j_isub dX12_above_23 ?_
    rw [pk_sub (by have := hg 6 p; show 10 ≤ t 6 p; omega)]
    refine j_iload_n dX12_above_24 rfl rfl ?_
    refine j_icmp_le (tgt := 35) dX12_above_25 (by decide) (fun h25 => ?_) (fun h25 => ?_)
    all_goals rw [nI_leI (by have := hg 6 p; omega) (by omega)] at h25
    · refine j_iconst (v := nI 0) dX12_above_35 (by decide) ?_
      refine j_ior dX12_above_36 ?_
      rw [or_0]
      refine j_istore_n (lv2 := [_, _, _, _, _]) dX12_above_37 rfl (by decide) rfl rfl ?_
      refine j_iinc1 (lv2 := [_, _, _, _, _]) dX12_above_38 rfl (by decide) rfl rfl ?_
      rw [show nI 1 + 1 = nI 2 from rfl]
      refine j_goto (tgt := 5) dX12_above_41 (by decide) ?_
      refine j_iload dX12_above_5 rfl ?_
      refine j_iconst (v := nI 3) dX12_above_7 (by decide) ?_
      refine j_icmp_ge (tgt := 44) dX12_above_8 (by decide) (fun h8 => absurd h8 (by decide)) (fun h8 => ?_)
      refine j_iload_n dX12_above_11 rfl rfl ?_
      refine j_aload_n dX12_above_12 rfl rfl ?_
      refine gR12_27 (kM0 hM) dX12_above_13 (xM6 hY) ?_
      refine j_iload_n dX12_above_16 rfl rfl ?_
      refine j_iald (kM6 hM) (inT (lM6 hM) (by show p < 6; omega) (by decide)) dX12_above_17 ?_
      rw [nI_clamp (by omega), rM6 hR (by show p < 6; omega)]
      refine j_bipush (v := nI 10) dX12_above_18 (by decide) ?_
      refine j_iload dX12_above_20 rfl ?_
      refine j_imul dX12_above_22 ?_
      rw [show nI 10 * nI 2 = nI 20 by decide]
      refine j_isub dX12_above_23 ?_
      rw [pk_sub (by have := hg 6 p; show 20 ≤ t 6 p; omega)]
      refine j_iload_n dX12_above_24 rfl rfl ?_
      refine j_icmp_le (tgt := 35) dX12_above_25 (by decide) (fun h25 => ?_) (fun h25 => ?_)
      all_goals rw [nI_leI (by have := hg 6 p; omega) (by omega)] at h25
      · refine j_iconst (v := nI 0) dX12_above_35 (by decide) ?_
        refine j_ior dX12_above_36 ?_
        rw [or_0]
        refine j_istore_n (lv2 := [_, _, _, _, _]) dX12_above_37 rfl (by decide) rfl rfl ?_
        refine j_iinc1 (lv2 := [_, _, _, _, _]) dX12_above_38 rfl (by decide) rfl rfl ?_
        rw [show nI 2 + 1 = nI 3 from rfl]
        refine j_goto (tgt := 5) dX12_above_41 (by decide) ?_
        refine j_iload dX12_above_5 rfl ?_
        refine j_iconst (v := nI 3) dX12_above_7 (by decide) ?_
        refine j_icmp_ge (tgt := 44) dX12_above_8 (by decide) (fun h8 => ?_) (fun h8 => absurd (by decide) h8)
        refine j_iload_n dX12_above_44 rfl rfl ?_
        refine j_iret rfl dX12_above_45 ?_
        first
          | (exfalso; omega)
          | (have ho : over (t 6 p) s = 0 := by unfold over; rw [if_neg (by omega), if_neg (by omega), if_neg (by omega)]
             rw [ho] at hp
             have hz : ∀ z, z = nI (2 ^ 0 - 1) → post (some (.int z)) mi ml mr dom := fun z q => q ▸ hp
             exact hz _ (by decide))
          | (have ho : over (t 6 p) s = 1 := by unfold over; rw [if_pos (by omega), if_neg (by omega), if_neg (by omega)]
             rw [ho] at hp
             have hz : ∀ z, z = nI (2 ^ 1 - 1) → post (some (.int z)) mi ml mr dom := fun z q => q ▸ hp
             exact hz _ (by decide))
          | (have ho : over (t 6 p) s = 2 := by unfold over; rw [if_pos (by omega), if_pos (by omega), if_neg (by omega)]
             rw [ho] at hp
             have hz : ∀ z, z = nI (2 ^ 2 - 1) → post (some (.int z)) mi ml mr dom := fun z q => q ▸ hp
             exact hz _ (by decide))
          | (have ho : over (t 6 p) s = 3 := by unfold over; rw [if_pos (by omega), if_pos (by omega), if_pos (by omega)]
             rw [ho] at hp
             have hz : ∀ z, z = nI (2 ^ 3 - 1) → post (some (.int z)) mi ml mr dom := fun z q => q ▸ hp
             exact hz _ (by decide))
      · refine j_iconst (v := nI 1) dX12_above_28 (by decide) ?_
        refine j_iload dX12_above_29 rfl ?_
        refine j_ishl dX12_above_31 ?_
        refine j_goto (tgt := 36) dX12_above_32 (by decide) ?_
        refine j_ior dX12_above_36 ?_
        rw [show nI 0 ||| (nI 1 <<< (nI 2 &&& 31)) = nI 4 by decide]
        refine j_istore_n (lv2 := [_, _, _, _, _]) dX12_above_37 rfl (by decide) rfl rfl ?_
        refine j_iinc1 (lv2 := [_, _, _, _, _]) dX12_above_38 rfl (by decide) rfl rfl ?_
        rw [show nI 2 + 1 = nI 3 from rfl]
        refine j_goto (tgt := 5) dX12_above_41 (by decide) ?_
        refine j_iload dX12_above_5 rfl ?_
        refine j_iconst (v := nI 3) dX12_above_7 (by decide) ?_
        refine j_icmp_ge (tgt := 44) dX12_above_8 (by decide) (fun h8 => ?_) (fun h8 => absurd (by decide) h8)
        refine j_iload_n dX12_above_44 rfl rfl ?_
        refine j_iret rfl dX12_above_45 ?_
        first
          | (exfalso; omega)
          | (have ho : over (t 6 p) s = 0 := by unfold over; rw [if_neg (by omega), if_neg (by omega), if_neg (by omega)]
             rw [ho] at hp
             have hz : ∀ z, z = nI (2 ^ 0 - 1) → post (some (.int z)) mi ml mr dom := fun z q => q ▸ hp
             exact hz _ (by decide))
          | (have ho : over (t 6 p) s = 1 := by unfold over; rw [if_pos (by omega), if_neg (by omega), if_neg (by omega)]
             rw [ho] at hp
             have hz : ∀ z, z = nI (2 ^ 1 - 1) → post (some (.int z)) mi ml mr dom := fun z q => q ▸ hp
             exact hz _ (by decide))
          | (have ho : over (t 6 p) s = 2 := by unfold over; rw [if_pos (by omega), if_pos (by omega), if_neg (by omega)]
             rw [ho] at hp
             have hz : ∀ z, z = nI (2 ^ 2 - 1) → post (some (.int z)) mi ml mr dom := fun z q => q ▸ hp
             exact hz _ (by decide))
          | (have ho : over (t 6 p) s = 3 := by unfold over; rw [if_pos (by omega), if_pos (by omega), if_pos (by omega)]
             rw [ho] at hp
             have hz : ∀ z, z = nI (2 ^ 3 - 1) → post (some (.int z)) mi ml mr dom := fun z q => q ▸ hp
             exact hz _ (by decide))
    · refine j_iconst (v := nI 1) dX12_above_28 (by decide) ?_
      refine j_iload dX12_above_29 rfl ?_
      refine j_ishl dX12_above_31 ?_
      refine j_goto (tgt := 36) dX12_above_32 (by decide) ?_
      refine j_ior dX12_above_36 ?_
      rw [show nI 0 ||| (nI 1 <<< (nI 1 &&& 31)) = nI 2 by decide]
      refine j_istore_n (lv2 := [_, _, _, _, _]) dX12_above_37 rfl (by decide) rfl rfl ?_
      refine j_iinc1 (lv2 := [_, _, _, _, _]) dX12_above_38 rfl (by decide) rfl rfl ?_
      rw [show nI 1 + 1 = nI 2 from rfl]
      refine j_goto (tgt := 5) dX12_above_41 (by decide) ?_
      refine j_iload dX12_above_5 rfl ?_
      refine j_iconst (v := nI 3) dX12_above_7 (by decide) ?_
      refine j_icmp_ge (tgt := 44) dX12_above_8 (by decide) (fun h8 => absurd h8 (by decide)) (fun h8 => ?_)
      refine j_iload_n dX12_above_11 rfl rfl ?_
      refine j_aload_n dX12_above_12 rfl rfl ?_
      refine gR12_27 (kM0 hM) dX12_above_13 (xM6 hY) ?_
      refine j_iload_n dX12_above_16 rfl rfl ?_
      refine j_iald (kM6 hM) (inT (lM6 hM) (by show p < 6; omega) (by decide)) dX12_above_17 ?_
      rw [nI_clamp (by omega), rM6 hR (by show p < 6; omega)]
      refine j_bipush (v := nI 10) dX12_above_18 (by decide) ?_
      refine j_iload dX12_above_20 rfl ?_
      refine j_imul dX12_above_22 ?_
      rw [show nI 10 * nI 2 = nI 20 by decide]
      refine j_isub dX12_above_23 ?_
      rw [pk_sub (by have := hg 6 p; show 20 ≤ t 6 p; omega)]
      refine j_iload_n dX12_above_24 rfl rfl ?_
      refine j_icmp_le (tgt := 35) dX12_above_25 (by decide) (fun h25 => ?_) (fun h25 => ?_)
      all_goals rw [nI_leI (by have := hg 6 p; omega) (by omega)] at h25
      · refine j_iconst (v := nI 0) dX12_above_35 (by decide) ?_
        refine j_ior dX12_above_36 ?_
        rw [or_0]
        refine j_istore_n (lv2 := [_, _, _, _, _]) dX12_above_37 rfl (by decide) rfl rfl ?_
        refine j_iinc1 (lv2 := [_, _, _, _, _]) dX12_above_38 rfl (by decide) rfl rfl ?_
        rw [show nI 2 + 1 = nI 3 from rfl]
        refine j_goto (tgt := 5) dX12_above_41 (by decide) ?_
        refine j_iload dX12_above_5 rfl ?_
        refine j_iconst (v := nI 3) dX12_above_7 (by decide) ?_
        refine j_icmp_ge (tgt := 44) dX12_above_8 (by decide) (fun h8 => ?_) (fun h8 => absurd (by decide) h8)
        refine j_iload_n dX12_above_44 rfl rfl ?_
        refine j_iret rfl dX12_above_45 ?_
        first
          | (exfalso; omega)
          | (have ho : over (t 6 p) s = 0 := by unfold over; rw [if_neg (by omega), if_neg (by omega), if_neg (by omega)]
             rw [ho] at hp
             have hz : ∀ z, z = nI (2 ^ 0 - 1) → post (some (.int z)) mi ml mr dom := fun z q => q ▸ hp
             exact hz _ (by decide))
          | (have ho : over (t 6 p) s = 1 := by unfold over; rw [if_pos (by omega), if_neg (by omega), if_neg (by omega)]
             rw [ho] at hp
             have hz : ∀ z, z = nI (2 ^ 1 - 1) → post (some (.int z)) mi ml mr dom := fun z q => q ▸ hp
             exact hz _ (by decide))
          | (have ho : over (t 6 p) s = 2 := by unfold over; rw [if_pos (by omega), if_pos (by omega), if_neg (by omega)]
             rw [ho] at hp
             have hz : ∀ z, z = nI (2 ^ 2 - 1) → post (some (.int z)) mi ml mr dom := fun z q => q ▸ hp
             exact hz _ (by decide))
          | (have ho : over (t 6 p) s = 3 := by unfold over; rw [if_pos (by omega), if_pos (by omega), if_pos (by omega)]
             rw [ho] at hp
             have hz : ∀ z, z = nI (2 ^ 3 - 1) → post (some (.int z)) mi ml mr dom := fun z q => q ▸ hp
             exact hz _ (by decide))
      · refine j_iconst (v := nI 1) dX12_above_28 (by decide) ?_
        refine j_iload dX12_above_29 rfl ?_
        refine j_ishl dX12_above_31 ?_
        refine j_goto (tgt := 36) dX12_above_32 (by decide) ?_
        refine j_ior dX12_above_36 ?_
        rw [show nI 2 ||| (nI 1 <<< (nI 2 &&& 31)) = nI 6 by decide]
        refine j_istore_n (lv2 := [_, _, _, _, _]) dX12_above_37 rfl (by decide) rfl rfl ?_
        refine j_iinc1 (lv2 := [_, _, _, _, _]) dX12_above_38 rfl (by decide) rfl rfl ?_
        rw [show nI 2 + 1 = nI 3 from rfl]
        refine j_goto (tgt := 5) dX12_above_41 (by decide) ?_
        refine j_iload dX12_above_5 rfl ?_
        refine j_iconst (v := nI 3) dX12_above_7 (by decide) ?_
        refine j_icmp_ge (tgt := 44) dX12_above_8 (by decide) (fun h8 => ?_) (fun h8 => absurd (by decide) h8)
        refine j_iload_n dX12_above_44 rfl rfl ?_
        refine j_iret rfl dX12_above_45 ?_
        first
          | (exfalso; omega)
          | (have ho : over (t 6 p) s = 0 := by unfold over; rw [if_neg (by omega), if_neg (by omega), if_neg (by omega)]
             rw [ho] at hp
             have hz : ∀ z, z = nI (2 ^ 0 - 1) → post (some (.int z)) mi ml mr dom := fun z q => q ▸ hp
             exact hz _ (by decide))
          | (have ho : over (t 6 p) s = 1 := by unfold over; rw [if_pos (by omega), if_neg (by omega), if_neg (by omega)]
             rw [ho] at hp
             have hz : ∀ z, z = nI (2 ^ 1 - 1) → post (some (.int z)) mi ml mr dom := fun z q => q ▸ hp
             exact hz _ (by decide))
          | (have ho : over (t 6 p) s = 2 := by unfold over; rw [if_pos (by omega), if_pos (by omega), if_neg (by omega)]
             rw [ho] at hp
             have hz : ∀ z, z = nI (2 ^ 2 - 1) → post (some (.int z)) mi ml mr dom := fun z q => q ▸ hp
             exact hz _ (by decide))
          | (have ho : over (t 6 p) s = 3 := by unfold over; rw [if_pos (by omega), if_pos (by omega), if_pos (by omega)]
             rw [ho] at hp
             have hz : ∀ z, z = nI (2 ^ 3 - 1) → post (some (.int z)) mi ml mr dom := fun z q => q ▸ hp
             exact hz _ (by decide))
  · refine j_iconst (v := nI 1) dX12_above_28 (by decide) ?_
    refine j_iload dX12_above_29 rfl ?_
    refine j_ishl dX12_above_31 ?_
    refine j_goto (tgt := 36) dX12_above_32 (by decide) ?_
    refine j_ior dX12_above_36 ?_
    rw [show nI 0 ||| (nI 1 <<< (nI 0 &&& 31)) = nI 1 by decide]
    refine j_istore_n (lv2 := [_, _, _, _, _]) dX12_above_37 rfl (by decide) rfl rfl ?_
    refine j_iinc1 (lv2 := [_, _, _, _, _]) dX12_above_38 rfl (by decide) rfl rfl ?_
    rw [show nI 0 + 1 = nI 1 from rfl]
    refine j_goto (tgt := 5) dX12_above_41 (by decide) ?_
    refine j_iload dX12_above_5 rfl ?_
    refine j_iconst (v := nI 3) dX12_above_7 (by decide) ?_
    refine j_icmp_ge (tgt := 44) dX12_above_8 (by decide) (fun h8 => absurd h8 (by decide)) (fun h8 => ?_)
    refine j_iload_n dX12_above_11 rfl rfl ?_
    refine j_aload_n dX12_above_12 rfl rfl ?_
    refine gR12_27 (kM0 hM) dX12_above_13 (xM6 hY) ?_
    refine j_iload_n dX12_above_16 rfl rfl ?_
    refine j_iald (kM6 hM) (inT (lM6 hM) (by show p < 6; omega) (by decide)) dX12_above_17 ?_
    rw [nI_clamp (by omega), rM6 hR (by show p < 6; omega)]
    refine j_bipush (v := nI 10) dX12_above_18 (by decide) ?_
    refine j_iload dX12_above_20 rfl ?_
    refine j_imul dX12_above_22 ?_
    rw [show nI 10 * nI 1 = nI 10 by decide]
    refine j_isub dX12_above_23 ?_
    rw [pk_sub (by have := hg 6 p; show 10 ≤ t 6 p; omega)]
    refine j_iload_n dX12_above_24 rfl rfl ?_
    refine j_icmp_le (tgt := 35) dX12_above_25 (by decide) (fun h25 => ?_) (fun h25 => ?_)
    all_goals rw [nI_leI (by have := hg 6 p; omega) (by omega)] at h25
    · refine j_iconst (v := nI 0) dX12_above_35 (by decide) ?_
      refine j_ior dX12_above_36 ?_
      rw [or_0]
      refine j_istore_n (lv2 := [_, _, _, _, _]) dX12_above_37 rfl (by decide) rfl rfl ?_
      refine j_iinc1 (lv2 := [_, _, _, _, _]) dX12_above_38 rfl (by decide) rfl rfl ?_
      rw [show nI 1 + 1 = nI 2 from rfl]
      refine j_goto (tgt := 5) dX12_above_41 (by decide) ?_
      refine j_iload dX12_above_5 rfl ?_
      refine j_iconst (v := nI 3) dX12_above_7 (by decide) ?_
      refine j_icmp_ge (tgt := 44) dX12_above_8 (by decide) (fun h8 => absurd h8 (by decide)) (fun h8 => ?_)
      refine j_iload_n dX12_above_11 rfl rfl ?_
      refine j_aload_n dX12_above_12 rfl rfl ?_
      refine gR12_27 (kM0 hM) dX12_above_13 (xM6 hY) ?_
      refine j_iload_n dX12_above_16 rfl rfl ?_
      refine j_iald (kM6 hM) (inT (lM6 hM) (by show p < 6; omega) (by decide)) dX12_above_17 ?_
      rw [nI_clamp (by omega), rM6 hR (by show p < 6; omega)]
      refine j_bipush (v := nI 10) dX12_above_18 (by decide) ?_
      refine j_iload dX12_above_20 rfl ?_
      refine j_imul dX12_above_22 ?_
      rw [show nI 10 * nI 2 = nI 20 by decide]
      refine j_isub dX12_above_23 ?_
      rw [pk_sub (by have := hg 6 p; show 20 ≤ t 6 p; omega)]
      refine j_iload_n dX12_above_24 rfl rfl ?_
      refine j_icmp_le (tgt := 35) dX12_above_25 (by decide) (fun h25 => ?_) (fun h25 => ?_)
      all_goals rw [nI_leI (by have := hg 6 p; omega) (by omega)] at h25
      · refine j_iconst (v := nI 0) dX12_above_35 (by decide) ?_
        refine j_ior dX12_above_36 ?_
        rw [or_0]
        refine j_istore_n (lv2 := [_, _, _, _, _]) dX12_above_37 rfl (by decide) rfl rfl ?_
        refine j_iinc1 (lv2 := [_, _, _, _, _]) dX12_above_38 rfl (by decide) rfl rfl ?_
        rw [show nI 2 + 1 = nI 3 from rfl]
        refine j_goto (tgt := 5) dX12_above_41 (by decide) ?_
        refine j_iload dX12_above_5 rfl ?_
        refine j_iconst (v := nI 3) dX12_above_7 (by decide) ?_
        refine j_icmp_ge (tgt := 44) dX12_above_8 (by decide) (fun h8 => ?_) (fun h8 => absurd (by decide) h8)
        refine j_iload_n dX12_above_44 rfl rfl ?_
        refine j_iret rfl dX12_above_45 ?_
        first
          | (exfalso; omega)
          | (have ho : over (t 6 p) s = 0 := by unfold over; rw [if_neg (by omega), if_neg (by omega), if_neg (by omega)]
             rw [ho] at hp
             have hz : ∀ z, z = nI (2 ^ 0 - 1) → post (some (.int z)) mi ml mr dom := fun z q => q ▸ hp
             exact hz _ (by decide))
          | (have ho : over (t 6 p) s = 1 := by unfold over; rw [if_pos (by omega), if_neg (by omega), if_neg (by omega)]
             rw [ho] at hp
             have hz : ∀ z, z = nI (2 ^ 1 - 1) → post (some (.int z)) mi ml mr dom := fun z q => q ▸ hp
             exact hz _ (by decide))
          | (have ho : over (t 6 p) s = 2 := by unfold over; rw [if_pos (by omega), if_pos (by omega), if_neg (by omega)]
             rw [ho] at hp
             have hz : ∀ z, z = nI (2 ^ 2 - 1) → post (some (.int z)) mi ml mr dom := fun z q => q ▸ hp
             exact hz _ (by decide))
          | (have ho : over (t 6 p) s = 3 := by unfold over; rw [if_pos (by omega), if_pos (by omega), if_pos (by omega)]
             rw [ho] at hp
             have hz : ∀ z, z = nI (2 ^ 3 - 1) → post (some (.int z)) mi ml mr dom := fun z q => q ▸ hp
             exact hz _ (by decide))
      · refine j_iconst (v := nI 1) dX12_above_28 (by decide) ?_
        refine j_iload dX12_above_29 rfl ?_
        refine j_ishl dX12_above_31 ?_
        refine j_goto (tgt := 36) dX12_above_32 (by decide) ?_
        refine j_ior dX12_above_36 ?_
        rw [show nI 1 ||| (nI 1 <<< (nI 2 &&& 31)) = nI 5 by decide]
        refine j_istore_n (lv2 := [_, _, _, _, _]) dX12_above_37 rfl (by decide) rfl rfl ?_
        refine j_iinc1 (lv2 := [_, _, _, _, _]) dX12_above_38 rfl (by decide) rfl rfl ?_
        rw [show nI 2 + 1 = nI 3 from rfl]
        refine j_goto (tgt := 5) dX12_above_41 (by decide) ?_
        refine j_iload dX12_above_5 rfl ?_
        refine j_iconst (v := nI 3) dX12_above_7 (by decide) ?_
        refine j_icmp_ge (tgt := 44) dX12_above_8 (by decide) (fun h8 => ?_) (fun h8 => absurd (by decide) h8)
        refine j_iload_n dX12_above_44 rfl rfl ?_
        refine j_iret rfl dX12_above_45 ?_
        first
          | (exfalso; omega)
          | (have ho : over (t 6 p) s = 0 := by unfold over; rw [if_neg (by omega), if_neg (by omega), if_neg (by omega)]
             rw [ho] at hp
             have hz : ∀ z, z = nI (2 ^ 0 - 1) → post (some (.int z)) mi ml mr dom := fun z q => q ▸ hp
             exact hz _ (by decide))
          | (have ho : over (t 6 p) s = 1 := by unfold over; rw [if_pos (by omega), if_neg (by omega), if_neg (by omega)]
             rw [ho] at hp
             have hz : ∀ z, z = nI (2 ^ 1 - 1) → post (some (.int z)) mi ml mr dom := fun z q => q ▸ hp
             exact hz _ (by decide))
          | (have ho : over (t 6 p) s = 2 := by unfold over; rw [if_pos (by omega), if_pos (by omega), if_neg (by omega)]
             rw [ho] at hp
             have hz : ∀ z, z = nI (2 ^ 2 - 1) → post (some (.int z)) mi ml mr dom := fun z q => q ▸ hp
             exact hz _ (by decide))
          | (have ho : over (t 6 p) s = 3 := by unfold over; rw [if_pos (by omega), if_pos (by omega), if_pos (by omega)]
             rw [ho] at hp
             have hz : ∀ z, z = nI (2 ^ 3 - 1) → post (some (.int z)) mi ml mr dom := fun z q => q ▸ hp
             exact hz _ (by decide))
    · refine j_iconst (v := nI 1) dX12_above_28 (by decide) ?_
      refine j_iload dX12_above_29 rfl ?_
      refine j_ishl dX12_above_31 ?_
      refine j_goto (tgt := 36) dX12_above_32 (by decide) ?_
      refine j_ior dX12_above_36 ?_
      rw [show nI 1 ||| (nI 1 <<< (nI 1 &&& 31)) = nI 3 by decide]
      refine j_istore_n (lv2 := [_, _, _, _, _]) dX12_above_37 rfl (by decide) rfl rfl ?_
      refine j_iinc1 (lv2 := [_, _, _, _, _]) dX12_above_38 rfl (by decide) rfl rfl ?_
      rw [show nI 1 + 1 = nI 2 from rfl]
      refine j_goto (tgt := 5) dX12_above_41 (by decide) ?_
      refine j_iload dX12_above_5 rfl ?_
      refine j_iconst (v := nI 3) dX12_above_7 (by decide) ?_
      refine j_icmp_ge (tgt := 44) dX12_above_8 (by decide) (fun h8 => absurd h8 (by decide)) (fun h8 => ?_)
      refine j_iload_n dX12_above_11 rfl rfl ?_
      refine j_aload_n dX12_above_12 rfl rfl ?_
      refine gR12_27 (kM0 hM) dX12_above_13 (xM6 hY) ?_
      refine j_iload_n dX12_above_16 rfl rfl ?_
      refine j_iald (kM6 hM) (inT (lM6 hM) (by show p < 6; omega) (by decide)) dX12_above_17 ?_
      rw [nI_clamp (by omega), rM6 hR (by show p < 6; omega)]
      refine j_bipush (v := nI 10) dX12_above_18 (by decide) ?_
      refine j_iload dX12_above_20 rfl ?_
      refine j_imul dX12_above_22 ?_
      rw [show nI 10 * nI 2 = nI 20 by decide]
      refine j_isub dX12_above_23 ?_
      rw [pk_sub (by have := hg 6 p; show 20 ≤ t 6 p; omega)]
      refine j_iload_n dX12_above_24 rfl rfl ?_
      refine j_icmp_le (tgt := 35) dX12_above_25 (by decide) (fun h25 => ?_) (fun h25 => ?_)
      all_goals rw [nI_leI (by have := hg 6 p; omega) (by omega)] at h25
      · refine j_iconst (v := nI 0) dX12_above_35 (by decide) ?_
        refine j_ior dX12_above_36 ?_
        rw [or_0]
        refine j_istore_n (lv2 := [_, _, _, _, _]) dX12_above_37 rfl (by decide) rfl rfl ?_
        refine j_iinc1 (lv2 := [_, _, _, _, _]) dX12_above_38 rfl (by decide) rfl rfl ?_
        rw [show nI 2 + 1 = nI 3 from rfl]
        refine j_goto (tgt := 5) dX12_above_41 (by decide) ?_
        refine j_iload dX12_above_5 rfl ?_
        refine j_iconst (v := nI 3) dX12_above_7 (by decide) ?_
        refine j_icmp_ge (tgt := 44) dX12_above_8 (by decide) (fun h8 => ?_) (fun h8 => absurd (by decide) h8)
        refine j_iload_n dX12_above_44 rfl rfl ?_
        refine j_iret rfl dX12_above_45 ?_
        first
          | (exfalso; omega)
          | (have ho : over (t 6 p) s = 0 := by unfold over; rw [if_neg (by omega), if_neg (by omega), if_neg (by omega)]
             rw [ho] at hp
             have hz : ∀ z, z = nI (2 ^ 0 - 1) → post (some (.int z)) mi ml mr dom := fun z q => q ▸ hp
             exact hz _ (by decide))
          | (have ho : over (t 6 p) s = 1 := by unfold over; rw [if_pos (by omega), if_neg (by omega), if_neg (by omega)]
             rw [ho] at hp
             have hz : ∀ z, z = nI (2 ^ 1 - 1) → post (some (.int z)) mi ml mr dom := fun z q => q ▸ hp
             exact hz _ (by decide))
          | (have ho : over (t 6 p) s = 2 := by unfold over; rw [if_pos (by omega), if_pos (by omega), if_neg (by omega)]
             rw [ho] at hp
             have hz : ∀ z, z = nI (2 ^ 2 - 1) → post (some (.int z)) mi ml mr dom := fun z q => q ▸ hp
             exact hz _ (by decide))
          | (have ho : over (t 6 p) s = 3 := by unfold over; rw [if_pos (by omega), if_pos (by omega), if_pos (by omega)]
             rw [ho] at hp
             have hz : ∀ z, z = nI (2 ^ 3 - 1) → post (some (.int z)) mi ml mr dom := fun z q => q ▸ hp
             exact hz _ (by decide))
      · refine j_iconst (v := nI 1) dX12_above_28 (by decide) ?_
        refine j_iload dX12_above_29 rfl ?_
        refine j_ishl dX12_above_31 ?_
        refine j_goto (tgt := 36) dX12_above_32 (by decide) ?_
        refine j_ior dX12_above_36 ?_
        rw [show nI 3 ||| (nI 1 <<< (nI 2 &&& 31)) = nI 7 by decide]
        refine j_istore_n (lv2 := [_, _, _, _, _]) dX12_above_37 rfl (by decide) rfl rfl ?_
        refine j_iinc1 (lv2 := [_, _, _, _, _]) dX12_above_38 rfl (by decide) rfl rfl ?_
        rw [show nI 2 + 1 = nI 3 from rfl]
        refine j_goto (tgt := 5) dX12_above_41 (by decide) ?_
        refine j_iload dX12_above_5 rfl ?_
        refine j_iconst (v := nI 3) dX12_above_7 (by decide) ?_
        refine j_icmp_ge (tgt := 44) dX12_above_8 (by decide) (fun h8 => ?_) (fun h8 => absurd (by decide) h8)
        refine j_iload_n dX12_above_44 rfl rfl ?_
        refine j_iret rfl dX12_above_45 ?_
        first
          | (exfalso; omega)
          | (have ho : over (t 6 p) s = 0 := by unfold over; rw [if_neg (by omega), if_neg (by omega), if_neg (by omega)]
             rw [ho] at hp
             have hz : ∀ z, z = nI (2 ^ 0 - 1) → post (some (.int z)) mi ml mr dom := fun z q => q ▸ hp
             exact hz _ (by decide))
          | (have ho : over (t 6 p) s = 1 := by unfold over; rw [if_pos (by omega), if_neg (by omega), if_neg (by omega)]
             rw [ho] at hp
             have hz : ∀ z, z = nI (2 ^ 1 - 1) → post (some (.int z)) mi ml mr dom := fun z q => q ▸ hp
             exact hz _ (by decide))
          | (have ho : over (t 6 p) s = 2 := by unfold over; rw [if_pos (by omega), if_pos (by omega), if_neg (by omega)]
             rw [ho] at hp
             have hz : ∀ z, z = nI (2 ^ 2 - 1) → post (some (.int z)) mi ml mr dom := fun z q => q ▸ hp
             exact hz _ (by decide))
          | (have ho : over (t 6 p) s = 3 := by unfold over; rw [if_pos (by omega), if_pos (by omega), if_pos (by omega)]
             rw [ho] at hp
             have hz : ∀ z, z = nI (2 ^ 3 - 1) → post (some (.int z)) mi ml mr dom := fun z q => q ▸ hp
             exact hz _ (by decide))
theorem over8 (h s : Nat) : 2 ^ over h s - 1 ≤ 7 := by have := Nat.pow_le_pow_right (show 0 < 2 by decide) (over_le h s); omega
theorem m_seen {p h x : Nat} (hM : MM M) (hY : XT mr M) (hg : GB t) (hW : WT t) (hR : RM mi M t) (h1 : p < t 0 5) (h2 : h < t 0 3) (hx : x < 2 ^ 31) (hp : post (some (.int (nI (shw (t 4 p) (t 6 p) (t 1 h) (isD t x))))) mi ml mr dom) : CT G 2 0 0 yX12_seen cX12_seen 4 (some .int) [.ref M, .int (nI p), .int (nI h), .int (nI x)] mi ml mr dom post := by
  have w := hW.1
  have hge := hM.ge
  refine enter 0 (by decide) rfl rfl (fun X => ?_)
  refine j_aload_n dX12_seen_0 rfl rfl ?_
  refine j_iload_n dX12_seen_1 rfl rfl ?_
  refine cV12_83 (d1 := 1) (kM0 hM) dX12_seen_2 (by decide) (Nat.le_of_ble_eq_true rfl) ?_
  refine m_isDay hM hY hg hW hR (by omega) ?_
  refine j_if_eq (tgt := 20) dX12_seen_5 (by decide) (fun h5 => ?_) (fun h5 => ?_)
  all_goals rw [bN_eq0] at h5
  · refine j_aload_n dX12_seen_20 rfl rfl ?_
    refine gR12_21 (kM0 hM) dX12_seen_21 (xM4 hY) ?_
    refine j_iload_n dX12_seen_24 rfl rfl ?_
    refine j_iald (kM4 hM) (inT (lM4 hM) (by show p < 6; omega) (by decide)) dX12_seen_25 ?_
    rw [nI_clamp (by omega), rM4 hR (by show p < 6; omega)]
    refine j_iconst (v := nI 2) dX12_seen_26 (by decide) ?_
    refine j_icmp_ne (tgt := 35) dX12_seen_27 (by decide) (fun h27 => ?_) (fun h27 => ?_)
    all_goals rw [nI_eq (by have := hg 4 p; omega) (by omega)] at h27
    · refine j_bipush (v := nI 31) dX12_seen_35 (by decide) ?_
      refine j_iret rfl dX12_seen_37 ?_
      unfold shw at hp
      first
        | (rw [h5, if_neg (by decide), if_pos h27] at hp; exact hp)
        | (rw [h5, if_neg (by decide), if_neg h27] at hp; exact hp)
        | (rw [Bool.not_eq_false] at h5; rw [h5, if_pos rfl] at hp; exact hp)
    · refine j_bipush (v := nI 7) dX12_seen_30 (by decide) ?_
      refine j_goto (tgt := 37) dX12_seen_32 (by decide) ?_
      refine j_iret rfl dX12_seen_37 ?_
      unfold shw at hp
      first
        | (rw [h5, if_neg (by decide), if_pos h27] at hp; exact hp)
        | (rw [h5, if_neg (by decide), if_neg h27] at hp; exact hp)
        | (rw [Bool.not_eq_false] at h5; rw [h5, if_pos rfl] at hp; exact hp)
  · refine j_aload_n dX12_seen_8 rfl rfl ?_
    refine j_iload_n dX12_seen_9 rfl rfl ?_
    refine j_aload_n dX12_seen_10 rfl rfl ?_
    refine gR12_9 (kM0 hM) dX12_seen_11 (xM1 hY) ?_
    refine j_iload_n dX12_seen_14 rfl rfl ?_
    refine j_iald (kM1 hM) (inT (lM1 hM) (by show h < 6; omega) (by decide)) dX12_seen_15 ?_
    rw [nI_clamp (by omega), rM1 hR (by show h < 6; omega)]
    refine cV12_87 (d1 := 1) (kM0 hM) dX12_seen_16 (by decide) (Nat.le_of_ble_eq_true rfl) ?_
    refine m_above hM hY hg hW hR (by omega) (by have := hg 1 h; omega) ?_
    refine j_iret rfl dX12_seen_19 ?_
    unfold shw at hp
    first
      | (rw [h5, if_neg (by decide), if_pos h27] at hp; exact hp)
      | (rw [h5, if_neg (by decide), if_neg h27] at hp; exact hp)
      | (rw [Bool.not_eq_false] at h5; rw [h5, if_pos rfl] at hp; exact hp)
theorem m_isTaken {p q h x : Nat} (hM : MM M) (hY : XT mr M) (hg : GB t) (hW : WT t) (hR : RM mi M t) (h1 : p < t 0 5) (h2 : q < t 0 5) (h3 : h < t 0 3) (hx : x < 2 ^ 31) (hp : post (some (.int (nI (bN (decide (q ≠ p) && passF t p q (t 1 h) (isD t x)))))) mi ml mr dom) : CT G 3 0 0 yX12_isTaken cX12_isTaken 7 (some .boolean) [.ref M, .int (nI p), .int (nI q), .int (nI h), .int (nI x)] mi ml mr dom post := by
  have w := hW.1
  have hge := hM.ge
  unfold passF at hp
  refine enter 2 (by decide) rfl rfl (fun X => ?_)
  refine j_aload_n dX12_isTaken_0 rfl rfl ?_
  refine j_iload_n dX12_isTaken_1 rfl rfl ?_
  refine j_iload_n dX12_isTaken_2 rfl rfl ?_
  refine j_iload dX12_isTaken_3 rfl ?_
  refine cV12_91 (d1 := 2) (kM0 hM) dX12_isTaken_5 (by decide) (Nat.le_of_ble_eq_true rfl) ?_
  refine m_seen hM hY hg hW hR (by omega) (by omega) (by omega) ?_
  refine j_istore (lv2 := [_, _, _, _, _, _, _]) dX12_isTaken_8 (by decide) rfl rfl ?_
  refine j_iload_n dX12_isTaken_10 rfl rfl ?_
  refine j_iload_n dX12_isTaken_11 rfl rfl ?_
  refine j_icmp_eq (tgt := 28) dX12_isTaken_12 (by decide) (fun h12 => ?_) (fun h12 => ?_)
  all_goals rw [nI_eq (by omega) (by omega)] at h12
  · refine j_iconst (v := nI 0) dX12_isTaken_28 (by decide) ?_
    refine j_zret rfl (by decide) dX12_isTaken_29 ?_
    first
      | (rw [decide_eq_false (p := q ≠ p) (by omega), Bool.false_and] at hp; exact hp)
      | (rw [decide_eq_false (p := (shw (t 4 p) (t 6 p) (t 1 h) (isD t x)) = (shw (t 4 q) (t 6 q) (t 1 h) (isD t x))) h25, Bool.false_and, Bool.and_false] at hp; exact hp)
  · refine j_iload dX12_isTaken_15 rfl ?_
    refine j_aload_n dX12_isTaken_17 rfl rfl ?_
    refine j_iload_n dX12_isTaken_18 rfl rfl ?_
    refine j_iload_n dX12_isTaken_19 rfl rfl ?_
    refine j_iload dX12_isTaken_20 rfl ?_
    refine cV12_91 (d1 := 2) (kM0 hM) dX12_isTaken_22 (by decide) (Nat.le_of_ble_eq_true rfl) ?_
    refine m_seen hM hY hg hW hR (by omega) (by omega) (by omega) ?_
    refine j_icmp_eq (tgt := 30) dX12_isTaken_25 (by decide) (fun h25 => ?_) (fun h25 => ?_)
    all_goals rw [nI_eq (by have := shw_lt (t 4 p) (t 6 p) (t 1 h) (isD t x); omega) (by have := shw_lt (t 4 q) (t 6 q) (t 1 h) (isD t x); omega)] at h25
    · refine j_iconst (v := nI 0) dX12_isTaken_30 (by decide) ?_
      refine j_istore (lv2 := [_, _, _, _, _, _, _]) dX12_isTaken_31 (by decide) rfl rfl ?_
      have hpq : q ≠ p := fun z => h12 z.symm
      have hee : (shw (t 4 p) (t 6 p) (t 1 h) (isD t x)) = (shw (t 4 q) (t 6 q) (t 1 h) (isD t x)) := h25
      obtain ⟨S, hSS⟩ : ∃ S, S = (shw (t 4 p) (t 6 p) (t 1 h) (isD t x)) := ⟨_, rfl⟩
      have hS : S < 32 := by rw [hSS]; exact shw_lt _ _ _ _
      rw [← hSS]
      refine lp (n := 5) (Q := fun i => ∀ j, j < i → Nat.testBit S j = true → mks t p j = mks t q j) (H := fun i => J cX12_isTaken 7 yX12_isTaken.cls yX12_isTaken.name (some .boolean) 3 G X post 0 0 mi ml mr dom 33 [some (.ref M), some (.int (nI p)), some (.int (nI q)), some (.int (nI h)), some (.int (nI x)), some (.int (nI S)), some (.int (nI i))] []) (fun hq => ?_) (fun i hi hq ih => ?_) (fun j hj => absurd hj (by omega))
      · skip
        refine j_iload dX12_isTaken_33 rfl ?_
        refine j_iconst (v := nI 5) dX12_isTaken_35 (by decide) ?_
        refine j_icmp_ge (tgt := 82) dX12_isTaken_36 (by decide) (fun h36 => ?_) (fun h36 => absurd (by decide) h36)
        refine j_iconst (v := nI 1) dX12_isTaken_82 (by decide) ?_
        refine j_zret rfl (by decide) dX12_isTaken_83 ?_
        have hz : like (mks t p) (mks t q) S = true := by
          unfold like
          rw [List.all_eq_true]
          intro j hj
          have hj := List.mem_range.mp hj
          cases hb : Nat.testBit S j with
          | false => rfl
          | true => show decide (mks t p j = mks t q j) = true; exact decide_eq_true (hq j hj hb)
        rw [hSS] at hz
        rw [hz, decide_eq_true hpq, decide_eq_true hee] at hp; exact hp
      · skip
        refine j_iload dX12_isTaken_33 rfl ?_
        refine j_iconst (v := nI 5) dX12_isTaken_35 (by decide) ?_
        refine j_icmp_ge (tgt := 82) dX12_isTaken_36 (by decide) (fun h36 => by exfalso; rw [nI_leI (by omega) (by omega)] at h36; omega) (fun h36 => ?_)
        refine j_iload dX12_isTaken_39 rfl ?_
        refine j_iload dX12_isTaken_41 rfl ?_
        refine cS12_95 (d1 := 1) dX12_isTaken_43 (by decide) (Nat.le_of_ble_eq_true rfl) ?_
        refine m_bit (by omega) (by omega) ?_
        refine j_if_eq (tgt := 76) dX12_isTaken_46 (by decide) (fun h46 => ?_) (fun h46 => ?_)
        all_goals rw [bN_eq0] at h46
        · refine j_iinc1 (lv2 := [_, _, _, _, _, _, _]) dX12_isTaken_76 rfl (by decide) rfl rfl ?_
          rw [nI_1]
          refine j_goto (tgt := 33) dX12_isTaken_79 (by decide) ?_
          exact ih (fun j hj hb => by
            by_cases hji : j = i
            · subst hji; first | exact h71 | (exact absurd hb (by rw [h46]; decide))
            · exact hq j (by omega) hb)
        · refine j_aload_n dX12_isTaken_49 rfl rfl ?_
          refine gR12_30 (kM0 hM) dX12_isTaken_50 (xM7 hY) ?_
          refine j_iconst (v := nI 5) dX12_isTaken_53 (by decide) ?_
          refine j_iload_n dX12_isTaken_54 rfl rfl ?_
          refine j_imul dX12_isTaken_55 ?_
          rw [pk_mul]
          refine j_iload dX12_isTaken_56 rfl ?_
          refine j_iadd dX12_isTaken_58 ?_
          rw [nI_add]
          refine j_iald (kM7 hM) (inT (lM7 hM) (by show (5 * p) + i < 30; omega) (by decide)) dX12_isTaken_59 ?_
          rw [nI_clamp (by omega), rM7 hR (by show (5 * p) + i < 30; omega)]
          refine j_aload_n dX12_isTaken_60 rfl rfl ?_
          refine gR12_30 (kM0 hM) dX12_isTaken_61 (xM7 hY) ?_
          refine j_iconst (v := nI 5) dX12_isTaken_64 (by decide) ?_
          refine j_iload_n dX12_isTaken_65 rfl rfl ?_
          refine j_imul dX12_isTaken_66 ?_
          rw [pk_mul]
          refine j_iload dX12_isTaken_67 rfl ?_
          refine j_iadd dX12_isTaken_69 ?_
          rw [nI_add]
          refine j_iald (kM7 hM) (inT (lM7 hM) (by show (5 * q) + i < 30; omega) (by decide)) dX12_isTaken_70 ?_
          rw [nI_clamp (by omega), rM7 hR (by show (5 * q) + i < 30; omega)]
          refine j_icmp_eq (tgt := 76) dX12_isTaken_71 (by decide) (fun h71 => ?_) (fun h71 => ?_)
          all_goals rw [nI_eq (by have := hg 7 ((5 * p) + i); omega) (by have := hg 7 ((5 * q) + i); omega)] at h71
          · refine j_iinc1 (lv2 := [_, _, _, _, _, _, _]) dX12_isTaken_76 rfl (by decide) rfl rfl ?_
            rw [nI_1]
            refine j_goto (tgt := 33) dX12_isTaken_79 (by decide) ?_
            exact ih (fun j hj hb => by
              by_cases hji : j = i
              · subst hji; first | exact h71 | (exact absurd hb (by rw [h46]; decide))
              · exact hq j (by omega) hb)
          · refine j_iconst (v := nI 0) dX12_isTaken_74 (by decide) ?_
            refine j_zret rfl (by decide) dX12_isTaken_75 ?_
            have hz : like (mks t p) (mks t q) S = false := by
              unfold like
              rw [List.all_eq_false]
              refine ⟨i, List.mem_range.mpr hi, ?_⟩
              rw [Bool.not_eq_false] at h46
              rw [h46, decide_eq_false (show ¬ mks t p i = mks t q i from h71)]; decide
            rw [hSS] at hz
            rw [hz, Bool.and_false, Bool.and_false] at hp; exact hp
    · refine j_iconst (v := nI 0) dX12_isTaken_28 (by decide) ?_
      refine j_zret rfl (by decide) dX12_isTaken_29 ?_
      first
        | (rw [decide_eq_false (p := q ≠ p) (by omega), Bool.false_and] at hp; exact hp)
        | (rw [decide_eq_false (p := (shw (t 4 p) (t 6 p) (t 1 h) (isD t x)) = (shw (t 4 q) (t 6 q) (t 1 h) (isD t x))) h25, Bool.false_and, Bool.and_false] at hp; exact hp)
theorem str_le {t : TW} (p : Nat) (hg : GB t) : str t p ≤ 99999 := by have := hg 6 p; unfold str; split <;> omega
end M12

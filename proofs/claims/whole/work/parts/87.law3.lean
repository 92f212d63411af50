/-! the law: its start -/
section LAW3
variable {d : Nat} {nm : String} {G : GG} {X : Cx} {post : PT} {bc bs : Nat} {mi mi1 : MI} {ml ml1 : ML} {mr mr1 : MR} {dom dom1 : List Nat} {L : Nat} {xs : Nat → Int32}
theorem XR.off3 {r : MR} (h : XR mr) (e : ∀ a, a < 300 → r a = mr a) : XR r := ⟨fun q hq => by rw [e q.1 ((show ∀ q ∈ fxA, q.1 < 300 by decide) q hq)]; exact h.1 q hq, fun q hq => by rw [e q.1 ((show ∀ q ∈ fxT1, q.1 < 300 by decide) q hq)]; exact h.2.1 q hq, fun q hq => by rw [e q.1 ((show ∀ q ∈ fxT2, q.1 < 300 by decide) q hq)]; exact h.2.2 q hq⟩
def LMz : List Nat := (((((((((((([] ++ [1001]) ++ [1002]) ++ [1003]) ++ [1004]) ++ [1005]) ++ [1006]) ++ [1007]) ++ [1008]) ++ [1009]) ++ [1010]) ++ [1011]) ++ [1012])
def LLz : List Nat := (((((((((((([1000] ++ [1001]) ++ [1002]) ++ [1003]) ++ [1004]) ++ [1005]) ++ [1006]) ++ [1007]) ++ [1008]) ++ [1009]) ++ [1010]) ++ [1011]) ++ [1012])
def ptz : List (Nat × Nat × Nat) := ((1000, 29, 1012) :: ((1000, 28, 1011) :: ((1000, 27, 1010) :: ((1000, 25, 1009) :: ((1000, 24, 1008) :: ((1000, 23, 1007) :: ((1000, 22, 1006) :: ((1000, 21, 1005) :: ((1000, 18, 1004) :: ((1000, 17, 1003) :: ((1000, 16, 1002) :: ((1000, 5, 1001) :: []))))))))))))
theorem LMz_b : ∀ n ∈ LMz, 1000 < n ∧ n < 1013 := by decide
theorem LLz_b : ∀ n ∈ LLz, 1000 ≤ n ∧ n < 1013 := by decide
theorem ptz_b : ∀ q ∈ ptz, q.1 = 1000 := by decide
theorem LC_b : ∀ n ∈ LC, n < 300 := by decide
theorem z_start (k0 : K0 mi ml mr [] mi1 ml1 mr1 dom1) : LAZ 0 (clr (clrs (up (clrs mi1 [1000]) 1000 2 (-1)) LMz) 601) (clrl (clrsl ml1 LLz) 601) (clrr (rs mr1 LLz ptz) 601) ((dom1 ++ LLz) ++ [601]) := by
  obtain ⟨g1, g2, g3, g4, g5, g6, g7⟩ := k0
  have low : ∀ n, n < 300 → (clr (clrs (up (clrs mi1 [1000]) 1000 2 (-1)) LMz) 601) n = mi1 n := fun n hn => by
    funext j
    unfold clr clrs
    rw [if_neg (by omega), if_neg (fun q => by have := LMz_b n q; omega), up_off _ _ (by omega), if_neg (by simp; omega)]
  have h1000 : ∀ j, j ≠ 2 → (clr (clrs (up (clrs mi1 [1000]) 1000 2 (-1)) LMz) 601) 1000 j = 0 := fun j hj => by
    unfold clr clrs
    rw [if_neg (by decide), if_neg (fun q => by have := LMz_b _ q; omega), up_ne _ _ hj, if_pos (by simp)]
  have h1002 : (clr (clrs (up (clrs mi1 [1000]) 1000 2 (-1)) LMz) 601) 1000 2 = -1 := by
    unfold clr clrs
    rw [if_neg (by decide), if_neg (fun q => by have := LMz_b _ q; omega), up_at]
  have rlo : ∀ n, n < 300 → (clrr (rs mr1 LLz ptz) 601) n = mr1 n := fun n hn => by
    funext j
    unfold clrr rs
    rw [if_neg (by omega), ptl_no (fun q hq => by have := ptz_b q hq; omega)]
    show (if n ∈ LLz then none else mr1 n j) = _
    rw [if_neg (fun q => by have := LLz_b n q; omega)]
  have z : ∀ n, n ∈ LC → ∀ j, (clr (clrs (up (clrs mi1 [1000]) 1000 2 (-1)) LMz) 601) n j = 0 := fun n hn j => by rw [low n (LC_b n hn)]; exact g1 n hn j
  have l4 : (clrl (clrsl ml1 LLz) 601) 4 = ml1 4 := by
    funext j
    unfold clrl clrsl
    rw [if_neg (by decide), if_neg (fun q => by have := LLz_b _ q; omega)]
  refine ⟨100, 200, t00, ⟨g4.off3 rlo, ?_, ⟨Or.inl rfl, Or.inr rfl, by decide, by rw [rlo 0 (by decide)]; exact g5, by rw [rlo 0 (by decide)]; exact g6⟩, ?_, ?_, fun k hk => by rw [l4]; exact g3 k hk, fun x hx => ?_⟩, ⟨?_, ?_, ?_⟩, ⟨0, by decide, z 0 (by decide) 1, h1000 6 (by decide), fun i hi => absurd hi (Nat.not_lt_zero _)⟩, ⟨fun p _ => z 15 (by decide) p, fun _ => 0, fun _ => Nat.zero_le _, fun i _ => z 16 (by decide) i⟩, ⟨0, 0, z 8 (by decide) 0, h1000 19 (by decide), by decide, z 8 (by decide) 4, by decide, fun j hj => absurd hj (Nat.not_lt_zero _)⟩, ⟨0, z 8 (by decide) 1, h1000 20 (by decide), by decide, fun j hj => absurd hj (Nat.not_lt_zero _)⟩, Or.inl ⟨z 100 (by decide) 0, rfl, rfl, z 8 (by decide) 0, z 8 (by decide) 1⟩⟩
  · intro q hq
    simp only [fxM, List.mem_cons, List.not_mem_nil, or_false] at hq
    rcases hq with rfl | rfl | rfl | rfl | rfl | rfl | rfl | rfl | rfl | rfl | rfl | rfl <;> rfl
  · refine ⟨by decide, ?_, ?_, ?_, ?_, ?_, ?_⟩ <;> intro i <;> first | (intro h; exact absurd h (Nat.not_lt_zero _)) | exact Nat.zero_le _
  · refine ⟨⟨z 100 (by decide) 1, z 100 (by decide) 2, z 100 (by decide) 3, z 100 (by decide) 4, z 102 (by decide) 0, z 100 (by decide) 5, z 100 (by decide) 6, z 100 (by decide) 7, z 100 (by decide) 8⟩, fun h hh => absurd hh (Nat.not_lt_zero _), fun i _ => z 103 (by decide) i, fun h => absurd h (Nat.lt_irrefl _), fun h hh => absurd hh (Nat.not_lt_zero _), fun h hh => absurd hh (Nat.not_lt_zero _), fun h hh => absurd hh (Nat.not_lt_zero _), fun h hh => absurd hh (Nat.not_lt_zero _)⟩
  · rcases List.mem_append.mp hx with h | h
    · rcases List.mem_append.mp h with h | h
      · rcases (g7 x).mp h with h | h
        · cases h
        · have := LC_b x h; omega
      · have := LLz_b x h; omega
    · have : x = 601 := List.mem_singleton.mp h
      omega
  · rw [h1000 1 (by decide), z 0 (by decide)]
  · rw [h1000 13 (by decide), z 0 (by decide)]
  · rw [h1002, z 0 (by decide), if_neg (by decide)]
theorem law_J (hx : SCX X G L xs) (hL : L ≤ 3072) (h15 : 15 ≤ d) (hGW : GW G) (hGA : GA G) (hxl : match X with | (_, l, _, _, _, _, _, _, _, _, _, _) => l.stackTraces = false) (hP : ∀ mi ml mr dom, post (some (.int 1)) mi ml mr dom) (hbc : 20000 ≤ bc) (hbs : 200000 ≤ bs) : J cL_law 7 RL nm (some .boolean) d G X post bc bs mi ml mr [] 0 [some (.ref 598), none, none, none, none, none, none] [] := by
  refine nL_8 (a := 0) rfl dL_law_0 List.not_mem_nil (by unfold lit; omega) (by omega) (by omega) ?_
  refine j_dup dL_law_3 rfl ?_
  refine cIL_15 (d1 := 9) (mc1 := 102) (ms1 := 2206) dL_law_4 (by omega) (by omega) (by omega) (Nat.le_of_ble_eq_true rfl) (k_half (fun n hn => absurd hn List.not_mem_nil) hGA (fun mi1 ml1 mr1 dom1 k0 => ?_))
  have hdm : ∀ n ∈ dom1, n < 300 := fun n hn => by
    rcases (k0.2.2.2.2.2.2 n).mp hn with h | h
    · cases h
    · exact LC_b n h
  refine j_astore_n (lv2 := [some (.ref 598), some (.ref 0), none, none, none, none, none]) dL_law_7 rfl (by decide) rfl rfl ?_
  refine nL_16 (a := 1000) rfl dL_law_8 (fun h => by have := hdm _ h; omega) (by unfold lit; omega) (by omega) (by omega) ?_
  refine j_dup dL_law_11 rfl ?_
  refine cIL_18 (d1 := 2) (mc1 := 12) (ms1 := 2147) dL_law_12 (by omega) (by omega) (by omega) (Nat.le_of_ble_eq_true rfl) (k_model (fun n hn hm => ?_) ?_)
  · have := hdm n hn
    unfold MA at hm
    obtain ⟨r, _, e⟩ := List.mem_map.mp hm
    omega
  refine j_astore_n (lv2 := [some (.ref 598), some (.ref 0), some (.ref 1000), none, none, none, none]) dL_law_15 rfl (by decide) rfl rfl ?_
  refine j_iconst (v := 1) dL_law_16 (by decide) ?_
  refine j_newL (a := 601) (n := 1) rfl rfl rfl rfl (by decide) dL_law_17 (fun h => ?_) (by unfold lit; omega) (by omega) (by omega) ?_
  · rcases List.mem_append.mp h with h | h
    · have := hdm _ h; omega
    · have := LLz_b _ h; omega
  refine j_astore_n (lv2 := [some (.ref 598), some (.ref 0), some (.ref 1000), some (.ref 601), none, none, none]) dL_law_19 rfl (by decide) rfl rfl ?_
  refine j_iconst (v := nI (6 * 0)) dL_law_20 (by decide) ?_
  refine j_istore (lv2 := [some (.ref 598), some (.ref 0), some (.ref 1000), some (.ref 601), some (.int (nI (6 * 0))), none, none]) dL_law_21 (by decide) rfl rfl ?_
  exact j_less (by omega) (by omega) (law_loop hx hL h15 hGW hxl hP 600 0 rfl _ _ _ _ (z_start k0))
end LAW3

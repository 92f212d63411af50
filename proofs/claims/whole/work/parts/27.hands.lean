/-! the class: Town.handsFrom, Present.begin -/
section C9d
variable {G : GG} {ml : ML} {mr : MR} {dom : List Nat} {T : Nat} {t : TW} {mi : MI} {post : PT}
def edg (t : TW) (b h n : Nat) : Bool := decide (0 < t 2 (6 * h + n)) && pasB t b h n
def hsF (t : TW) (b h n : Nat) (f : Nat → Nat) : Nat → Nat := if edg t b h n then upN f n (min (f n) (f h + 1)) else f
def hsR (t : TW) (pl b : Nat) : Nat → Nat := fu (fun _ f => fu (fun h f => fu (fun n f => hsF t b h n f) (t 0 3) f) (t 0 3) f) (t 0 3) (fun i => if i = pl then 0 else 1000000)
theorem hsF_le {b h n : Nat} {f : Nat → Nat} (hf : le6 f) : le6 (hsF t b h n f) := by
  intro i; unfold hsF; split
  · unfold upN; split
    · have := hf n; omega
    · exact hf i
  · exact hf i
theorem RX.o9 {m mi : MI} (hT : TT T) (hm : off1 (T + 9) m mi) (hR : RX mi T t) : RX m T t := by
  have e : ∀ j, j ≠ 9 → m (T + j) = mi (T + j) := fun j hj => hm _ (by omega)
  have e0 : m T = mi T := e 0 (by decide)
  obtain ⟨h1, h2, h3, h4, h5, h6, h7, h8⟩ := hR
  refine ⟨?_, fun i hi => ?_, fun i hi => ?_, fun h0 i hi => ?_, fun p hp => ?_, fun g hg => ?_, fun v hv => ?_, fun k hk => ?_⟩
  · rw [e0, e 2 (by decide)]; exact h1
  · rw [e 1 (by decide)]; exact h2 i hi
  · rw [e 3 (by decide)]; exact h3 i hi
  · rw [e 4 (by decide)]; exact h4 h0 i hi
  · have e1 : m (T + 10 + p) = mi (T + 10 + p) := by rw [Nat.add_assoc]; exact e _ (by omega)
    have e2 : m (T + 10 + p + 10) = mi (T + 10 + p + 10) := by rw [Nat.add_assoc, Nat.add_assoc]; exact e _ (by omega)
    rw [e1, e2]; exact h5 p hp
  · have e1 : m (T + 30 + g) = mi (T + 30 + g) := by rw [Nat.add_assoc]; exact e _ (by omega)
    rw [e1]; exact h6 g hg
  · have e1 : m (T + 40 + v) = mi (T + 40 + v) := by rw [Nat.add_assoc]; exact e _ (by omega)
    rw [e1]; exact h7 v hv
  · have e1 : m (T + 50 + k) = mi (T + 50 + k) := by rw [Nat.add_assoc]; exact e _ (by omega)
    rw [e1]; exact h8 k hk
theorem c_handsFrom {pl g : Nat} (hX : XR mr) (hT : TT T) (hW : WT t) (hR : RX mi T t) (hL : 60 ≤ t 0 2) (hg : g < t 0 6) (hpl : pl < t 0 3) (hp : ∀ m, off1 (T + 9) m mi → post (some (.int (nI (hsR t pl (t 8 g) (t 10 g))))) m ml mr dom) : CT G 3 0 0 yX9_handsFrom cX9_handsFrom 7 (some .int) [.ref T, .int (nI pl), .int (nI g)] mi ml mr dom post := by
  have w := hW.1
  obtain ⟨w1, w2, w3, w4⟩ := hW.go hg
  refine enter 4 (by decide) rfl rfl (fun X => ?_)
  refine j_aload_n dX9_handsFrom_0 rfl rfl ?_
  refine gR9_59 (kT0 hT) dX9_handsFrom_1 (xT_wares hX hT) ?_
  refine j_iload_n dX9_handsFrom_4 rfl rfl ?_
  refine j_aald (C := RX1) (kT6 hT) (by decide) (fun _ => rfl) (inT (lT6 hT) (show g < 5 by omega) (by omega)) (mr_nI (by omega) (xT_g hX hT (show g < 5 by omega))) dX9_handsFrom_5 (by decide) ?_
  refine gI9_89 (kG hT (show g < 5 by omega)) dX9_handsFrom_6 ?_
  rw [(hR.go hg).1]
  refine j_istore_n (lv2 := [_, _, _, _, _, _, _]) dX9_handsFrom_9 rfl (by decide) rfl rfl ?_
  refine j_aload_n dX9_handsFrom_10 rfl rfl ?_
  refine gR9_75 (kT0 hT) dX9_handsFrom_11 (xT_steps hX hT) ?_
  refine j_ldc wd1071 dX9_handsFrom_14 ?_
  refine cS9_144 (d1 := 1) dX9_handsFrom_16 (by decide) (Nat.le_of_ble_eq_true rfl) ?_
  refine c_fill (kT9 hT) (by rw [lT9 hT]; decide) ?_
  refine j_aload_n dX9_handsFrom_19 rfl rfl ?_
  refine gR9_75 (kT0 hT) dX9_handsFrom_20 (xT_steps hX hT) ?_
  refine j_iload_n dX9_handsFrom_23 rfl rfl ?_
  refine j_iconst (v := 0) dX9_handsFrom_24 (by decide) ?_
  refine j_iast (kT9 hT) (inT (lT9 hT) (show pl < 6 by omega) (by omega)) dX9_handsFrom_25 ?_
  rw [nI_clamp (by omega)]
  refine j_iconst (v := 0) dX9_handsFrom_26 (by decide) ?_
  refine j_istore (lv2 := [_, _, _, _, _, _, _]) dX9_handsFrom_27 (by decide) rfl rfl ?_
  skip
  have hi0 : le6 (fun i => if i = pl then 0 else 1000000) := fun i => by simp only; split <;> omega
  refine fl (n := t 0 3) (s0 := fun i => if i = pl then 0 else 1000000) (I := le6) (F := fun _ f => fu (fun h f => fu (fun n f => hsF t (t 8 g) h n f) (t 0 3) f) (t 0 3) f) (H := fun k f => ∀ z5 z6 : Option Value, ∀ m : MI, off1 (T + 9) m mi → (∀ i, i < 6 → m (T + 9) i = nI (f i)) → J cX9_handsFrom 7 yX9_handsFrom.cls yX9_handsFrom.name (some .int) 3 G X post 0 0 m ml mr dom 29 [some (.ref T), some (.int (nI pl)), some (.int (nI g)), some (.int (nI (t 8 g))), some (.int (nI k)), z5, z6] []) hi0 (fun k f h => fu_inv (fun h f hf => fu_inv (fun n f hf => hsF_le hf) _ hf) _ h) (fun k hk1 f hle ih0 z5 z6 m hm hf => ?_) (fun z5 z6 m hm hf => ?_) none none _ (fun n hn => ?_) (fun i hi => ?_)
  · have key41 : ∀ z6 : Option Value, ∀ m : MI, off1 (T + 9) m mi → (∀ i, i < 6 → m (T + 9) i = nI (f i)) → J cX9_handsFrom 7 yX9_handsFrom.cls yX9_handsFrom.name (some .int) 3 G X post 0 0 m ml mr dom 41 [some (.ref T), some (.int (nI pl)), some (.int (nI g)), some (.int (nI (t 8 g))), some (.int (nI k)), some (.int (nI 0)), z6] [] := by
      refine fl (n := t 0 3) (s0 := f) (I := le6) (F := fun h f => fu (fun n f => hsF t (t 8 g) h n f) (t 0 3) f) (H := fun h f => ∀ z6 : Option Value, ∀ m : MI, off1 (T + 9) m mi → (∀ i, i < 6 → m (T + 9) i = nI (f i)) → J cX9_handsFrom 7 yX9_handsFrom.cls yX9_handsFrom.name (some .int) 3 G X post 0 0 m ml mr dom 41 [some (.ref T), some (.int (nI pl)), some (.int (nI g)), some (.int (nI (t 8 g))), some (.int (nI k)), some (.int (nI h)), z6] []) hle (fun h f hf => fu_inv (fun n f hf => hsF_le hf) _ hf) (fun h hh1 f hle ih1 z6 m hm hf => ?_) (fun z6 m hm hf => ?_)
      · have key53 : ∀ m : MI, off1 (T + 9) m mi → (∀ i, i < 6 → m (T + 9) i = nI (f i)) → J cX9_handsFrom 7 yX9_handsFrom.cls yX9_handsFrom.name (some .int) 3 G X post 0 0 m ml mr dom 53 [some (.ref T), some (.int (nI pl)), some (.int (nI g)), some (.int (nI (t 8 g))), some (.int (nI k)), some (.int (nI h)), some (.int (nI 0))] [] := by
          refine fl (n := t 0 3) (s0 := f) (I := le6) (F := fun n f => hsF t (t 8 g) h n f) (H := fun n f => ∀ m : MI, off1 (T + 9) m mi → (∀ i, i < 6 → m (T + 9) i = nI (f i)) → J cX9_handsFrom 7 yX9_handsFrom.cls yX9_handsFrom.name (some .int) 3 G X post 0 0 m ml mr dom 53 [some (.ref T), some (.int (nI pl)), some (.int (nI g)), some (.int (nI (t 8 g))), some (.int (nI k)), some (.int (nI h)), some (.int (nI n))] []) hle (fun n f hf => hsF_le hf) (fun n hn1 f hle ih m hm hf => ?_) (fun m hm hf => ?_)
          · skip
            refine j_iload dX9_handsFrom_53 rfl ?_
            refine j_aload_n dX9_handsFrom_55 rfl rfl ?_
            refine gI9_25 (kT0 hT) dX9_handsFrom_56 ?_
            refine j_icmp_ge (tgt := 120) dX9_handsFrom_59 (by decide) (fun h59 => absurd (by rw [(RX.o9 hT hm hR).houses] at h59; exact h59) (nI_ge hn1 (by omega))) (fun _ => ?_)
            refine j_aload_n dX9_handsFrom_62 rfl rfl ?_
            refine gR9_47 (kT0 hT) dX9_handsFrom_63 (xT_lanes hX hT) ?_
            refine j_iload dX9_handsFrom_66 rfl ?_
            refine j_iload dX9_handsFrom_68 rfl ?_
            refine cV9_150 (d1 := 1) (kT2 hT) dX9_handsFrom_70 (by decide) (Nat.le_of_ble_eq_true rfl) ?_
            refine c_join hX hT (show h < 6 by omega) (show n < 6 by omega) ((RX.o9 hT hm hR).min (by omega)) (by have := hW.2.2.1 (6 * h + n); omega) ?_
            refine j_if_eq (tgt := 114) dX9_handsFrom_73 (by decide) (fun h73 => ?_) (fun h73 => ?_)
            · refine j_iinc1 (lv2 := [_, _, _, _, _, _, _]) dX9_handsFrom_114 rfl (by decide) rfl rfl ?_
              refine j_goto (tgt := 53) dX9_handsFrom_117 (by decide) ?_
              rw [nI_1]
              first
                | (rw [bN_eq0] at h73; rw [show hsF t (t 8 g) h n f = f by unfold hsF edg; rw [h73]; rfl] at ih; exact ih m hm hf)
                | (rw [bN_eq0] at h85; rw [show hsF t (t 8 g) h n f = f by unfold hsF edg; rw [h85, Bool.and_false]; rfl] at ih; exact ih m hm hf)
                | (rw [bN_eq0, Bool.not_eq_false] at h73 h85
                   rw [nI_clamp (by omega)]
                   refine ih _ hm.up (fun i hi => ?_)
                   rw [show hsF t (t 8 g) h n f = upN f n (min (f n) (f h + 1)) by unfold hsF edg; rw [h73, h85]; rfl]
                   unfold upN
                   by_cases hin : i = n
                   · subst hin; rw [up_at, if_pos rfl]
                   · rw [up_ne _ _ hin, if_neg hin]; exact hf i hi)
            · refine j_aload_n dX9_handsFrom_76 rfl rfl ?_
              refine j_iload_n dX9_handsFrom_77 rfl rfl ?_
              refine j_iload dX9_handsFrom_78 rfl ?_
              refine j_iload dX9_handsFrom_80 rfl ?_
              refine cV9_98 (d1 := 2) (kT0 hT) dX9_handsFrom_82 (by decide) (Nat.le_of_ble_eq_true rfl) ?_
              refine c_passesBoth hX hT hW (RX.o9 hT hm hR) hL (by omega) hh1 hn1 ?_
              refine j_if_eq (tgt := 114) dX9_handsFrom_85 (by decide) (fun h85 => ?_) (fun h85 => ?_)
              · refine j_iinc1 (lv2 := [_, _, _, _, _, _, _]) dX9_handsFrom_114 rfl (by decide) rfl rfl ?_
                refine j_goto (tgt := 53) dX9_handsFrom_117 (by decide) ?_
                rw [nI_1]
                first
                  | (rw [bN_eq0] at h73; rw [show hsF t (t 8 g) h n f = f by unfold hsF edg; rw [h73]; rfl] at ih; exact ih m hm hf)
                  | (rw [bN_eq0] at h85; rw [show hsF t (t 8 g) h n f = f by unfold hsF edg; rw [h85, Bool.and_false]; rfl] at ih; exact ih m hm hf)
                  | (rw [bN_eq0, Bool.not_eq_false] at h73 h85
                     rw [nI_clamp (by omega)]
                     refine ih _ hm.up (fun i hi => ?_)
                     rw [show hsF t (t 8 g) h n f = upN f n (min (f n) (f h + 1)) by unfold hsF edg; rw [h73, h85]; rfl]
                     unfold upN
                     by_cases hin : i = n
                     · subst hin; rw [up_at, if_pos rfl]
                     · rw [up_ne _ _ hin, if_neg hin]; exact hf i hi)
              · refine j_aload_n dX9_handsFrom_88 rfl rfl ?_
                refine gR9_75 (kT0 hT) dX9_handsFrom_89 (xT_steps hX hT) ?_
                refine j_iload dX9_handsFrom_92 rfl ?_
                refine j_aload_n dX9_handsFrom_94 rfl rfl ?_
                refine gR9_75 (kT0 hT) dX9_handsFrom_95 (xT_steps hX hT) ?_
                refine j_iload dX9_handsFrom_98 rfl ?_
                refine j_iald (kT9 hT) (inT (lT9 hT) (show n < 6 by omega) (by omega)) dX9_handsFrom_100 ?_
                rw [nI_clamp (by omega), hf n (by omega)]
                refine j_aload_n dX9_handsFrom_101 rfl rfl ?_
                refine gR9_75 (kT0 hT) dX9_handsFrom_102 (xT_steps hX hT) ?_
                refine j_iload dX9_handsFrom_105 rfl ?_
                refine j_iald (kT9 hT) (inT (lT9 hT) (show h < 6 by omega) (by omega)) dX9_handsFrom_107 ?_
                rw [nI_clamp (by omega), hf h (by omega)]
                refine j_iconst (v := 1) dX9_handsFrom_108 (by decide) ?_
                refine j_iadd dX9_handsFrom_109 ?_
                refine j_mmin9_154 dX9_handsFrom_110 (by decide) (Nat.le_of_ble_eq_true rfl) ?_
                rw [nI_1, imin_nI (by have := hle n; omega) (by have := hle h; omega)]
                refine j_iast (kT9 hT) (inT (lT9 hT) (show n < 6 by omega) (by omega)) dX9_handsFrom_113 ?_
                refine j_iinc1 (lv2 := [_, _, _, _, _, _, _]) dX9_handsFrom_114 rfl (by decide) rfl rfl ?_
                refine j_goto (tgt := 53) dX9_handsFrom_117 (by decide) ?_
                rw [nI_1]
                first
                  | (rw [bN_eq0] at h73; rw [show hsF t (t 8 g) h n f = f by unfold hsF edg; rw [h73]; rfl] at ih; exact ih m hm hf)
                  | (rw [bN_eq0] at h85; rw [show hsF t (t 8 g) h n f = f by unfold hsF edg; rw [h85, Bool.and_false]; rfl] at ih; exact ih m hm hf)
                  | (rw [bN_eq0, Bool.not_eq_false] at h73 h85
                     rw [nI_clamp (by omega)]
                     refine ih _ hm.up (fun i hi => ?_)
                     rw [show hsF t (t 8 g) h n f = upN f n (min (f n) (f h + 1)) by unfold hsF edg; rw [h73, h85]; rfl]
                     unfold upN
                     by_cases hin : i = n
                     · subst hin; rw [up_at, if_pos rfl]
                     · rw [up_ne _ _ hin, if_neg hin]; exact hf i hi)
          · skip
            refine j_iload dX9_handsFrom_53 rfl ?_
            refine j_aload_n dX9_handsFrom_55 rfl rfl ?_
            refine gI9_25 (kT0 hT) dX9_handsFrom_56 ?_
            refine j_icmp_ge (tgt := 120) dX9_handsFrom_59 (by decide) (fun _ => ?_) (fun h59 => absurd (by rw [(RX.o9 hT hm hR).houses]; exact nI_le (Nat.le_refl _) (by omega)) h59)
            refine j_iinc1 (lv2 := [_, _, _, _, _, _, _]) dX9_handsFrom_120 rfl (by decide) rfl rfl ?_
            refine j_goto (tgt := 41) dX9_handsFrom_123 (by decide) ?_
            rw [nI_1]
            exact ih1 _ m hm hf
        refine j_iload dX9_handsFrom_41 rfl ?_
        refine j_aload_n dX9_handsFrom_43 rfl rfl ?_
        refine gI9_25 (kT0 hT) dX9_handsFrom_44 ?_
        refine j_icmp_ge (tgt := 126) dX9_handsFrom_47 (by decide) (fun h47 => absurd (by rw [(RX.o9 hT hm hR).houses] at h47; exact h47) (nI_ge hh1 (by omega))) (fun _ => ?_)
        refine j_iconst (v := 0) dX9_handsFrom_50 (by decide) ?_
        refine j_istore (lv2 := [_, _, _, _, _, _, _]) dX9_handsFrom_51 (by decide) rfl rfl ?_
        exact key53 m hm hf
      · skip
        refine j_iload dX9_handsFrom_41 rfl ?_
        refine j_aload_n dX9_handsFrom_43 rfl rfl ?_
        refine gI9_25 (kT0 hT) dX9_handsFrom_44 ?_
        refine j_icmp_ge (tgt := 126) dX9_handsFrom_47 (by decide) (fun _ => ?_) (fun h47 => absurd (by rw [(RX.o9 hT hm hR).houses]; exact nI_le (Nat.le_refl _) (by omega)) h47)
        refine j_iinc1 (lv2 := [_, _, _, _, _, _, _]) dX9_handsFrom_126 rfl (by decide) rfl rfl ?_
        refine j_goto (tgt := 29) dX9_handsFrom_129 (by decide) ?_
        rw [nI_1]
        exact ih0 _ _ m hm hf
    refine j_iload dX9_handsFrom_29 rfl ?_
    refine j_aload_n dX9_handsFrom_31 rfl rfl ?_
    refine gI9_25 (kT0 hT) dX9_handsFrom_32 ?_
    refine j_icmp_ge (tgt := 132) dX9_handsFrom_35 (by decide) (fun h35 => absurd (by rw [(RX.o9 hT hm hR).houses] at h35; exact h35) (nI_ge hk1 (by omega))) (fun _ => ?_)
    refine j_iconst (v := 0) dX9_handsFrom_38 (by decide) ?_
    refine j_istore (lv2 := [_, _, _, _, _, _, _]) dX9_handsFrom_39 (by decide) rfl rfl ?_
    exact key41 z6 m hm hf
  · skip
    refine j_iload dX9_handsFrom_29 rfl ?_
    refine j_aload_n dX9_handsFrom_31 rfl rfl ?_
    refine gI9_25 (kT0 hT) dX9_handsFrom_32 ?_
    refine j_icmp_ge (tgt := 132) dX9_handsFrom_35 (by decide) (fun _ => ?_) (fun h35 => absurd (by rw [(RX.o9 hT hm hR).houses]; exact nI_le (Nat.le_refl _) (by omega)) h35)
    refine j_aload_n dX9_handsFrom_132 rfl rfl ?_
    refine gR9_75 (kT0 hT) dX9_handsFrom_133 (xT_steps hX hT) ?_
    refine j_aload_n dX9_handsFrom_136 rfl rfl ?_
    refine gR9_59 (kT0 hT) dX9_handsFrom_137 (xT_wares hX hT) ?_
    refine j_iload_n dX9_handsFrom_140 rfl rfl ?_
    refine j_aald (C := RX1) (kT6 hT) (by decide) (fun _ => rfl) (inT (lT6 hT) (show g < 5 by omega) (by omega)) (mr_nI (by omega) (xT_g hX hT (show g < 5 by omega))) dX9_handsFrom_141 (by decide) ?_
    refine gI9_95 (kG hT (show g < 5 by omega)) dX9_handsFrom_142 ?_
    refine j_iald (kT9 hT) (by rw [((RX.o9 hT hm hR).go hg).2.2]; exact inT (lT9 hT) (show t 10 g < 6 by omega) (by omega)) dX9_handsFrom_145 ?_
    rw [((RX.o9 hT hm hR).go hg).2.2, nI_clamp (by omega), hf _ (show t 10 g < 6 by omega)]
    refine j_iret rfl dX9_handsFrom_146 ?_
    exact hp m hm
  · rw [up_off _ _ hn]; funext i; unfold fillm; rw [if_neg hn]
  · simp only
    by_cases hip : i = pl
    · subst hip; rw [up_at, if_pos rfl]; rfl
    · rw [up_ne _ _ hip, if_neg hip]; unfold fillm; rw [if_pos rfl, if_pos (by rw [lT9 hT]; exact hi)]; rfl
theorem c_begin (hX : XR mr) (hT : TT T) (hW : WT t) (hR : RX mi T t) (hp : ∀ m : MI, (∀ n, n ≠ 8 → n ≠ 9 → m n = mi n) → m 8 0 = 0 → m 8 1 = 0 → (∀ j, j ≠ 0 → j ≠ 1 → m 8 j = mi 8 j) → (∀ p, p < t 0 5 → m 9 p = nI (t 5 p)) → (∀ g, g < t 0 6 → m 9 (6 + g) = nI (t 9 g)) → m 9 11 = 12 → m 9 12 = 0 → post none m ml mr dom) : CT G 1 0 0 yX4_begin cX4_begin 3 none [.ref 8, .ref T] mi ml mr dom post := by
  have w := hW.1
  refine enter 1 (by decide) rfl rfl (fun X => ?_)
  refine j_aload_n dX4_begin_0 rfl rfl ?_
  refine j_iconst (v := 0) dX4_begin_1 (by decide) ?_
  refine pI4_11 rfl dX4_begin_2 ?_
  refine j_aload_n dX4_begin_5 rfl rfl ?_
  refine j_iconst (v := 0) dX4_begin_6 (by decide) ?_
  refine pI4_15 rfl dX4_begin_7 ?_
  refine j_iconst (v := 0) dX4_begin_10 (by decide) ?_
  refine j_istore_n (lv2 := [_, _, _]) dX4_begin_11 rfl (by decide) rfl rfl ?_
  skip
  obtain ⟨m0, hm0⟩ : ∃ m0, m0 = up (up mi 8 0 0) 8 1 0 := ⟨_, rfl⟩
  rw [← hm0]
  have hRm : ∀ m, off1 9 m m0 → RX m T t := fun m hm => RX_off (fun j => by
    rw [hm _ (by rcases hT with rfl | rfl <;> omega), hm0, up_off _ _ (by rcases hT with rfl | rfl <;> omega), up_off _ _ (by rcases hT with rfl | rfl <;> omega)]) hR
  have key : ∀ m : MI, off1 9 m m0 → (∀ q, q < t 0 5 → m 9 q = nI (t 5 q)) → (∀ q, q < 0 → m 9 (6 + q) = nI (t 9 q)) → J cX4_begin 3 yX4_begin.cls yX4_begin.name none 1 G X post 0 0 m ml mr dom 43 [some (.ref 8), some (.ref T), some (.int (nI 0))] [] := by
    refine lq (n := t 0 6) (H := fun g => ∀ m : MI, off1 9 m m0 → (∀ q, q < t 0 5 → m 9 q = nI (t 5 q)) → (∀ q, q < g → m 9 (6 + q) = nI (t 9 q)) → J cX4_begin 3 yX4_begin.cls yX4_begin.name none 1 G X post 0 0 m ml mr dom 43 [some (.ref 8), some (.ref T), some (.int (nI g))] []) (fun m hm h1 h2 => ?_) (fun g hg ih m hm h1 h2 => ?_)
    · have hR9 := hRm m hm
      refine j_iload_n dX4_begin_43 rfl rfl ?_
      refine j_aload_n dX4_begin_44 rfl rfl ?_
      refine gI4_45 (kT0 hT) dX4_begin_45 ?_
      refine j_icmp_ge (tgt := 75) dX4_begin_48 (by decide) (fun _ => ?_) (fun h48 => absurd (by rw [hR9.goods]; exact nI_le (Nat.le_refl _) (by omega)) h48)
      refine j_aload_n dX4_begin_75 rfl rfl ?_
      refine gR4_18 rfl dX4_begin_76 (x_cells hX) ?_
      refine j_bipush (v := 11) dX4_begin_79 (by decide) ?_
      refine j_bipush (v := 12) dX4_begin_81 (by decide) ?_
      refine j_iast rfl (inT (a := 9) (N := 13) (n := 11) rfl (by decide) (by decide)) dX4_begin_83 ?_
      refine j_aload_n dX4_begin_84 rfl rfl ?_
      refine gR4_18 rfl dX4_begin_85 (x_cells hX) ?_
      refine j_bipush (v := 12) dX4_begin_88 (by decide) ?_
      refine j_iconst (v := 0) dX4_begin_90 (by decide) ?_
      refine j_iast rfl (inT (a := 9) (N := 13) (n := 12) rfl (by decide) (by decide)) dX4_begin_91 ?_
      refine j_vret rfl dX4_begin_92 ?_
      refine hp _ (fun n a b => ?_) ?_ ?_ (fun j a b => ?_) (fun q hq => ?_) (fun q hq => ?_) ?_ ?_
      · rw [up_off _ _ b, up_off _ _ b, hm n b, hm0, up_off _ _ a, up_off _ _ a]
      · rw [up_off _ _ (by decide), up_off _ _ (by decide), hm 8 (by decide), hm0, up_ne _ _ (by decide), up_at]
      · rw [up_off _ _ (by decide), up_off _ _ (by decide), hm 8 (by decide), hm0, up_at]
      · rw [up_off _ _ (by decide), up_off _ _ (by decide), hm 8 (by decide), hm0, up_ne _ _ b, up_ne _ _ a]
      · rw [up_ne _ _ (show q ≠ Int32.toNatClampNeg 12 by show q ≠ 12; omega), up_ne _ _ (show q ≠ Int32.toNatClampNeg 11 by show q ≠ 11; omega)]; exact h1 q hq
      · rw [up_ne _ _ (show 6 + q ≠ Int32.toNatClampNeg 12 by show 6 + q ≠ 12; omega), up_ne _ _ (show 6 + q ≠ Int32.toNatClampNeg 11 by show 6 + q ≠ 11; omega)]; exact h2 q hq
      · rw [up_ne _ _ (by decide)]; exact up_at _ _ _ _
      · exact up_at _ _ _ _
    · have hR9 := hRm m hm
      refine j_iload_n dX4_begin_43 rfl rfl ?_
      refine j_aload_n dX4_begin_44 rfl rfl ?_
      refine gI4_45 (kT0 hT) dX4_begin_45 ?_
      refine j_icmp_ge (tgt := 75) dX4_begin_48 (by decide) (fun h48 => absurd (by rw [hR9.goods] at h48; exact h48) (nI_ge hg (by omega))) (fun _ => ?_)
      refine j_aload_n dX4_begin_51 rfl rfl ?_
      refine gR4_18 rfl dX4_begin_52 (x_cells hX) ?_
      refine j_bipush (v := 6) dX4_begin_55 (by decide) ?_
      refine j_iload_n dX4_begin_57 rfl rfl ?_
      refine j_iadd dX4_begin_58 ?_
      rw [show (6 : Int32) = nI 6 from rfl, nI_add]
      refine j_aload_n dX4_begin_59 rfl rfl ?_
      refine gR4_48 (kT0 hT) dX4_begin_60 (xT_wares hX hT) ?_
      refine j_iload_n dX4_begin_63 rfl rfl ?_
      refine j_aald (C := RX1) (kT6 hT) (by decide) (fun _ => rfl) (inT (lT6 hT) (show g < 5 by omega) (by omega)) (mr_nI (by omega) (xT_g hX hT (show g < 5 by omega))) dX4_begin_64 (by decide) ?_
      refine gI4_52 (kG hT (show g < 5 by omega)) dX4_begin_65 ?_
      rw [(hR9.go hg).2.1]
      refine j_iast rfl (inT (a := 9) (N := 13) rfl (show 6 + g < 13 by omega) (by omega)) dX4_begin_68 ?_
      rw [nI_clamp (by omega)]
      refine j_iinc1 (lv2 := [_, _, _]) dX4_begin_69 rfl (by decide) rfl rfl ?_
      refine j_goto (tgt := 43) dX4_begin_72 (by decide) ?_
      rw [nI_1]
      refine ih _ hm.up (fun q hq => ?_) (fun q hq => ?_)
      · rw [up_ne _ _ (by omega)]; exact h1 q hq
      · by_cases hqp : q = g
        · subst hqp; rw [up_at]
        · rw [up_ne _ _ (by omega)]; exact h2 q (by omega)
  refine lq (n := t 0 5) (H := fun p => ∀ m : MI, off1 9 m m0 → (∀ q, q < p → m 9 q = nI (t 5 q)) → J cX4_begin 3 yX4_begin.cls yX4_begin.name none 1 G X post 0 0 m ml mr dom 12 [some (.ref 8), some (.ref T), some (.int (nI p))] []) (fun m hm h1 => ?_) (fun p hp1 ih m hm h1 => ?_) m0 (fun _ _ => rfl) (fun q hq => absurd hq (by omega))
  · have hR9 := hRm m hm
    refine j_iload_n dX4_begin_12 rfl rfl ?_
    refine j_aload_n dX4_begin_13 rfl rfl ?_
    refine gI4_31 (kT0 hT) dX4_begin_14 ?_
    refine j_icmp_ge (tgt := 41) dX4_begin_17 (by decide) (fun _ => ?_) (fun h17 => absurd (by rw [hR9.people]; exact nI_le (Nat.le_refl _) (by omega)) h17)
    refine j_iconst (v := 0) dX4_begin_41 (by decide) ?_
    refine j_istore_n (lv2 := [_, _, _]) dX4_begin_42 rfl (by decide) rfl rfl ?_
    exact key m hm h1 (fun q hq => absurd hq (by omega))
  · have hR9 := hRm m hm
    refine j_iload_n dX4_begin_12 rfl rfl ?_
    refine j_aload_n dX4_begin_13 rfl rfl ?_
    refine gI4_31 (kT0 hT) dX4_begin_14 ?_
    refine j_icmp_ge (tgt := 41) dX4_begin_17 (by decide) (fun h17 => absurd (by rw [hR9.people] at h17; exact h17) (nI_ge hp1 (by omega))) (fun _ => ?_)
    refine j_aload_n dX4_begin_20 rfl rfl ?_
    refine gR4_18 rfl dX4_begin_21 (x_cells hX) ?_
    refine j_iload_n dX4_begin_24 rfl rfl ?_
    refine j_aload_n dX4_begin_25 rfl rfl ?_
    refine gR4_36 (kT0 hT) dX4_begin_26 (xT_persons hX hT) ?_
    refine j_iload_n dX4_begin_29 rfl rfl ?_
    refine j_aald (C := RX3) (kT5 hT) (by decide) (fun _ => rfl) (inT (lT5 hT) (show p < 6 by omega) (by omega)) (mr_nI (by omega) (xT_p hX hT (show p < 6 by omega))) dX4_begin_30 (by decide) ?_
    refine gI4_40 (kP hT (show p < 6 by omega)) dX4_begin_31 ?_
    rw [(hR9.pe hp1).2.1]
    refine j_iast rfl (inT (a := 9) (N := 13) rfl (show p < 13 by omega) (by omega)) dX4_begin_34 ?_
    rw [nI_clamp (by omega)]
    refine j_iinc1 (lv2 := [_, _, _]) dX4_begin_35 rfl (by decide) rfl rfl ?_
    refine j_goto (tgt := 12) dX4_begin_38 (by decide) ?_
    rw [nI_1]
    refine ih _ hm.up (fun q hq => ?_)
    by_cases hqp : q = p
    · subst hqp; rw [up_at]
    · rw [up_ne _ _ hqp]; exact h1 q (by omega)
end C9d

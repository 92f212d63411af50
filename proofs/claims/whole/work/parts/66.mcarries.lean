/-! the reference: who carries what -/
def ldB (t : TW) (v by_ : Nat → Nat) (n p : Nat) : Nat := bst (fun g => mgo t v g && decide (by_ g = p)) n
def tmF (t : TW) (v by_ : Nat → Nat) (p b : Nat) : Nat := max b (tk t v p (ldB t v by_ (t 0 6) p))
def tmB (t : TW) (v by_ : Nat → Nat) : Nat := fu (tmF t v by_) (t 0 5) 0
def nbF (t : TW) (v : Nat → Nat) : Nat → (Nat → Nat) → Option (Nat → Nat)
  | 0, _ => none
  | n + 1, b => if mgo t v n then (if b n + 1 < t 0 5 then some (upN b n (b n + 1)) else nbF t v n (upN b n 0)) else nbF t v n b
abbrev SB : Type := Nat × (Nat → Nat)
def evB (t : TW) (v by_ : Nat → Nat) (S : SB) : SB := if tmB t v by_ < S.1 then (tmB t v by_, by_) else S
def enT (t : TW) (v : Nat → Nat) : Nat → Nat → (Nat → Nat) → SB → SB
  | 0, _, b, S => evB t v b S
  | n + 1, g, b, S => if mgo t v g then fu (fun p S => enT t v n (g + 1) (upN b g p) S) (t 0 5) S else enT t v n (g + 1) b S
def okB (t : TW) (v b : Nat → Nat) : Prop := ∀ g, g < t 0 6 → mgo t v g = true → b g < t 0 5
section ODO
variable {t : TW} {v : Nat → Nat}
theorem upN_upN (b : Nat → Nat) (g x y : Nat) : upN (upN b g x) g y = upN b g y := by funext j; unfold upN; split <;> rfl
theorem upN_self {b : Nat → Nat} {g x : Nat} (h : b g = x) : upN b g x = b := by
  funext j; unfold upN; split
  · next e => rw [e, h]
  · rfl
theorem upN_at (b : Nat → Nat) (g x : Nat) : upN b g x g = x := if_pos rfl
theorem upN_ne (b : Nat → Nat) {g x j : Nat} (h : j ≠ g) : upN b g x j = b j := if_neg h
theorem odo {H : (Nat → Nat) → SB → Prop} {X : SB → Prop} (hP : 0 < t 0 5) (step : ∀ b S, okB t v b → (nbF t v (t 0 6) b = none → X (evB t v b S)) → (∀ b', nbF t v (t 0 6) b = some b' → H b' (evB t v b S)) → H b S) :
    ∀ n g, g + n = t 0 6 → ∀ b S, okB t v b → (∀ j, g ≤ j → b j = 0) → (nbF t v g b = none → X (enT t v n g b S)) → (∀ b', nbF t v g b = some b' → H b' (enT t v n g b S)) → H b S := by
  intro n
  induction n with
  | zero =>
    intro g hg b S hb hz h1 h2
    rw [show g = t 0 6 by omega] at h1 h2
    exact step b S hb h1 h2
  | succ n ih =>
    intro g hg b S hb hz h1 h2
    by_cases hm : mgo t v g = true
    · have key : ∀ k p, p + k + 1 = t 0 5 → H (upN b g p) (fu (fun p S => enT t v n (g + 1) (upN b g p) S) p S) := by
        intro k
        induction k with
        | zero =>
          intro p hp
          refine ih (g + 1) (by omega) _ _ (fun x hx hxm => ?_) (fun j hj => ?_) ?_ ?_
          · by_cases e : x = g
            · subst e; rw [upN_at]; omega
            · rw [upN_ne _ e]; exact hb x hx hxm
          · rw [upN_ne _ (by omega)]; exact hz j (by omega)
          · intro q
            rw [nbF, if_pos hm, upN_at, if_neg (by omega), upN_upN, upN_self (hz g (Nat.le_refl _))] at q
            have := h1 q
            rw [enT, if_pos hm, show t 0 5 = p + 1 by omega] at this
            exact this
          · intro b' q
            rw [nbF, if_pos hm, upN_at, if_neg (by omega), upN_upN, upN_self (hz g (Nat.le_refl _))] at q
            have := h2 b' q
            rw [enT, if_pos hm, show t 0 5 = p + 1 by omega] at this
            exact this
        | succ k ihk =>
          intro p hp
          refine ih (g + 1) (by omega) _ _ (fun x hx hxm => ?_) (fun j hj => ?_) ?_ ?_
          · by_cases e : x = g
            · subst e; rw [upN_at]; omega
            · rw [upN_ne _ e]; exact hb x hx hxm
          · rw [upN_ne _ (by omega)]; exact hz j (by omega)
          · intro q
            rw [nbF, if_pos hm, upN_at, if_pos (by omega)] at q
            cases q
          · intro b' q
            rw [nbF, if_pos hm, upN_at, if_pos (by omega), upN_upN] at q
            cases q
            exact ihk (p + 1) (by omega)
      have := key (t 0 5 - 1) 0 (by omega)
      rw [upN_self (hz g (Nat.le_refl _))] at this
      exact this
    · refine ih (g + 1) (by omega) b S hb (fun j hj => hz j (by omega)) ?_ ?_
      · intro q
        rw [nbF, if_neg hm] at q
        have := h1 q
        rw [enT, if_neg hm] at this; exact this
      · intro b' q
        rw [nbF, if_neg hm] at q
        have := h2 b' q
        rw [enT, if_neg hm] at this; exact this
theorem ldB_32 (b : Nat → Nat) (p : Nat) {n : Nat} (hn : n ≤ 5) : ldB t v b n p < 32 := Nat.lt_of_lt_of_le (bst_lt _ _) (Nat.pow_le_pow_right (n := 2) (by decide) hn)
theorem ldB_t {b : Nat → Nat} {g q : Nat} (h : (mgo t v g && decide (b g = q)) = true) : ldB t v b (g + 1) q = ldB t v b g q ||| 2 ^ g := if_pos h
theorem ldB_f {b : Nat → Nat} {g q : Nat} (h : ¬ (mgo t v g && decide (b g = q)) = true) : ldB t v b (g + 1) q = ldB t v b g q := if_neg h
theorem tmF_le {b : Nat → Nat} {p c : Nat} (hc : c ≤ 99999) : tmF t v b p c ≤ 99999 := by
  unfold tmF
  have := tk_le (t := t) (v := v) (p := p) (ldB t v b (t 0 6) p)
  omega
theorem tmB_le (b : Nat → Nat) (n : Nat) : fu (tmF t v b) n 0 ≤ 99999 := fu_inv (I := fun c => c ≤ 99999) (fun p c hc => tmF_le hc) n (by decide)
end ODO
section M13d
variable {G : GG} {post : PT} {mi : MI} {ml : ML} {mr : MR} {dom : List Nat} {M : Nat} {t : TW} {v b : Nat → Nat}
theorem m_minutesBy (hX : XM mr) (hM : MM M) (hY : XT mr M) (hTn : mr 1000 3 = some M) (hg : GB t) (hW : WT t) (hR : RM mi M t) (hV : VM mi t v) (hby : (∀ g, g < 5 → mi 1007 g = nI (b g))) (hok : okB t v b) (htk : (∀ q s, q < t 0 5 → s < 32 → mi 1006 (32 * q + s) = nI (tk t v q s))) (hp : ∀ m : MI, off1 1009 m mi → post (some (.int (nI (tmB t v b)))) m ml mr dom) : CT G 2 0 0 yX13_minutesBy cX13_minutesBy 3 (some .int) [.ref 1000] mi ml mr dom post := by
  have w := hW.1
  have hge := hM.ge
  refine enter 2 (by decide) rfl rfl (fun X => ?_)
  refine j_iconst (v := nI 0) dX13_minutesBy_0 (by decide) ?_
  refine j_istore_n (lv2 := [_, _, _]) dX13_minutesBy_1 rfl (by decide) rfl rfl ?_
  refine j_iconst (v := nI 0) dX13_minutesBy_2 (by decide) ?_
  refine j_istore_n (lv2 := [_, _, _]) dX13_minutesBy_3 rfl (by decide) rfl rfl ?_
  skip
  have keyb : ∀ m : MI, off1 1009 m mi → (∀ q, q < t 0 5 → m 1009 q = nI (ldB t v b 0 q)) → J cX13_minutesBy 3 yX13_minutesBy.cls yX13_minutesBy.name (some .int) 2 G X post 0 0 m ml mr dom 30 [some (.ref 1000), some (.int (nI 0)), some (.int (nI 0))] [] := by
    refine lq (n := t 0 6) (H := fun g => ∀ m : MI, off1 1009 m mi → (∀ q, q < t 0 5 → m 1009 q = nI (ldB t v b g q)) → J cX13_minutesBy 3 yX13_minutesBy.cls yX13_minutesBy.name (some .int) 2 G X post 0 0 m ml mr dom 30 [some (.ref 1000), some (.int (nI 0)), some (.int (nI g))] []) (fun m hm hz => ?_) (fun g hg6 ih m hm hz => ?_)
    · have hRm : RM m M t := RM_lo hM (fun n hn => by rw [hm n (by omega)]) hR
      have hVm : VM m t v := VM_off (by rw [hm 1002 (by decide)]) hV
      refine j_iload_n dX13_minutesBy_30 rfl rfl ?_
      refine j_aload_n dX13_minutesBy_31 rfl rfl ?_
      refine gR13_335 rfl dX13_minutesBy_32 hTn ?_
      refine gI13_288 (kM0 hM) dX13_minutesBy_35 ?_
      rw [hRm.1 6 (by decide)]
      refine j_icmp_ge (tgt := 72) dX13_minutesBy_38 (by decide) (fun h38 => ?_) (fun h38 => by exfalso; rw [nI_leI (by have := hg 0 6; omega) (by have := hg 0 6; omega)] at h38; have := hg 0 6; omega)
      refine j_iconst (v := nI 0) dX13_minutesBy_72 (by decide) ?_
      refine j_istore_n (lv2 := [_, _, _]) dX13_minutesBy_73 rfl (by decide) rfl rfl ?_
      refine lq (n := t 0 5) (H := fun p => J cX13_minutesBy 3 yX13_minutesBy.cls yX13_minutesBy.name (some .int) 2 G X post 0 0 m ml mr dom 74 [some (.ref 1000), some (.int (nI (fu (tmF t v b) p 0))), some (.int (nI p))] []) ?_ (fun p hp5 ih => ?_)
      · skip
        refine j_iload_n dX13_minutesBy_74 rfl rfl ?_
        refine j_aload_n dX13_minutesBy_75 rfl rfl ?_
        refine gR13_335 rfl dX13_minutesBy_76 hTn ?_
        refine gI13_199 (kM0 hM) dX13_minutesBy_79 ?_
        rw [hRm.1 5 (by decide)]
        refine j_icmp_ge (tgt := 128) dX13_minutesBy_82 (by decide) (fun h82 => ?_) (fun h82 => by exfalso; rw [nI_leI (by have := hg 0 5; omega) (by have := hg 0 5; omega)] at h82; have := hg 0 5; omega)
        refine j_iload_n dX13_minutesBy_128 rfl rfl ?_
        refine j_iret rfl dX13_minutesBy_129 ?_
        exact hp m hm
      · skip
        refine j_iload_n dX13_minutesBy_74 rfl rfl ?_
        refine j_aload_n dX13_minutesBy_75 rfl rfl ?_
        refine gR13_335 rfl dX13_minutesBy_76 hTn ?_
        refine gI13_199 (kM0 hM) dX13_minutesBy_79 ?_
        rw [hRm.1 5 (by decide)]
        refine j_icmp_ge (tgt := 128) dX13_minutesBy_82 (by decide) (fun h82 => by exfalso; rw [nI_leI (by have := hg 0 5; omega) (by omega)] at h82; have := hg 0 5; omega) (fun h82 => ?_)
        refine j_aload_n dX13_minutesBy_85 rfl rfl ?_
        refine gR13_30 rfl dX13_minutesBy_86 (x1006 hX) ?_
        refine j_bipush (v := nI 32) dX13_minutesBy_89 (by decide) ?_
        refine j_iload_n dX13_minutesBy_91 rfl rfl ?_
        refine j_imul dX13_minutesBy_92 ?_
        rw [pk_mul]
        refine j_aload_n dX13_minutesBy_93 rfl rfl ?_
        refine gR13_39 rfl dX13_minutesBy_94 (x1009 hX) ?_
        refine j_iload_n dX13_minutesBy_97 rfl rfl ?_
        refine j_iald rfl (inT (show ln 1009 = 6 from rfl) (by show p < 6; omega) (by decide)) dX13_minutesBy_98 ?_
        rw [nI_clamp (by omega), hz p (by omega)]
        refine j_iadd dX13_minutesBy_99 ?_
        rw [nI_add]
        refine j_iald rfl (inT (show ln 1006 = 192 from rfl) (by have := ldB_32 (t := t) (v := v) b p (show t 0 6 ≤ 5 by omega); show (32 * p) + (ldB t v b (t 0 6) p) < 192; omega) (by decide)) dX13_minutesBy_100 ?_
        rw [nI_clamp (by have := ldB_32 (t := t) (v := v) b p (show t 0 6 ≤ 5 by omega); omega), hm 1006 (by decide), htk p _ (by omega) (ldB_32 b p (by omega))]
        refine j_iload_n dX13_minutesBy_101 rfl rfl ?_
        refine j_icmp_le (tgt := 122) dX13_minutesBy_102 (by decide) (fun h102 => ?_) (fun h102 => ?_)
        all_goals rw [nI_leI (by have := tk_le (t := t) (v := v) (p := p) (ldB t v b (t 0 6) p); omega) (by have := tmB_le (t := t) (v := v) b p; omega)] at h102
        · refine j_iinc1 (lv2 := [_, _, _]) dX13_minutesBy_122 rfl (by decide) rfl rfl ?_
          rw [nI_1]
          refine j_goto (tgt := 74) dX13_minutesBy_125 (by decide) ?_
          have c1 : fu (tmF t v b) (p + 1) 0 = fu (tmF t v b) p 0 := Nat.max_eq_left (show tk t v p (ldB t v b (t 0 6) p) ≤ _ by omega)
          rw [c1] at ih
          exact ih
        · refine j_aload_n dX13_minutesBy_105 rfl rfl ?_
          refine gR13_30 rfl dX13_minutesBy_106 (x1006 hX) ?_
          refine j_bipush (v := nI 32) dX13_minutesBy_109 (by decide) ?_
          refine j_iload_n dX13_minutesBy_111 rfl rfl ?_
          refine j_imul dX13_minutesBy_112 ?_
          rw [pk_mul]
          refine j_aload_n dX13_minutesBy_113 rfl rfl ?_
          refine gR13_39 rfl dX13_minutesBy_114 (x1009 hX) ?_
          refine j_iload_n dX13_minutesBy_117 rfl rfl ?_
          refine j_iald rfl (inT (show ln 1009 = 6 from rfl) (by show p < 6; omega) (by decide)) dX13_minutesBy_118 ?_
          rw [nI_clamp (by omega), hz p (by omega)]
          refine j_iadd dX13_minutesBy_119 ?_
          rw [nI_add]
          refine j_iald rfl (inT (show ln 1006 = 192 from rfl) (by have := ldB_32 (t := t) (v := v) b p (show t 0 6 ≤ 5 by omega); show (32 * p) + (ldB t v b (t 0 6) p) < 192; omega) (by decide)) dX13_minutesBy_120 ?_
          rw [nI_clamp (by have := ldB_32 (t := t) (v := v) b p (show t 0 6 ≤ 5 by omega); omega), hm 1006 (by decide), htk p _ (by omega) (ldB_32 b p (by omega))]
          refine j_istore_n (lv2 := [_, _, _]) dX13_minutesBy_121 rfl (by decide) rfl rfl ?_
          refine j_iinc1 (lv2 := [_, _, _]) dX13_minutesBy_122 rfl (by decide) rfl rfl ?_
          rw [nI_1]
          refine j_goto (tgt := 74) dX13_minutesBy_125 (by decide) ?_
          have c1 : fu (tmF t v b) (p + 1) 0 = tk t v p (ldB t v b (t 0 6) p) := Nat.max_eq_right (show fu (tmF t v b) p 0 ≤ _ by omega)
          rw [c1] at ih
          exact ih
    · have hRm : RM m M t := RM_lo hM (fun n hn => by rw [hm n (by omega)]) hR
      have hVm : VM m t v := VM_off (by rw [hm 1002 (by decide)]) hV
      refine j_iload_n dX13_minutesBy_30 rfl rfl ?_
      refine j_aload_n dX13_minutesBy_31 rfl rfl ?_
      refine gR13_335 rfl dX13_minutesBy_32 hTn ?_
      refine gI13_288 (kM0 hM) dX13_minutesBy_35 ?_
      rw [hRm.1 6 (by decide)]
      refine j_icmp_ge (tgt := 72) dX13_minutesBy_38 (by decide) (fun h38 => by exfalso; rw [nI_leI (by have := hg 0 6; omega) (by omega)] at h38; have := hg 0 6; omega) (fun h38 => ?_)
      refine j_aload_n dX13_minutesBy_41 rfl rfl ?_
      refine j_iload_n dX13_minutesBy_42 rfl rfl ?_
      refine cV13_432 (d1 := 1) rfl dX13_minutesBy_43 (by decide) (Nat.le_of_ble_eq_true rfl) ?_
      refine m_mustGo hX hM hY hTn hg hW hRm hVm (by omega) ?_
      refine j_if_eq (tgt := 66) dX13_minutesBy_46 (by decide) (fun h46 => ?_) (fun h46 => ?_)
      all_goals rw [bN_eq0] at h46
      · refine j_iinc1 (lv2 := [_, _, _]) dX13_minutesBy_66 rfl (by decide) rfl rfl ?_
        rw [nI_1]
        refine j_goto (tgt := 30) dX13_minutesBy_69 (by decide) ?_
        refine ih m hm (fun q hq => ?_)
        rw [hz q hq]
        have c1 : ldB t v b (g + 1) q = ldB t v b g q := ldB_f (fun y => by rw [h46] at y; cases y)
        rw [c1]
      · have hmg := Bool.not_eq_false _ |>.mp h46
        have hbg := hok g (by omega) hmg
        refine j_aload_n dX13_minutesBy_49 rfl rfl ?_
        refine gR13_39 rfl dX13_minutesBy_50 (x1009 hX) ?_
        refine j_aload_n dX13_minutesBy_53 rfl rfl ?_
        refine gR13_33 rfl dX13_minutesBy_54 (x1007 hX) ?_
        refine j_iload_n dX13_minutesBy_57 rfl rfl ?_
        refine j_iald rfl (inT (show ln 1007 = 5 from rfl) (by show g < 5; omega) (by decide)) dX13_minutesBy_58 ?_
        rw [nI_clamp (by omega), hm 1007 (by decide), hby g (by omega)]
        refine j_dup2 dX13_minutesBy_59 rfl rfl ?_
        refine j_iald rfl (inT (show ln 1009 = 6 from rfl) (by show b g < 6; omega) (by decide)) dX13_minutesBy_60 ?_
        rw [nI_clamp (by omega), hz (b g) (by omega)]
        refine j_iconst (v := nI 1) dX13_minutesBy_61 (by decide) ?_
        refine j_iload_n dX13_minutesBy_62 rfl rfl ?_
        refine j_ishl dX13_minutesBy_63 ?_
        refine j_ior dX13_minutesBy_64 ?_
        rw [bit_or _ (by have := ldB_32 (t := t) (v := v) b (b g) (show g ≤ 5 by omega); show ldB t v b g (b g) < 256; omega) _ (by show g < 8; omega)]
        refine j_iast rfl (inT (show ln 1009 = 6 from rfl) (by show b g < 6; omega) (by decide)) dX13_minutesBy_65 ?_
        rw [nI_clamp (by omega)]
        refine j_iinc1 (lv2 := [_, _, _]) dX13_minutesBy_66 rfl (by decide) rfl rfl ?_
        rw [nI_1]
        refine j_goto (tgt := 30) dX13_minutesBy_69 (by decide) ?_
        refine ih _ (fun z hz => by rw [up_off _ _ hz]; exact hm z hz) (fun q hq => ?_)
        by_cases e : q = b g
        · subst e; rw [up_at]
          have c1 : ldB t v b (g + 1) (b g) = ldB t v b g (b g) ||| 2 ^ g := ldB_t (by rw [hmg, decide_eq_true rfl]; rfl)
          rw [c1]
        · rw [up_ne _ _ e, hz q hq]
          have c1 : ldB t v b (g + 1) q = ldB t v b g q := ldB_f (fun y => by rw [Bool.and_eq_true, decide_eq_true_eq] at y; exact e y.2.symm)
          rw [c1]
  have keya : ∀ m : MI, off1 1009 m mi → (∀ q, q < 0 → m 1009 q = nI 0) → J cX13_minutesBy 3 yX13_minutesBy.cls yX13_minutesBy.name (some .int) 2 G X post 0 0 m ml mr dom 4 [some (.ref 1000), some (.int (nI 0)), some (.int (nI 0))] [] := by
    refine lq (n := t 0 5) (H := fun p => ∀ m : MI, off1 1009 m mi → (∀ q, q < p → m 1009 q = nI 0) → J cX13_minutesBy 3 yX13_minutesBy.cls yX13_minutesBy.name (some .int) 2 G X post 0 0 m ml mr dom 4 [some (.ref 1000), some (.int (nI 0)), some (.int (nI p))] []) (fun m hm hz => ?_) (fun p hp5 ih m hm hz => ?_)
    · have hRm : RM m M t := RM_lo hM (fun n hn => by rw [hm n (by omega)]) hR
      have hVm : VM m t v := VM_off (by rw [hm 1002 (by decide)]) hV
      refine j_iload_n dX13_minutesBy_4 rfl rfl ?_
      refine j_aload_n dX13_minutesBy_5 rfl rfl ?_
      refine gR13_335 rfl dX13_minutesBy_6 hTn ?_
      refine gI13_199 (kM0 hM) dX13_minutesBy_9 ?_
      rw [hRm.1 5 (by decide)]
      refine j_icmp_ge (tgt := 28) dX13_minutesBy_12 (by decide) (fun h12 => ?_) (fun h12 => by exfalso; rw [nI_leI (by have := hg 0 5; omega) (by have := hg 0 5; omega)] at h12; have := hg 0 5; omega)
      refine j_iconst (v := nI 0) dX13_minutesBy_28 (by decide) ?_
      refine j_istore_n (lv2 := [_, _, _]) dX13_minutesBy_29 rfl (by decide) rfl rfl ?_
      exact keyb m hm (fun q hq => by rw [hz q hq]; rfl)
    · have hRm : RM m M t := RM_lo hM (fun n hn => by rw [hm n (by omega)]) hR
      have hVm : VM m t v := VM_off (by rw [hm 1002 (by decide)]) hV
      refine j_iload_n dX13_minutesBy_4 rfl rfl ?_
      refine j_aload_n dX13_minutesBy_5 rfl rfl ?_
      refine gR13_335 rfl dX13_minutesBy_6 hTn ?_
      refine gI13_199 (kM0 hM) dX13_minutesBy_9 ?_
      rw [hRm.1 5 (by decide)]
      refine j_icmp_ge (tgt := 28) dX13_minutesBy_12 (by decide) (fun h12 => by exfalso; rw [nI_leI (by have := hg 0 5; omega) (by omega)] at h12; have := hg 0 5; omega) (fun h12 => ?_)
      refine j_aload_n dX13_minutesBy_15 rfl rfl ?_
      refine gR13_39 rfl dX13_minutesBy_16 (x1009 hX) ?_
      refine j_iload_n dX13_minutesBy_19 rfl rfl ?_
      refine j_iconst (v := nI 0) dX13_minutesBy_20 (by decide) ?_
      refine j_iast rfl (inT (show ln 1009 = 6 from rfl) (by show p < 6; omega) (by decide)) dX13_minutesBy_21 ?_
      rw [nI_clamp (by omega)]
      refine j_iinc1 (lv2 := [_, _, _]) dX13_minutesBy_22 rfl (by decide) rfl rfl ?_
      rw [nI_1]
      refine j_goto (tgt := 4) dX13_minutesBy_25 (by decide) ?_
      refine ih _ (fun z hz => by rw [up_off _ _ hz]; exact hm z hz) (fun q hq => ?_)
      by_cases e : q = p
      · subst e; rw [up_at]
      · rw [up_ne _ _ e]; exact hz q (by omega)
  exact keya mi (fun _ _ => rfl) (fun q hq => absurd hq (by omega))
theorem nI_s1 (n : Nat) : nI (n + 1) - 1 = nI n := by
  rw [show (1 : Int32) = nI 1 from rfl, pk_sub (by omega)]; rfl
theorem m_nextBy (hX : XM mr) (hM : MM M) (hY : XT mr M) (hTn : mr 1000 3 = some M) (hg : GB t) (hW : WT t) (hR : RM mi M t) (hV : VM mi t v) (hby : (∀ g, g < 5 → mi 1007 g = nI (b g))) (hok : okB t v b) (hp1 : nbF t v (t 0 6) b = none → ∀ (b2 : Nat → Nat) (m2 : MI), off1 1007 m2 mi → (∀ g, g < 5 → m2 1007 g = nI (b2 g)) → post (some (.int 0)) m2 ml mr dom) (hp2 : ∀ b2, nbF t v (t 0 6) b = some b2 → ∀ m2 : MI, off1 1007 m2 mi → (∀ g, g < 5 → m2 1007 g = nI (b2 g)) → post (some (.int 1)) m2 ml mr dom) : CT G 2 0 0 yX13_nextBy cX13_nextBy 2 (some .boolean) [.ref 1000] mi ml mr dom post := by
  have w := hW.1
  have hge := hM.ge
  refine enter 1 (by decide) rfl rfl (fun X => ?_)
  have key : ∀ n, n ≤ t 0 6 → ∀ (b : Nat → Nat) (m : MI), off1 1007 m mi → (∀ g, g < 5 → m 1007 g = nI (b g)) → (∀ g, g < n → mgo t v g = true → b g < t 0 5) → (nbF t v n b = none → ∀ (b2 : Nat → Nat) (m2 : MI), off1 1007 m2 mi → (∀ g, g < 5 → m2 1007 g = nI (b2 g)) → post (some (.int 0)) m2 ml mr dom) → (∀ b2, nbF t v n b = some b2 → ∀ m2 : MI, off1 1007 m2 mi → (∀ g, g < 5 → m2 1007 g = nI (b2 g)) → post (some (.int 1)) m2 ml mr dom) → J cX13_nextBy 2 yX13_nextBy.cls yX13_nextBy.name (some .boolean) 2 G X post 0 0 m ml mr dom 10 [some (.ref 1000), some (.int (nI n - 1))] [] := by
    intro n
    induction n with
    | zero =>
      intro hn b m hm hby hlt h1 h2
      have hRm : RM m M t := RM_lo hM (fun n hn => by rw [hm n (by omega)]) hR
      have hVm : VM m t v := VM_off (by rw [hm 1002 (by decide)]) hV
      refine j_iload_n dX13_nextBy_10 rfl rfl ?_
      refine j_if_lt (tgt := 66) dX13_nextBy_11 (by decide) (fun h11 => ?_) (fun h11 => absurd (show (nI 0 - 1 : Int32) < 0 by decide) h11)
      refine j_iconst (v := nI 0) dX13_nextBy_66 (by decide) ?_
      refine j_zret rfl (by decide) dX13_nextBy_67 ?_
      exact h1 rfl b m hm hby
    | succ n ih =>
      intro hn b m hm hby hlt h1 h2
      have hRm : RM m M t := RM_lo hM (fun n hn => by rw [hm n (by omega)]) hR
      have hVm : VM m t v := VM_off (by rw [hm 1002 (by decide)]) hV
      rw [nI_s1]
      refine j_iload_n dX13_nextBy_10 rfl rfl ?_
      refine j_if_lt (tgt := 66) dX13_nextBy_11 (by decide) (fun h11 => absurd h11 (nI_pos (by omega))) (fun h11 => ?_)
      refine j_aload_n dX13_nextBy_14 rfl rfl ?_
      refine j_iload_n dX13_nextBy_15 rfl rfl ?_
      refine cV13_432 (d1 := 1) rfl dX13_nextBy_16 (by decide) (Nat.le_of_ble_eq_true rfl) ?_
      refine m_mustGo hX hM hY hTn hg hW hRm hVm (by omega) ?_
      refine j_if_ne (tgt := 25) dX13_nextBy_19 (by decide) (fun h19 => ?_) (fun h19 => ?_)
      all_goals rw [bN_eq0] at h19
      · have hbn := hlt n (by omega) (Bool.not_eq_false _ |>.mp h19)
        refine j_aload_n dX13_nextBy_25 rfl rfl ?_
        refine gR13_33 rfl dX13_nextBy_26 (x1007 hX) ?_
        refine j_iload_n dX13_nextBy_29 rfl rfl ?_
        refine j_dup2 dX13_nextBy_30 rfl rfl ?_
        refine j_iald rfl (inT (show ln 1007 = 5 from rfl) (by show n < 5; omega) (by decide)) dX13_nextBy_31 ?_
        rw [nI_clamp (by omega), hby n (by omega)]
        refine j_iconst (v := nI 1) dX13_nextBy_32 (by decide) ?_
        refine j_iadd dX13_nextBy_33 ?_
        rw [nI_add]
        refine j_iast rfl (inT (show ln 1007 = 5 from rfl) (by show n < 5; omega) (by decide)) dX13_nextBy_34 ?_
        rw [nI_clamp (by omega)]
        refine j_aload_n dX13_nextBy_35 rfl rfl ?_
        refine gR13_33 rfl dX13_nextBy_36 (x1007 hX) ?_
        refine j_iload_n dX13_nextBy_39 rfl rfl ?_
        refine j_iald rfl (inT (show ln 1007 = 5 from rfl) (by show n < 5; omega) (by decide)) dX13_nextBy_40 ?_
        rw [nI_clamp (by omega), up_at]
        refine j_aload_n dX13_nextBy_41 rfl rfl ?_
        refine gR13_335 rfl dX13_nextBy_42 hTn ?_
        refine gI13_199 (kM0 hM) dX13_nextBy_45 ?_
        rw [up_off _ _ (by omega), hRm.1 5 (by decide)]
        refine j_icmp_ge (tgt := 53) dX13_nextBy_48 (by decide) (fun h48 => ?_) (fun h48 => ?_)
        all_goals rw [nI_leI (by have := hg 0 5; omega) (by have := hbn; omega)] at h48
        · refine j_aload_n dX13_nextBy_53 rfl rfl ?_
          refine gR13_33 rfl dX13_nextBy_54 (x1007 hX) ?_
          refine j_iload_n dX13_nextBy_57 rfl rfl ?_
          refine j_iconst (v := nI 0) dX13_nextBy_58 (by decide) ?_
          refine j_iast rfl (inT (show ln 1007 = 5 from rfl) (by show n < 5; omega) (by decide)) dX13_nextBy_59 ?_
          rw [nI_clamp (by omega)]
          refine j_iincm (lv2 := [_, _]) dX13_nextBy_60 rfl (by decide) rfl rfl ?_
          refine j_goto (tgt := 10) dX13_nextBy_63 (by decide) ?_
          rw [nbF, if_pos (Bool.not_eq_false _ |>.mp h19), if_neg (by omega)] at h1 h2
          refine ih (by omega) (upN b n 0) _ (fun z hz => by rw [up_off _ _ hz, up_off _ _ hz]; exact hm z hz) (fun g hg5 => ?_) (fun g hgn hgm => ?_) h1 h2
          · by_cases e : g = n
            · subst e; rw [up_at, upN_at]
            · rw [up_ne _ _ e, up_ne _ _ e, upN_ne _ e]; exact hby g hg5
          · rw [upN_ne _ (by omega)]; exact hlt g (by omega) hgm
        · refine j_iconst (v := nI 1) dX13_nextBy_51 (by decide) ?_
          refine j_zret rfl (by decide) dX13_nextBy_52 ?_
          refine h2 (upN b n (b n + 1)) (by rw [nbF, if_pos (Bool.not_eq_false _ |>.mp h19), if_pos (by omega)]) _ (fun z hz => by rw [up_off _ _ hz]; exact hm z hz) (fun g hg5 => ?_)
          by_cases e : g = n
          · subst e; rw [up_at, upN_at]
          · rw [up_ne _ _ e, upN_ne _ e]; exact hby g hg5
      · refine j_goto (tgt := 60) dX13_nextBy_22 (by decide) ?_
        refine j_iincm (lv2 := [_, _]) dX13_nextBy_60 rfl (by decide) rfl rfl ?_
        refine j_goto (tgt := 10) dX13_nextBy_63 (by decide) ?_
        rw [nbF, if_neg (by rw [h19]; decide)] at h1 h2
        exact ih (by omega) b m hm hby (fun g hgn hgm => hlt g (by omega) hgm) h1 h2
  refine j_aload_n dX13_nextBy_0 rfl rfl ?_
  refine gR13_335 rfl dX13_nextBy_1 hTn ?_
  refine gI13_288 (kM0 hM) dX13_nextBy_4 ?_
  rw [hR.1 6 (by decide)]
  refine j_iconst (v := nI 1) dX13_nextBy_7 (by decide) ?_
  refine j_isub dX13_nextBy_8 ?_
  refine j_istore_n (lv2 := [_, _]) dX13_nextBy_9 rfl (by decide) rfl rfl ?_
  rw [show nI 1 = (1 : Int32) from rfl]
  exact key (t 0 6) (Nat.le_refl _) b mi (fun _ _ => rfl) hby hok hp1 hp2
theorem m_carriesA (hX : XM mr) (hM : MM M) (hY : XT mr M) (hTn : mr 1000 3 = some M) (hg : GB t) (hW : WT t) (hR : RM mi M t) (hV : VM mi t v) (hP : 0 < t 0 5) (hp : ∀ m : MI, (∀ z, z ≠ 1000 → z ≠ 1005 → z ≠ 1006 → z ≠ 1007 → z ≠ 1008 → z ≠ 1009 → m z = mi z) → (∀ j, j ≠ 26 → m 1000 j = mi 1000 j) → m 1000 26 = nI (enT t v (t 0 6) 0 (fun _ => 0) ((99999, fun _ => 0) : SB)).1 → (((enT t v (t 0 6) 0 (fun _ => 0) ((99999, fun _ => 0) : SB)).1 = 99999) ∨ ∀ g, g < 5 → m 1008 g = nI ((enT t v (t 0 6) 0 (fun _ => 0) ((99999, fun _ => 0) : SB)).2 g)) → (enT t v (t 0 6) 0 (fun _ => 0) ((99999, fun _ => 0) : SB)).1 ≤ 99999 → post none m ml mr dom) : CT G 5 0 0 yX13_carries cX13_carries 4 none [.ref 1000] mi ml mr dom post := by
  have w := hW.1
  have hge := hM.ge
  refine enter 3 (by decide) rfl rfl (fun X => ?_)
  have keyo : ∀ m : MI, (∀ z, z ≠ 1000 → z ≠ 1005 → z ≠ 1006 → z ≠ 1007 → z ≠ 1008 → z ≠ 1009 → m z = mi z) → (∀ j, j ≠ 26 → m 1000 j = mi 1000 j) → (∀ q s, q < t 0 5 → s < 32 → m 1006 (32 * q + s) = nI (tk t v q s)) → (∀ g, g < 5 → m 1007 g = nI ((fun _ => 0) g)) → m 1000 26 = nI ((99999, fun _ => 0) : SB).1 → ((((99999, fun _ => 0) : SB).1 = 99999) ∨ ∀ g, g < 5 → m 1008 g = nI (((99999, fun _ => 0) : SB).2 g)) → ((99999, fun _ => 0) : SB).1 ≤ 99999 → ∀ z2 z3 : Option Value, J cX13_carries 4 yX13_carries.cls yX13_carries.name none 5 G X post 0 0 m ml mr dom 33 [some (.ref 1000), some (.int (nI 1)), z2, z3] [] := by
    refine odo (t := t) (v := v) (H := fun b S => ∀ m : MI, (∀ z, z ≠ 1000 → z ≠ 1005 → z ≠ 1006 → z ≠ 1007 → z ≠ 1008 → z ≠ 1009 → m z = mi z) → (∀ j, j ≠ 26 → m 1000 j = mi 1000 j) → (∀ q s, q < t 0 5 → s < 32 → m 1006 (32 * q + s) = nI (tk t v q s)) → (∀ g, g < 5 → m 1007 g = nI (b g)) → m 1000 26 = nI S.1 → ((S.1 = 99999) ∨ ∀ g, g < 5 → m 1008 g = nI (S.2 g)) → S.1 ≤ 99999 → ∀ z2 z3 : Option Value, J cX13_carries 4 yX13_carries.cls yX13_carries.name none 5 G X post 0 0 m ml mr dom 33 [some (.ref 1000), some (.int (nI 1)), z2, z3] []) (X := fun S => ∀ m : MI, (∀ z, z ≠ 1000 → z ≠ 1005 → z ≠ 1006 → z ≠ 1007 → z ≠ 1008 → z ≠ 1009 → m z = mi z) → (∀ j, j ≠ 26 → m 1000 j = mi 1000 j) → m 1000 26 = nI S.1 → ((S.1 = 99999) ∨ ∀ g, g < 5 → m 1008 g = nI (S.2 g)) → S.1 ≤ 99999 → ∀ z2 z3 : Option Value, J cX13_carries 4 yX13_carries.cls yX13_carries.name none 5 G X post 0 0 m ml mr dom 33 [some (.ref 1000), some (.int (nI 0)), z2, z3] []) hP (fun b S hok hN hS m hm hJ ht hby hc hs hl z2 z3 => ?_) (t 0 6) 0 (Nat.zero_add _) (fun _ => 0) ((99999, fun _ => 0) : SB) (fun g _ _ => hP) (fun _ _ => rfl) (fun _ m hm hJ hc hs hl z2 z3 => ?_) (fun b' q => by cases q)
    · have hRm : RM m M t := RM_lo hM (fun n hn => by rw [hm n (by omega) (by omega) (by omega) (by omega) (by omega) (by omega)]) hR
      have hVm : VM m t v := VM_off (by rw [hm 1002 (by decide) (by decide) (by decide) (by decide) (by decide) (by decide)]) hV
      refine j_iload_n dX13_carries_33 rfl rfl ?_
      refine j_if_eq (tgt := 88) dX13_carries_34 (by decide) (fun h34 => absurd h34 (by decide)) (fun h34 => ?_)
      refine j_aload_n dX13_carries_37 rfl rfl ?_
      refine cV13_426 (d1 := 2) rfl dX13_carries_38 (by decide) (Nat.le_of_ble_eq_true rfl) ?_
      refine m_minutesBy (b := b) hX hM hY hTn hg hW hRm hVm hby hok ht (fun m2 hm2 => ?_)
      have htb := tmB_le (t := t) (v := v) b (t 0 5)
      rw [show fu (tmF t v b) (t 0 5) 0 = tmB t v b from rfl] at htb
      refine j_istore_n (lv2 := [_, _, _, _]) dX13_carries_41 rfl (by decide) rfl rfl ?_
      refine j_iload_n dX13_carries_42 rfl rfl ?_
      refine j_aload_n dX13_carries_43 rfl rfl ?_
      refine gI13_423 rfl dX13_carries_44 ?_
      rw [hm2 1000 (by decide), hc]
      refine j_icmp_ge (tgt := 80) dX13_carries_47 (by decide) (fun h47 => ?_) (fun h47 => ?_)
      all_goals rw [nI_leI (by have := hl; omega) (by have := htb; omega)] at h47
      · have hev : evB t v b S = S := if_neg (by omega)
        rw [hev] at hN hS
        obtain ⟨m4, em4⟩ : ∃ m4, m4 = m2 := ⟨_, rfl⟩
        rw [← em4]
        rw [← em4] at hm2
        have hA : ∀ z, z ≠ 1000 → z ≠ 1005 → z ≠ 1006 → z ≠ 1007 → z ≠ 1008 → z ≠ 1009 → m4 z = mi z := fun z y0 y5 y6 y7 y8 y9 => by rw [hm2 z y9]; exact hm z y0 y5 y6 y7 y8 y9
        have hJ4 : ∀ j, j ≠ 26 → m4 1000 j = mi 1000 j := fun j hj => by rw [hm2 1000 (by decide)]; exact hJ j hj
        have ht4 : ∀ q s, q < t 0 5 → s < 32 → m4 1006 (32 * q + s) = nI (tk t v q s) := fun q s y1 y2 => by rw [hm2 1006 (by decide)]; exact ht q s y1 y2
        have hb4 : (∀ g, g < 5 → m4 1007 g = nI (b g)) := fun g hg5 => by rw [hm2 1007 (by decide)]; exact hby g hg5
        have hc4 : m4 1000 26 = nI S.1 := by rw [hm2 1000 (by decide)]; exact hc
        have hs4 : (S.1 = 99999) ∨ ∀ g, g < 5 → m4 1008 g = nI (S.2 g) := by rw [hm2 1008 (by decide)]; exact hs
        have hl4 : S.1 ≤ 99999 := hl
        refine j_aload_n dX13_carries_80 rfl rfl ?_
        refine cV13_429 (d1 := 2) rfl dX13_carries_81 (by decide) (Nat.le_of_ble_eq_true rfl) ?_
        have hRn : RM m4 M t := RM_lo hM (fun n hn => by rw [hA n (by omega) (by omega) (by omega) (by omega) (by omega) (by omega)]) hR
        have hVn : VM m4 t v := VM_off (by rw [hA 1002 (by decide) (by decide) (by decide) (by decide) (by decide) (by decide)]) hV
        refine m_nextBy (b := b) hX hM hY hTn hg hW hRn hVn hb4 hok (fun q b2 m5 hm5 hb5 => ?_) (fun b2 q m5 hm5 hb5 => ?_)
        · skip
          refine j_istore_n (lv2 := [_, _, _, _]) dX13_carries_84 rfl (by decide) rfl rfl ?_
          refine j_goto (tgt := 33) dX13_carries_85 (by decide) ?_
          exact hN q m5 (fun z y0 y5 y6 y7 y8 y9 => by rw [hm5 z y7]; exact hA z y0 y5 y6 y7 y8 y9) (fun j hj => by rw [hm5 1000 (by decide)]; exact hJ4 j hj) (by rw [hm5 1000 (by decide)]; exact hc4) (by rw [hm5 1008 (by decide)]; exact hs4) hl4 _ _
        · skip
          refine j_istore_n (lv2 := [_, _, _, _]) dX13_carries_84 rfl (by decide) rfl rfl ?_
          refine j_goto (tgt := 33) dX13_carries_85 (by decide) ?_
          exact hS b2 q m5 (fun z y0 y5 y6 y7 y8 y9 => by rw [hm5 z y7]; exact hA z y0 y5 y6 y7 y8 y9) (fun j hj => by rw [hm5 1000 (by decide)]; exact hJ4 j hj) (fun q s y1 y2 => by rw [hm5 1006 (by decide)]; exact ht4 q s y1 y2) hb5 (by rw [hm5 1000 (by decide)]; exact hc4) (by rw [hm5 1008 (by decide)]; exact hs4) hl4 _ _
      · refine j_aload_n dX13_carries_50 rfl rfl ?_
        refine j_iload_n dX13_carries_51 rfl rfl ?_
        refine pI13_423 rfl dX13_carries_52 ?_
        refine j_iconst (v := nI 0) dX13_carries_55 (by decide) ?_
        refine j_istore_n (lv2 := [_, _, _, _]) dX13_carries_56 rfl (by decide) rfl rfl ?_
        have keyc : ∀ m3 : MI, off1 1008 m3 (up m2 1000 26 (nI (tmB t v b))) → (∀ x, x < 0 → m3 1008 x = nI (b x)) → J cX13_carries 4 yX13_carries.cls yX13_carries.name none 5 G X post 0 0 m3 ml mr dom 57 [some (.ref 1000), some (.int (nI 1)), some (.int (nI (tmB t v b))), some (.int (nI 0))] [] := by
          refine lq (n := 5) (H := fun g => ∀ m3 : MI, off1 1008 m3 (up m2 1000 26 (nI (tmB t v b))) → (∀ x, x < g → m3 1008 x = nI (b x)) → J cX13_carries 4 yX13_carries.cls yX13_carries.name none 5 G X post 0 0 m3 ml mr dom 57 [some (.ref 1000), some (.int (nI 1)), some (.int (nI (tmB t v b))), some (.int (nI g))] []) (fun m3 hm3 hcp => ?_) (fun g hg5 ihx m3 hm3 hcp => ?_)
          · skip
            refine j_iload_n dX13_carries_57 rfl rfl ?_
            refine j_iconst (v := nI 5) dX13_carries_58 (by decide) ?_
            refine j_icmp_ge (tgt := 80) dX13_carries_59 (by decide) (fun h59 => ?_) (fun h59 => by exfalso; rw [nI_leI (by omega) (by omega)] at h59; omega)
            have hev : evB t v b S = (tmB t v b, b) := if_pos (by omega)
            rw [hev] at hN hS
            obtain ⟨m4, em4⟩ : ∃ m4, m4 = m3 := ⟨_, rfl⟩
            rw [← em4]
            rw [← em4] at hm3 hcp
            have hA : ∀ z, z ≠ 1000 → z ≠ 1005 → z ≠ 1006 → z ≠ 1007 → z ≠ 1008 → z ≠ 1009 → m4 z = mi z := fun z y0 y5 y6 y7 y8 y9 => by rw [hm3 z y8, up_off _ _ y0, hm2 z y9]; exact hm z y0 y5 y6 y7 y8 y9
            have hJ4 : ∀ j, j ≠ 26 → m4 1000 j = mi 1000 j := fun j hj => by rw [hm3 1000 (by decide), up_ne _ _ hj, hm2 1000 (by decide)]; exact hJ j hj
            have ht4 : ∀ q s, q < t 0 5 → s < 32 → m4 1006 (32 * q + s) = nI (tk t v q s) := fun q s y1 y2 => by rw [hm3 1006 (by decide), up_off _ _ (by decide), hm2 1006 (by decide)]; exact ht q s y1 y2
            have hb4 : (∀ g, g < 5 → m4 1007 g = nI (b g)) := fun g hg5 => by rw [hm3 1007 (by decide), up_off _ _ (by decide), hm2 1007 (by decide)]; exact hby g hg5
            have hc4 : m4 1000 26 = nI (tmB t v b) := by rw [hm3 1000 (by decide), up_at]
            have hs4 : (tmB t v b = 99999) ∨ ∀ g, g < 5 → m4 1008 g = nI (b g) := Or.inr (fun g hg5 => hcp g hg5)
            have hl4 : tmB t v b ≤ 99999 := tmB_le b (t 0 5)
            refine j_aload_n dX13_carries_80 rfl rfl ?_
            refine cV13_429 (d1 := 2) rfl dX13_carries_81 (by decide) (Nat.le_of_ble_eq_true rfl) ?_
            have hRn : RM m4 M t := RM_lo hM (fun n hn => by rw [hA n (by omega) (by omega) (by omega) (by omega) (by omega) (by omega)]) hR
            have hVn : VM m4 t v := VM_off (by rw [hA 1002 (by decide) (by decide) (by decide) (by decide) (by decide) (by decide)]) hV
            refine m_nextBy (b := b) hX hM hY hTn hg hW hRn hVn hb4 hok (fun q b2 m5 hm5 hb5 => ?_) (fun b2 q m5 hm5 hb5 => ?_)
            · skip
              refine j_istore_n (lv2 := [_, _, _, _]) dX13_carries_84 rfl (by decide) rfl rfl ?_
              refine j_goto (tgt := 33) dX13_carries_85 (by decide) ?_
              exact hN q m5 (fun z y0 y5 y6 y7 y8 y9 => by rw [hm5 z y7]; exact hA z y0 y5 y6 y7 y8 y9) (fun j hj => by rw [hm5 1000 (by decide)]; exact hJ4 j hj) (by rw [hm5 1000 (by decide)]; exact hc4) (by rw [hm5 1008 (by decide)]; exact hs4) hl4 _ _
            · skip
              refine j_istore_n (lv2 := [_, _, _, _]) dX13_carries_84 rfl (by decide) rfl rfl ?_
              refine j_goto (tgt := 33) dX13_carries_85 (by decide) ?_
              exact hS b2 q m5 (fun z y0 y5 y6 y7 y8 y9 => by rw [hm5 z y7]; exact hA z y0 y5 y6 y7 y8 y9) (fun j hj => by rw [hm5 1000 (by decide)]; exact hJ4 j hj) (fun q s y1 y2 => by rw [hm5 1006 (by decide)]; exact ht4 q s y1 y2) hb5 (by rw [hm5 1000 (by decide)]; exact hc4) (by rw [hm5 1008 (by decide)]; exact hs4) hl4 _ _
          · skip
            refine j_iload_n dX13_carries_57 rfl rfl ?_
            refine j_iconst (v := nI 5) dX13_carries_58 (by decide) ?_
            refine j_icmp_ge (tgt := 80) dX13_carries_59 (by decide) (fun h59 => by exfalso; rw [nI_leI (by omega) (by omega)] at h59; omega) (fun h59 => ?_)
            refine j_aload_n dX13_carries_62 rfl rfl ?_
            refine gR13_36 rfl dX13_carries_63 (x1008 hX) ?_
            refine j_iload_n dX13_carries_66 rfl rfl ?_
            refine j_aload_n dX13_carries_67 rfl rfl ?_
            refine gR13_33 rfl dX13_carries_68 (x1007 hX) ?_
            refine j_iload_n dX13_carries_71 rfl rfl ?_
            refine j_iald rfl (inT (show ln 1007 = 5 from rfl) (by show g < 5; omega) (by decide)) dX13_carries_72 ?_
            rw [nI_clamp (by omega), hm3 1007 (by decide), up_off _ _ (by decide), hm2 1007 (by decide), hby g (by omega)]
            refine j_iast rfl (inT (show ln 1008 = 5 from rfl) (by show g < 5; omega) (by decide)) dX13_carries_73 ?_
            rw [nI_clamp (by omega)]
            refine j_iinc1 (lv2 := [_, _, _, _]) dX13_carries_74 rfl (by decide) rfl rfl ?_
            rw [nI_1]
            refine j_goto (tgt := 57) dX13_carries_77 (by decide) ?_
            refine ihx _ (fun z hz => by rw [up_off _ _ hz]; exact hm3 z hz) (fun x hx => ?_)
            by_cases e : x = g
            · subst e; rw [up_at]
            · rw [up_ne _ _ e]; exact hcp x (by omega)
        exact keyc _ (fun _ _ => rfl) (fun x hx => absurd hx (by omega))
    · skip
      refine j_iload_n dX13_carries_33 rfl rfl ?_
      refine j_if_eq (tgt := 88) dX13_carries_34 (by decide) (fun h34 => ?_) (fun h34 => absurd (by decide) h34)
      refine j_vret rfl dX13_carries_88 ?_
      exact hp m hm hJ hc hs hl
  refine j_aload_n dX13_carries_0 rfl rfl ?_
  refine cV13_420 (d1 := 4) rfl dX13_carries_1 (by decide) (Nat.le_of_ble_eq_true rfl) ?_
  refine m_laysTakes hX hM hY hTn hg hW hR hV (fun m0 hm0 ht0 => ?_)
  refine j_aload_n dX13_carries_4 rfl rfl ?_
  refine j_ldcw wd1913 dX13_carries_5 ?_
  rw [show (99999 : Int32) = nI 99999 from rfl]
  refine pI13_423 rfl dX13_carries_8 ?_
  obtain ⟨m1, em1⟩ : ∃ m1, m1 = up m0 1000 26 (nI 99999) := ⟨_, rfl⟩
  rw [← em1]
  refine j_iconst (v := nI 0) dX13_carries_11 (by decide) ?_
  refine j_istore_n (lv2 := [_, _, _, _]) dX13_carries_12 rfl (by decide) rfl rfl ?_
  skip
  have keyz : ∀ m : MI, off1 1007 m m1 → (∀ x, x < 0 → m 1007 x = nI 0) → J cX13_carries 4 yX13_carries.cls yX13_carries.name none 5 G X post 0 0 m ml mr dom 13 [some (.ref 1000), some (.int (nI 0)), none, none] [] := by
    refine lq (n := 5) (H := fun g => ∀ m : MI, off1 1007 m m1 → (∀ x, x < g → m 1007 x = nI 0) → J cX13_carries 4 yX13_carries.cls yX13_carries.name none 5 G X post 0 0 m ml mr dom 13 [some (.ref 1000), some (.int (nI g)), none, none] []) (fun m hmz hz0 => ?_) (fun g hg5 ihz m hmz hz0 => ?_)
    · skip
      refine j_iload_n dX13_carries_13 rfl rfl ?_
      refine j_iconst (v := nI 5) dX13_carries_14 (by decide) ?_
      refine j_icmp_ge (tgt := 31) dX13_carries_15 (by decide) (fun h15 => ?_) (fun h15 => by exfalso; rw [nI_leI (by omega) (by omega)] at h15; omega)
      refine j_iconst (v := nI 1) dX13_carries_31 (by decide) ?_
      refine j_istore_n (lv2 := [_, _, _, _]) dX13_carries_32 rfl (by decide) rfl rfl ?_
      have hm' : ∀ z, z ≠ 1000 → z ≠ 1005 → z ≠ 1006 → z ≠ 1007 → z ≠ 1008 → z ≠ 1009 → m z = mi z := fun z y0 y5 y6 y7 y8 y9 => by rw [hmz z y7, em1, up_off _ _ y0]; exact hm0 z y5 y6
      exact keyo m hm' (fun j hj => by rw [hmz 1000 (by decide), em1, up_ne _ _ hj, hm0 1000 (by decide) (by decide)]) (fun q s y1 y2 => by rw [hmz 1006 (by decide), em1, up_off _ _ (by decide)]; exact ht0 q s y1 y2) (fun g hg5 => hz0 g hg5) (by rw [hmz 1000 (by decide), em1, up_at]) (Or.inl rfl) (Nat.le_refl _) none none
    · skip
      refine j_iload_n dX13_carries_13 rfl rfl ?_
      refine j_iconst (v := nI 5) dX13_carries_14 (by decide) ?_
      refine j_icmp_ge (tgt := 31) dX13_carries_15 (by decide) (fun h15 => by exfalso; rw [nI_leI (by omega) (by omega)] at h15; omega) (fun h15 => ?_)
      refine j_aload_n dX13_carries_18 rfl rfl ?_
      refine gR13_33 rfl dX13_carries_19 (x1007 hX) ?_
      refine j_iload_n dX13_carries_22 rfl rfl ?_
      refine j_iconst (v := nI 0) dX13_carries_23 (by decide) ?_
      refine j_iast rfl (inT (show ln 1007 = 5 from rfl) (by show g < 5; omega) (by decide)) dX13_carries_24 ?_
      rw [nI_clamp (by omega)]
      refine j_iinc1 (lv2 := [_, _, _, _]) dX13_carries_25 rfl (by decide) rfl rfl ?_
      rw [nI_1]
      refine j_goto (tgt := 13) dX13_carries_28 (by decide) ?_
      refine ihz _ (fun z hz => by rw [up_off _ _ hz]; exact hmz z hz) (fun x hx => ?_)
      by_cases e : x = g
      · subst e; rw [up_at]
      · rw [up_ne _ _ e]; exact hz0 x (by omega)
  exact keyz m1 (fun _ _ => rfl) (fun x hx => absurd hx (by omega))
end M13d

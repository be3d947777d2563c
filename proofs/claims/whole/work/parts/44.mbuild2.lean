theorem tc_up_rel {α : Type} {R : α → α → Prop} (h0 : ∀ a, R a a) (ht : ∀ a b c, R a b → R b c → R a c) {f : Nat → α → α} (hf : ∀ j a, R a (f j a)) : ∀ (n j : Nat) (a : α), R a (tc_up f n j a)
  | 0, _, a => h0 a
  | n + 1, j, a => ht _ _ _ (hf j a) (tc_up_rel h0 ht hf n (j + 1) (f j a))
/-- all but 'built' is as it was -/
def tm_sb (τ ρ : tcS) : Prop := ρ.1 = τ.1 ∧ ρ.2.1 = τ.2.1 ∧ (∀ k, k ≠ 3 → ρ.2.2.1 k = τ.2.2.1 k) ∧ ρ.2.2.2 = τ.2.2.2
theorem tm_sb.rf {τ : tcS} : tm_sb τ τ := ⟨rfl, rfl, fun _ _ => rfl, rfl⟩
theorem tm_sb.tr {τ ρ κ : tcS} (h : tm_sb τ ρ) (k : tm_sb ρ κ) : tm_sb τ κ := ⟨k.1.trans h.1, k.2.1.trans h.2.1, fun j hj => (k.2.2.1 j hj).trans (h.2.2.1 j hj), k.2.2.2.trans h.2.2.2⟩
theorem tm_sb.put (τ : tcS) (f : Nat → Option Nat) : tm_sb τ (tc_s3 τ 3 f) := ⟨rfl, rfl, fun k hk => by
  show va_up τ.2.2.1 3 f k = _
  simp [va_up, hk], rfl⟩
theorem tm_sb.I {τ ρ : tcS} (h : tm_sb τ ρ) (hI : tm_I τ) : tm_I ρ := by
  unfold tm_I
  rw [h.1, h.2.1, h.2.2.1 0 (by omega), h.2.2.2]
  exact hI
def tm_clr (j : Nat) (ρ : tcS) : tcS := tc_s3 ρ 3 (va_up (ρ.2.2.1 3) j none)
def tm_set (t p : Nat) (ρ : tcS) : tcS := tc_s3 ρ 3 (va_up (ρ.2.2.1 3) (6 * t + p) (some 0))
def tm_bs (t p : Nat) (a : tcS × Bool) : tcS × Bool := if tm_bl a.1 t p = false ∧ tc_fit (a.1.1 1 t) (a.1.1 0 p) = true ∧ tm_miss a.1 t p = none then (tm_set t p a.1, true) else a
def tm_bt (t : Nat) (a : tcS × Bool) : tcS × Bool := tc_up (tm_bs t) (a.1.2.2.2 0) 0 a
def tm_bp (ρ : tcS) : tcS × Bool := tc_up tm_bt (ρ.2.2.2 1) 0 (ρ, false)
def tm_bd : Nat → tcS × Bool → tcS
  | 0, a => a.1
  | n + 1, a => if a.2 = true then tm_bd n (tm_bp a.1) else a.1
def tm_build (τ : tcS) : tcS := tm_bd 145 (tc_up tm_clr 144 0 τ, true)
def cz (f : Nat → Option Nat) : Nat → Nat
  | 0 => 0
  | n + 1 => cz f n + (if f n = none then 1 else 0)
theorem cz_le (f : Nat → Option Nat) : ∀ n, cz f n ≤ n
  | 0 => Nat.le_refl _
  | n + 1 => by
    have := cz_le f n
    unfold cz
    split <;> omega
theorem cz_up {f : Nat → Option Nat} {j v : Nat} : ∀ {n : Nat}, cz (va_up f j (some v)) n ≤ cz f n ∧ (j < n → f j = none → cz (va_up f j (some v)) n < cz f n)
  | 0 => ⟨Nat.le_refl _, fun h => absurd h (by omega)⟩
  | n + 1 => by
    obtain ⟨h1, h2⟩ := cz_up (f := f) (j := j) (v := v) (n := n)
    unfold cz
    by_cases e : n = j
    · subst e
      rw [if_neg (by simp [va_up])]
      refine ⟨by omega, fun _ h => ?_⟩
      rw [if_pos h]
      omega
    · have e2 : va_up f j (some v) n = f n := by simp [va_up, e]
      rw [e2]
      refine ⟨by omega, fun h3 h4 => ?_⟩
      have := h2 (by omega) h4
      omega
/-- how a walk over tools and platforms moves -/
def tm_mv (a b : tcS × Bool) : Prop := tm_sb a.1 b.1 ∧ cz (b.1.2.2.1 3) 144 ≤ cz (a.1.2.2.1 3) 144 ∧ (b.2 = true → a.2 = true ∨ cz (b.1.2.2.1 3) 144 < cz (a.1.2.2.1 3) 144)
theorem tm_mv.rf (a : tcS × Bool) : tm_mv a a := ⟨tm_sb.rf, Nat.le_refl _, Or.inl⟩
theorem tm_mv.tr (a b c : tcS × Bool) (h : tm_mv a b) (k : tm_mv b c) : tm_mv a c := ⟨h.1.tr k.1, Nat.le_trans k.2.1 h.2.1, fun q => by
  rcases k.2.2 q with q | q
  · rcases h.2.2 q with q | q
    · exact Or.inl q
    · exact Or.inr (Nat.lt_of_le_of_lt k.2.1 q)
  · exact Or.inr (Nat.lt_of_lt_of_le q h.2.1)⟩
theorem tm_bs_mv {t p : Nat} (h : 6 * t + p < 144) (a : tcS × Bool) : tm_mv a (tm_bs t p a) := by
  unfold tm_bs
  split
  · rename_i q
    have hn : a.1.2.2.1 3 (6 * t + p) = none := by
      cases e : a.1.2.2.1 3 (6 * t + p)
      · rfl
      · have := q.1
        unfold tm_bl at this
        rw [e] at this
        cases this
    have hc := cz_up (f := a.1.2.2.1 3) (j := 6 * t + p) (v := 0) (n := 144)
    exact ⟨tm_sb.put _ _, hc.1, fun _ => Or.inr (hc.2 h hn)⟩
  · exact tm_mv.rf a
theorem tm_bt_mv {t : Nat} (ht : t < 24) (a : tcS × Bool) (hP : a.1.2.2.2 0 ≤ 6) : ∀ (n p : Nat) (b : tcS × Bool), p + n ≤ 6 → tm_mv b (tc_up (tm_bs t) n p b)
  | 0, _, b, _ => tm_mv.rf b
  | n + 1, p, b, h => tm_mv.tr _ _ _ (tm_bs_mv (by omega) b) (tm_bt_mv ht a hP n (p + 1) (tm_bs t p b) (by omega))
theorem tm_bp_mv : ∀ (n t : Nat) (a : tcS × Bool), a.1.2.2.2 0 ≤ 6 → t + n ≤ 24 → tm_mv a (tc_up tm_bt n t a)
  | 0, _, a, _, _ => tm_mv.rf a
  | n + 1, t, a, hP, h => by
    have h1 : tm_mv a (tm_bt t a) := tm_bt_mv (by omega) a hP _ 0 a (by omega)
    exact tm_mv.tr _ _ _ h1 (tm_bp_mv n (t + 1) (tm_bt t a) (by rw [h1.1.2.2.2]; exact hP) (by omega))
theorem tm_clr_sb : ∀ (n j : Nat) (ρ : tcS), tm_sb ρ (tc_up tm_clr n j ρ) := tc_up_rel (R := tm_sb) (fun _ => tm_sb.rf) (fun _ _ _ h k => h.tr k) (fun j a => tm_sb.put a _)
theorem tm_bd_sb : ∀ (n : Nat) (a : tcS × Bool), a.1.2.2.2 0 ≤ 6 → a.1.2.2.2 1 ≤ 24 → tm_sb a.1 (tm_bd n a)
  | 0, _, _, _ => tm_sb.rf
  | n + 1, a, hP, hT => by
    unfold tm_bd
    split
    · have h1 := (tm_bp_mv (a.1.2.2.2 1) 0 (a.1, false) hP (by omega)).1
      have h2 := tm_bd_sb n (tm_bp a.1) (by rw [show (tm_bp a.1).1.2.2.2 = a.1.2.2.2 from h1.2.2.2]; exact hP) (by rw [show (tm_bp a.1).1.2.2.2 = a.1.2.2.2 from h1.2.2.2]; exact hT)
      exact tm_sb.tr h1 h2
    · exact tm_sb.rf
theorem tm_build_sb {τ : tcS} (hI : tm_I τ) : tm_sb τ (tm_build τ) := by
  have h1 := tm_clr_sb 144 0 τ
  refine h1.tr (tm_bd_sb 145 (tc_up tm_clr 144 0 τ, true) ?_ ?_)
  · show (tc_up tm_clr 144 0 τ).2.2.2 0 ≤ 6
    rw [h1.2.2.2]
    exact hI.1
  · show (tc_up tm_clr 144 0 τ).2.2.2 1 ≤ 24
    rw [h1.2.2.2]
    exact hI.2.1
set_option maxHeartbeats 4000000 in
set_option maxRecDepth 100000 in
theorem ml_build_2  {K : tcK} : ∀ (n : Nat) (j : Nat) (ρ : tcS), j + n = 144 → tc_V (cMO_build, 4, yMO_build.cls, none, 4, yMO_build.name) K 0 0 (tm_h (tc_up tm_clr n j ρ)) 24 [some (.inr (some 0)), none, none, none] [] → tc_V (cMO_build, 4, yMO_build.cls, none, 4, yMO_build.name) K 0 0 (tm_h ρ) 2 [some (.inr (some 0)), some (.inl (nI j)), none, none] [] := by
  intro n
  induction n with
  | zero =>
    intro j ρ hj hx
    refine tv_iload_n dMO_build_2 rfl rfl ?_
    refine tv_aload_n dMO_build_3 rfl rfl ?_
    refine gMO_50 rfl dMO_build_4 ?_
    refine lenM_14 dMO_build_7 ?_
    refine tv_icmp_ge (tgt := 24) dMO_build_8 (by decide) (fun c8 => ?_) (fun c8 => absurd (nI_le (a := 144) (b := j) (by omega) (by omega)) c8)
    refine tv_fg_1 ?_
    exact hx
  | succ n ih =>
    intro j ρ hj hx
    refine tv_iload_n dMO_build_2 rfl rfl ?_
    refine tv_aload_n dMO_build_3 rfl rfl ?_
    refine gMO_50 rfl dMO_build_4 ?_
    refine lenM_14 dMO_build_7 ?_
    refine tv_icmp_ge (tgt := 24) dMO_build_8 (by decide) (fun c8 => absurd c8 (nI_ge (a := j) (b := 144) (by omega) (by omega))) (fun c8 => ?_)
    refine tv_aload_n dMO_build_11 rfl rfl ?_
    refine gMO_50 rfl dMO_build_12 ?_
    refine tv_iload_n dMO_build_15 rfl rfl ?_
    refine tv_iconst (v := 0) dMO_build_16 (by decide) ?_
    refine stM_14 none dMO_build_17 (by omega) ?_
    refine tv_iinc_1 dMO_build_18 (by decide) (nI_1 j) ?_
    refine tv_goto (tgt := 2) dMO_build_21 (by decide) ?_
    exact ih (j + 1) (tm_clr j ρ) (by omega) hx
set_option maxHeartbeats 4000000 in
set_option maxRecDepth 100000 in
theorem ml_build_44 {t : Nat} (ht : t < 24) {K : tcK} : ∀ (n : Nat) (p : Nat) (a : tcS × Bool), tm_I a.1 → p + n = a.1.2.2.2 0 → tc_V (cMO_build, 4, yMO_build.cls, none, 4, yMO_build.name) K 0 0 (tm_h (tc_up (tm_bs t) n p a).1) 106 [some (.inr (some 0)), some (.inl (tc_b2 (tc_up (tm_bs t) n p a).2)), some (.inl (nI t)), none] [] → tc_V (cMO_build, 4, yMO_build.cls, none, 4, yMO_build.name) K 0 0 (tm_h a.1) 44 [some (.inr (some 0)), some (.inl (tc_b2 a.2)), some (.inl (nI t)), some (.inl (nI p))] [] := by
  intro n
  induction n with
  | zero =>
    intro p a hI hp hx
    obtain ⟨iP, iT, iN, iA, iR, iK, iO, iQ, iF, iB, iW⟩ := id hI
    refine tv_iload_n dMO_build_44 rfl rfl ?_
    refine tv_aload_n dMO_build_45 rfl rfl ?_
    refine gMO_72 rfl dMO_build_46 ?_
    refine tv_icmp_ge (tgt := 106) dMO_build_49 (by decide) (fun c49 => ?_) (fun c49 => absurd (nI_le (by omega) (by omega)) c49)
    refine tv_fg_3 ?_
    exact hx
  | succ n ih =>
    intro p a hI hp hx
    obtain ⟨iP, iT, iN, iA, iR, iK, iO, iQ, iF, iB, iW⟩ := id hI
    refine tv_iload_n dMO_build_44 rfl rfl ?_
    refine tv_aload_n dMO_build_45 rfl rfl ?_
    refine gMO_72 rfl dMO_build_46 ?_
    refine tv_icmp_ge (tgt := 106) dMO_build_49 (by decide) (fun c49 => absurd c49 (nI_ge (by omega) (by omega))) (fun c49 => ?_)
    refine tv_aload_n dMO_build_52 rfl rfl ?_
    refine gMO_50 rfl dMO_build_53 ?_
    refine tv_iload_n dMO_build_56 rfl rfl ?_
    refine tv_iload_n dMO_build_57 rfl rfl ?_
    refine tv_callS2r kMO_106 (by decide) (Nat.le_of_ble_eq_true rfl) ⟨rfl, rfl⟩ (mm_at (tm_h a.1) t p) ⟨Nat.zero_le _, Nat.zero_le _⟩ dMO_build_58 ?_
    refine ldM_14 dMO_build_61 (by omega) ?_
    refine tv_if_ne (tgt := 100) dMO_build_62 (by decide) (fun c62 => ?_) (fun c62 => ?_)
    · have e1 : tm_bs t p a = a := by unfold tm_bs; rw [if_neg (fun q => by have := q.1; unfold tm_bl at this; rw [tc_b2_n.mp c62] at this; cases this)]
      have h9 := ih (p + 1) a hI (by omega) (by rw [← e1]; exact hx)
      refine tv_iinc_3 dMO_build_100 (by decide) (nI_1 p) ?_
      refine tv_goto (tgt := 44) dMO_build_103 (by decide) ?_
      exact h9
    · have d62 : tm_bl a.1 t p = false := tc_b2_0.mp c62
      refine tv_aload_n dMO_build_65 rfl rfl ?_
      refine tv_iload_n dMO_build_66 rfl rfl ?_
      refine tv_iload_n dMO_build_67 rfl rfl ?_
      refine tv_callV2r kMO_112 (by decide) (Nat.le_of_ble_eq_true rfl) ⟨rfl, rfl⟩ rfl (mm_runsOn a.1 ht (by omega)) ⟨Nat.zero_le _, Nat.zero_le _⟩ dMO_build_68 ?_
      refine tv_if_eq (tgt := 100) dMO_build_71 (by decide) (fun c71 => ?_) (fun c71 => ?_)
      · have e1 : tm_bs t p a = a := by unfold tm_bs; rw [if_neg (fun q => by have := q.2.1; rw [tc_b2_0.mp c71] at this; cases this)]
        have h9 := ih (p + 1) a hI (by omega) (by rw [← e1]; exact hx)
        refine tv_iinc_3 dMO_build_100 (by decide) (nI_1 p) ?_
        refine tv_goto (tgt := 44) dMO_build_103 (by decide) ?_
        exact h9
      · have d71 := tc_b2_n.mp c71
        refine tv_aload_n dMO_build_74 rfl rfl ?_
        refine tv_iload_n dMO_build_75 rfl rfl ?_
        refine tv_iload_n dMO_build_76 rfl rfl ?_
        refine tv_callV2r kMO_115 (by decide) (Nat.le_of_ble_eq_true rfl) ⟨rfl, rfl⟩ rfl (mm_missing a.1 hI ht (by omega)) ⟨Nat.zero_le _, Nat.zero_le _⟩ dMO_build_77 ?_
        refine tv_iconst (v := -1) dMO_build_80 (by decide) ?_
        refine tv_icmp_eq (tgt := 87) dMO_build_81 (by decide) (fun c81 => ?_) (fun c81 => ?_)
        · have d81 := (tc_oI_m1 (fun k q => tc_ff_bd q (by omega))).mp c81
          have e1 : tm_bs t p a = (tm_set t p a.1, true) := by unfold tm_bs; rw [if_pos ⟨d62, d71, d81⟩]
          have h9 := ih (p + 1) (tm_set t p a.1, true) ((tm_sb.put _ _).I hI) (by show p + 1 + n = a.1.2.2.2 0; omega) (by rw [← e1]; exact hx)
          refine tv_aload_n dMO_build_87 rfl rfl ?_
          refine gMO_50 rfl dMO_build_88 ?_
          refine tv_iload_n dMO_build_91 rfl rfl ?_
          refine tv_iload_n dMO_build_92 rfl rfl ?_
          refine tv_callS2r kMO_106 (by decide) (Nat.le_of_ble_eq_true rfl) ⟨rfl, rfl⟩ (mm_at (tm_h a.1) t p) ⟨Nat.zero_le _, Nat.zero_le _⟩ dMO_build_93 ?_
          refine tv_iconst (v := 1) dMO_build_96 (by decide) ?_
          refine stM_14 (some 0) dMO_build_97 (by omega) ?_
          refine tv_eq (h' := tm_h (tm_set t p a.1)) ?_ rfl rfl rfl
          refine tv_iconst (v := 1) dMO_build_98 (by decide) ?_
          refine tv_istN_1 dMO_build_99 (by decide) ?_
          refine tv_iinc_3 dMO_build_100 (by decide) (nI_1 p) ?_
          refine tv_goto (tgt := 44) dMO_build_103 (by decide) ?_
          exact h9
        · have e1 : tm_bs t p a = a := by unfold tm_bs; rw [if_neg (fun q => c81 ((tc_oI_m1 (fun k q => tc_ff_bd q (by omega))).mpr q.2.2))]
          have h9 := ih (p + 1) a hI (by omega) (by rw [← e1]; exact hx)
          refine tv_goto (tgt := 100) dMO_build_84 (by decide) ?_
          refine tv_iinc_3 dMO_build_100 (by decide) (nI_1 p) ?_
          refine tv_goto (tgt := 44) dMO_build_103 (by decide) ?_
          exact h9
set_option maxHeartbeats 4000000 in
set_option maxRecDepth 100000 in
theorem ml_build_34  {K : tcK} : ∀ (n : Nat) (t : Nat) (a : tcS × Bool), tm_I a.1 → t + n = a.1.2.2.2 1 → tc_V (cMO_build, 4, yMO_build.cls, none, 4, yMO_build.name) K 0 0 (tm_h (tc_up tm_bt n t a).1) 26 [some (.inr (some 0)), some (.inl (tc_b2 (tc_up tm_bt n t a).2)), none, none] [] → tc_V (cMO_build, 4, yMO_build.cls, none, 4, yMO_build.name) K 0 0 (tm_h a.1) 34 [some (.inr (some 0)), some (.inl (tc_b2 a.2)), some (.inl (nI t)), none] [] := by
  intro n
  induction n with
  | zero =>
    intro t a hI ht hx
    obtain ⟨iP, iT, iN, iA, iR, iK, iO, iQ, iF, iB, iW⟩ := id hI
    refine tv_iload_n dMO_build_34 rfl rfl ?_
    refine tv_aload_n dMO_build_35 rfl rfl ?_
    refine gMO_75 rfl dMO_build_36 ?_
    refine tv_icmp_ge (tgt := 112) dMO_build_39 (by decide) (fun c39 => ?_) (fun c39 => absurd (nI_le (by omega) (by omega)) c39)
    refine tv_goto (tgt := 26) dMO_build_112 (by decide) ?_
    refine tv_fg_2 ?_
    exact hx
  | succ n ih =>
    intro t a hI ht hx
    obtain ⟨iP, iT, iN, iA, iR, iK, iO, iQ, iF, iB, iW⟩ := id hI
    have hm : tm_mv a (tm_bt t a) := tm_bt_mv (by omega) a iP _ 0 a (by omega)
    refine tv_iload_n dMO_build_34 rfl rfl ?_
    refine tv_aload_n dMO_build_35 rfl rfl ?_
    refine gMO_75 rfl dMO_build_36 ?_
    refine tv_icmp_ge (tgt := 112) dMO_build_39 (by decide) (fun c39 => absurd c39 (nI_ge (by omega) (by omega))) (fun c39 => ?_)
    refine tv_iconst (v := 0) dMO_build_42 (by decide) ?_
    refine tv_istN_3 dMO_build_43 (by decide) ?_
    refine ml_build_44 (by omega) (a.1.2.2.2 0) 0 a hI (by omega) ?_
    refine tv_iinc_2 dMO_build_106 (by decide) (nI_1 t) ?_
    refine tv_goto (tgt := 34) dMO_build_109 (by decide) ?_
    exact ih (t + 1) (tm_bt t a) (hm.1.I hI) (by rw [hm.1.2.2.2]; omega) hx
set_option maxHeartbeats 4000000 in
set_option maxRecDepth 100000 in
theorem ml_build_26  {K : tcK} : ∀ (n : Nat) (a : tcS × Bool), tm_I a.1 → (a.2 = true → cz (a.1.2.2.1 3) 144 < n) → K.2.1 = none → K.2.2.1 = tm_h (tm_bd n a) → tc_V (cMO_build, 4, yMO_build.cls, none, 4, yMO_build.name) K 0 0 (tm_h a.1) 26 [some (.inr (some 0)), some (.inl (tc_b2 a.2)), none, none] [] := by
  intro n
  induction n with
  | zero =>
    intro a hI hz hr hh
    obtain ⟨iP, iT, iN, iA, iR, iK, iO, iQ, iF, iB, iW⟩ := id hI
    refine tv_iload_n dMO_build_26 rfl rfl ?_
    refine tv_if_eq (tgt := 115) dMO_build_27 (by decide) (fun c27 => ?_) (fun c27 => absurd (hz (tc_b2_n.mp c27)) (by omega))
    exact tv_vret dMO_build_115 rfl hr hh
  | succ n ih =>
    intro a hI hz hr hh
    obtain ⟨iP, iT, iN, iA, iR, iK, iO, iQ, iF, iB, iW⟩ := id hI
    refine tv_iload_n dMO_build_26 rfl rfl ?_
    refine tv_if_eq (tgt := 115) dMO_build_27 (by decide) (fun c27 => ?_) (fun c27 => ?_)
    · exact tv_vret dMO_build_115 rfl hr (by rw [hh, tm_bd, if_neg (by rw [tc_b2_0.mp c27]; simp)])
    · refine tv_iconst (v := 0) dMO_build_30 (by decide) ?_
      refine tv_istN_1 dMO_build_31 (by decide) ?_
      refine tv_iconst (v := 0) dMO_build_32 (by decide) ?_
      refine tv_istN_2 dMO_build_33 (by decide) ?_
      refine ml_build_34 (a.1.2.2.2 1) 0 (a.1, false) hI (by show 0 + _ = a.1.2.2.2 1; omega) ?_
      have hm := tm_bp_mv (a.1.2.2.2 1) 0 (a.1, false) iP (by omega)
      exact ih (tm_bp a.1) (hm.1.I hI) (fun q => by
        have h1 := hz (tc_b2_n.mp c27)
        rcases hm.2.2 q with q2 | q2
        · cases q2
        · have q3 : cz ((tm_bp a.1).1.2.2.1 3) 144 < cz (a.1.2.2.1 3) 144 := q2
          omega) hr (by rw [hh, tm_bd, if_pos (tc_b2_n.mp c27)])
set_option maxHeartbeats 4000000 in
set_option maxRecDepth 100000 in
theorem mm_build (τ : tcS) (hI : tm_I τ) : tc_M yMO_build cMO_build 4 (none) 4 [.inr (some 0)] (tm_h τ, none, tm_h (tm_build τ), 0, 0) := by
  refine tc_met (by decide) (Nat.le_of_ble_eq_true rfl) (Nat.le_of_eq tm_len) rfl ?_
  refine tv_iconst (v := 0) dMO_build_0 (by decide) ?_
  refine tv_istN_1 dMO_build_1 (by decide) ?_
  refine ml_build_2 144 0 τ rfl ?_
  refine tv_iconst (v := 1) dMO_build_24 (by decide) ?_
  refine tv_istN_1 dMO_build_25 (by decide) ?_
  exact ml_build_26 145 (tc_up tm_clr 144 0 τ, true) ((tm_clr_sb 144 0 τ).I hI) (fun _ => Nat.lt_of_le_of_lt (cz_le _ 144) (by decide)) rfl rfl

def tm_bl (τ : tcS) (u q : Nat) : Bool := (τ.2.2.1 3 (6 * u + q)).isSome
def tm_iq (τ : tcS) (u : Nat) : Nat → Nat → Bool → Bool
  | 0, _, b => b
  | n + 1, q, b => tm_iq τ u n (q + 1) (b || tm_bl τ u q)
def tm_th (τ : tcS) (k p : Nat) : Nat → Nat → Bool → Bool
  | 0, _, b => b
  | n + 1, u, b => if b = true then b else tm_th τ k p n (u + 1) (if τ.2.1 0 u = k ∧ tc_fit (τ.1 2 u) (τ.1 0 p) = true then tm_iq τ u (τ.2.2.2 0) 0 b else b)
def tm_there (τ : tcS) (k p : Nat) : Bool := tm_th τ k p (τ.2.2.2 1) 0 false
theorem tm_iq_eq {τ : tcS} {u : Nat} : ∀ {n q : Nat} {b : Bool}, tm_iq τ u n q b = true ↔ b = true ∨ ∃ j, q ≤ j ∧ j < q + n ∧ tm_bl τ u j = true
  | 0, q, b => ⟨Or.inl, fun h => h.elim id (fun ⟨j, h1, h2, _⟩ => absurd h2 (by omega))⟩
  | n + 1, q, b => by
    unfold tm_iq
    rw [tm_iq_eq, Bool.or_eq_true]
    constructor
    · rintro ((h | h) | ⟨j, h1, h2, h3⟩)
      · exact Or.inl h
      · exact Or.inr ⟨q, Nat.le_refl _, by omega, h⟩
      · exact Or.inr ⟨j, by omega, by omega, h3⟩
    · rintro (h | ⟨j, h1, h2, h3⟩)
      · exact Or.inl (Or.inl h)
      · by_cases e : j = q
        · subst e
          exact Or.inl (Or.inr h3)
        · exact Or.inr ⟨j, by omega, by omega, h3⟩
theorem tm_th_eq {τ : tcS} {k p : Nat} : ∀ {n u : Nat} {b : Bool}, tm_th τ k p n u b = true ↔ b = true ∨ ∃ v, u ≤ v ∧ v < u + n ∧ τ.2.1 0 v = k ∧ tc_fit (τ.1 2 v) (τ.1 0 p) = true ∧ ∃ q, q < τ.2.2.2 0 ∧ tm_bl τ v q = true
  | 0, u, b => ⟨Or.inl, fun h => h.elim id (fun ⟨j, h1, h2, _⟩ => absurd h2 (by omega))⟩
  | n + 1, u, b => by
    unfold tm_th
    by_cases hb : b = true
    · rw [if_pos hb]
      exact ⟨Or.inl, fun _ => hb⟩
    · rw [if_neg hb, tm_th_eq]
      have key : (if τ.2.1 0 u = k ∧ tc_fit (τ.1 2 u) (τ.1 0 p) = true then tm_iq τ u (τ.2.2.2 0) 0 b else b) = true ↔ τ.2.1 0 u = k ∧ tc_fit (τ.1 2 u) (τ.1 0 p) = true ∧ ∃ q, q < τ.2.2.2 0 ∧ tm_bl τ u q = true := by
        by_cases h : τ.2.1 0 u = k ∧ tc_fit (τ.1 2 u) (τ.1 0 p) = true
        · rw [if_pos h, tm_iq_eq]
          constructor
          · rintro (q | ⟨j, _, h2, h3⟩)
            · exact absurd q hb
            · exact ⟨h.1, h.2, j, by omega, h3⟩
          · rintro ⟨_, _, j, h2, h3⟩
            exact Or.inr ⟨j, by omega, by omega, h3⟩
        · rw [if_neg h]
          exact ⟨fun q => absurd q hb, fun q => absurd ⟨q.1, q.2.1⟩ h⟩
      rw [key]
      constructor
      · rintro (h | ⟨v, h1, h2, h3⟩)
        · exact Or.inr ⟨u, Nat.le_refl _, by omega, h⟩
        · exact Or.inr ⟨v, by omega, by omega, h3⟩
      · rintro (h | ⟨v, h1, h2, h3⟩)
        · exact absurd h hb
        · by_cases e : v = u
          · subst e
            exact Or.inl h3
          · exact Or.inr ⟨v, by omega, by omega, h3⟩
theorem tm_there_eq {τ : tcS} {k p : Nat} : tm_there τ k p = true ↔ ∃ v q, v < τ.2.2.2 1 ∧ q < τ.2.2.2 0 ∧ τ.2.1 0 v = k ∧ tc_fit (τ.1 2 v) (τ.1 0 p) = true ∧ tm_bl τ v q = true := by
  unfold tm_there
  rw [tm_th_eq]
  constructor
  · rintro (h | ⟨v, h1, h2, h3, h4, q, h5, h6⟩)
    · cases h
    · exact ⟨v, q, by omega, h5, h3, h4, h6⟩
  · rintro ⟨v, q, h1, h5, h3, h4, h6⟩
    exact Or.inr ⟨v, by omega, by omega, h3, h4, q, h5, h6⟩
def tm_miss (τ : tcS) (t p : Nat) : Option Nat := tc_ff (fun k => tm_wants τ t k && !tm_there τ k p) 8 0
set_option maxHeartbeats 4000000 in
set_option maxRecDepth 100000 in
theorem ml_isThere_45 (τ : tcS) (hI : tm_I τ) {u : Nat} (hu : u < 24) {x1 x2 : Option tcV} (hx1 : x1 = none ∨ ∃ y, x1 = some (.inl y)) (hx2 : x2 = none ∨ ∃ y, x2 = some (.inl y)) {K : tcK} : ∀ (n : Nat) (q : Nat) (b : Bool), q + n = τ.2.2.2 0 → tc_V (cMO_isThere, 6, yMO_isThere.cls, some .boolean, 2, yMO_isThere.name) K 0 0 (tm_h τ) 85 [some (.inr (some 0)), x1, x2, some (.inl (tc_b2 (tm_iq τ u n q b))), some (.inl (nI u)), none] [] → tc_V (cMO_isThere, 6, yMO_isThere.cls, some .boolean, 2, yMO_isThere.name) K 0 0 (tm_h τ) 45 [some (.inr (some 0)), x1, x2, some (.inl (tc_b2 b)), some (.inl (nI u)), some (.inl (nI q))] [] := by
  intro n
  induction n with
  | zero =>
    intro q b hq hx
    obtain ⟨iP, iT, iN, iA, iR, iK, iO, iQ, iF, iB, iW⟩ := id hI
    refine tv_iload dMO_isThere_45 rfl ?_
    refine tv_aload_n dMO_isThere_47 rfl rfl ?_
    refine gMO_72 rfl dMO_isThere_48 ?_
    refine tv_icmp_ge (tgt := 85) dMO_isThere_51 (by decide) (fun c51 => ?_) (fun c51 => absurd (nI_le (by omega) (by omega)) c51)
    refine tv_fg_5 ?_
    exact hx
  | succ n ih =>
    intro q b hq hx
    obtain ⟨iP, iT, iN, iA, iR, iK, iO, iQ, iF, iB, iW⟩ := id hI
    refine tv_iload dMO_isThere_45 rfl ?_
    refine tv_aload_n dMO_isThere_47 rfl rfl ?_
    refine gMO_72 rfl dMO_isThere_48 ?_
    refine tv_icmp_ge (tgt := 85) dMO_isThere_51 (by decide) (fun c51 => absurd c51 (nI_ge (by omega) (by omega))) (fun c51 => ?_)
    refine tv_iload_n dMO_isThere_54 rfl rfl ?_
    refine tv_if_ne (tgt := 73) dMO_isThere_55 (by decide) (fun c55 => ?_) (fun c55 => ?_)
    · have e78 : (b || tm_bl τ u q) = true := by simp [tc_b2_n.mp c55]
      refine tv_iconst (v := 1) dMO_isThere_73 (by decide) ?_
      refine tv_goto (tgt := 78) dMO_isThere_74 (by decide) ?_
      refine tv_top (b := .inl (tc_b2 (b || tm_bl τ u q))) (congrArg Sum.inl (by rw [e78] <;> rfl)) ?_
      refine tv_istN_3 dMO_isThere_78 (by decide) ?_
      refine tv_iinc_5 dMO_isThere_79 (by decide) (nI_1 q) ?_
      refine tv_goto (tgt := 45) dMO_isThere_82 (by decide) ?_
      exact ih (q + 1) _ (by omega) hx
    · have d55 := tc_b2_0.mp c55
      refine tv_aload_n dMO_isThere_58 rfl rfl ?_
      refine gMO_50 rfl dMO_isThere_59 ?_
      refine tv_iload dMO_isThere_62 rfl ?_
      refine tv_iload dMO_isThere_64 rfl ?_
      refine tv_callS2r kMO_106 (by decide) (Nat.le_of_ble_eq_true rfl) ⟨by rcases hx1 with rfl | ⟨y, rfl⟩ <;> rcases hx2 with rfl | ⟨z, rfl⟩ <;> rfl, rfl⟩ (mm_at (tm_h τ) u q) ⟨Nat.zero_le _, Nat.zero_le _⟩ dMO_isThere_66 ?_
      refine ldM_14 dMO_isThere_69 (by omega) ?_
      refine tv_if_eq (tgt := 77) dMO_isThere_70 (by decide) (fun c70 => ?_) (fun c70 => ?_)
      · have e78 : (b || tm_bl τ u q) = false := by simp [d55, tm_bl, tc_b2_0.mp c70]
        refine tv_iconst (v := 0) dMO_isThere_77 (by decide) ?_
        refine tv_top (b := .inl (tc_b2 (b || tm_bl τ u q))) (congrArg Sum.inl (by rw [e78] <;> rfl)) ?_
        refine tv_istN_3 dMO_isThere_78 (by decide) ?_
        refine tv_iinc_5 dMO_isThere_79 (by decide) (nI_1 q) ?_
        refine tv_goto (tgt := 45) dMO_isThere_82 (by decide) ?_
        exact ih (q + 1) _ (by omega) hx
      · have e78 : (b || tm_bl τ u q) = true := by simp [tm_bl, tc_b2_n.mp c70]
        refine tv_iconst (v := 1) dMO_isThere_73 (by decide) ?_
        refine tv_goto (tgt := 78) dMO_isThere_74 (by decide) ?_
        refine tv_top (b := .inl (tc_b2 (b || tm_bl τ u q))) (congrArg Sum.inl (by rw [e78] <;> rfl)) ?_
        refine tv_istN_3 dMO_isThere_78 (by decide) ?_
        refine tv_iinc_5 dMO_isThere_79 (by decide) (nI_1 q) ?_
        refine tv_goto (tgt := 45) dMO_isThere_82 (by decide) ?_
        exact ih (q + 1) _ (by omega) hx
set_option maxHeartbeats 4000000 in
set_option maxRecDepth 100000 in
theorem ml_isThere_5 (τ : tcS) (hI : tm_I τ) {k p : Nat} (hk : k < 8) (hp : p < 6) {K : tcK} : ∀ (n : Nat) (u : Nat) (b : Bool), u + n = τ.2.2.2 1 → K.2.1 = some (.inl (tc_b2 (tm_th τ k p n u b))) → K.2.2.1 = tm_h τ → tc_V (cMO_isThere, 6, yMO_isThere.cls, some .boolean, 2, yMO_isThere.name) K 0 0 (tm_h τ) 5 [some (.inr (some 0)), some (.inl (nI k)), some (.inl (nI p)), some (.inl (tc_b2 b)), some (.inl (nI u)), none] [] := by
  intro n
  induction n with
  | zero =>
    intro u b hu hr hh
    obtain ⟨iP, iT, iN, iA, iR, iK, iO, iQ, iF, iB, iW⟩ := id hI
    refine tv_iload dMO_isThere_5 rfl ?_
    refine tv_aload_n dMO_isThere_7 rfl rfl ?_
    refine gMO_75 rfl dMO_isThere_8 ?_
    refine tv_icmp_ge (tgt := 91) dMO_isThere_11 (by decide) (fun c11 => ?_) (fun c11 => absurd (nI_le (by omega) (by omega)) c11)
    refine tv_iload_n dMO_isThere_91 rfl rfl ?_
    exact tv_iret dMO_isThere_92 rfl (by cases b <;> rfl) hr hh
  | succ n ih =>
    intro u b hu hr hh
    obtain ⟨iP, iT, iN, iA, iR, iK, iO, iQ, iF, iB, iW⟩ := id hI
    refine tv_iload dMO_isThere_5 rfl ?_
    refine tv_aload_n dMO_isThere_7 rfl rfl ?_
    refine gMO_75 rfl dMO_isThere_8 ?_
    refine tv_icmp_ge (tgt := 91) dMO_isThere_11 (by decide) (fun c11 => absurd c11 (nI_ge (by omega) (by omega))) (fun c11 => ?_)
    refine tv_iload_n dMO_isThere_14 rfl rfl ?_
    refine tv_if_ne (tgt := 91) dMO_isThere_15 (by decide) (fun c15 => ?_) (fun c15 => ?_)
    · have e15 : tm_th τ k p (n + 1) u b = b := by rw [tm_th, if_pos (tc_b2_n.mp c15)]
      refine tv_iload_n dMO_isThere_91 rfl rfl ?_
      exact tv_iret dMO_isThere_92 rfl (by cases b <;> rfl) (by rw [hr, e15]) hh
    · have d15 := tc_b2_0.mp c15
      refine tv_aload_n dMO_isThere_18 rfl rfl ?_
      refine gMO_13 rfl dMO_isThere_19 ?_
      refine tv_iload dMO_isThere_22 rfl ?_
      refine ldM_2 dMO_isThere_24 (by omega) ?_
      refine tv_iload_n dMO_isThere_25 rfl rfl ?_
      refine tv_icmp_ne (tgt := 85) dMO_isThere_26 (by decide) (fun c26 => ?_) (fun c26 => ?_)
      · have d26 : ¬ τ.2.1 0 u = k := fun q => c26 (by rw [q])
        have h9 := ih (u + 1) b (by omega) (by rw [hr, tm_th, if_neg (by rw [d15]; simp), if_neg (fun q => d26 q.1)]) hh
        refine tv_iinc_4 dMO_isThere_85 (by decide) (nI_1 u) ?_
        refine tv_goto (tgt := 5) dMO_isThere_88 (by decide) ?_
        exact h9
      · have d26 : τ.2.1 0 u = k := (nI_eq (by have := iK u (by omega); omega) (by omega)).mp c26
        refine tv_aload_n dMO_isThere_29 rfl rfl ?_
        refine tv_iload dMO_isThere_30 rfl ?_
        refine tv_iload_n dMO_isThere_32 rfl rfl ?_
        refine tv_callV2r kMO_103 (by decide) (Nat.le_of_ble_eq_true rfl) ⟨rfl, rfl⟩ rfl (mm_makesFor τ (by omega) hp) ⟨Nat.zero_le _, Nat.zero_le _⟩ dMO_isThere_33 ?_
        refine tv_if_ne (tgt := 42) dMO_isThere_36 (by decide) (fun c36 => ?_) (fun c36 => ?_)
        · refine tv_iconst (v := 0) dMO_isThere_42 (by decide) ?_
          refine tv_ist_5 dMO_isThere_43 (by decide) ?_
          refine ml_isThere_45 τ hI (by omega) (Or.inr ⟨_, rfl⟩) (Or.inr ⟨_, rfl⟩) (τ.2.2.2 0) 0 b (by omega) ?_
          have h9 := ih (u + 1) (tm_iq τ u (τ.2.2.2 0) 0 b) (by omega) (by rw [hr, tm_th, if_neg (by rw [d15]; simp), if_pos ⟨d26, tc_b2_n.mp c36⟩]) hh
          refine tv_iinc_4 dMO_isThere_85 (by decide) (nI_1 u) ?_
          refine tv_goto (tgt := 5) dMO_isThere_88 (by decide) ?_
          exact h9
        · have h9 := ih (u + 1) b (by omega) (by rw [hr, tm_th, if_neg (by rw [d15]; simp), if_neg (fun q => by rw [tc_b2_0.mp c36] at q; exact absurd q.2 (by simp))]) hh
          refine tv_goto (tgt := 85) dMO_isThere_39 (by decide) ?_
          refine tv_iinc_4 dMO_isThere_85 (by decide) (nI_1 u) ?_
          refine tv_goto (tgt := 5) dMO_isThere_88 (by decide) ?_
          exact h9
set_option maxHeartbeats 4000000 in
set_option maxRecDepth 100000 in
theorem mm_isThere (τ : tcS) (hI : tm_I τ) {k p : Nat} (hk : k < 8) (hp : p < 6) : tc_M yMO_isThere cMO_isThere 6 (some .boolean) 2 [.inr (some 0), .inl (nI k), .inl (nI p)] (tm_h τ, some (.inl (tc_b2 (tm_there τ k p))), tm_h τ, 0, 0) := by
  refine tc_met (by decide) (Nat.le_of_ble_eq_true rfl) (Nat.le_of_eq tm_len) rfl ?_
  refine tv_iconst (v := 0) dMO_isThere_0 (by decide) ?_
  refine tv_istN_3 dMO_isThere_1 (by decide) ?_
  refine tv_iconst (v := 0) dMO_isThere_2 (by decide) ?_
  refine tv_ist_4 dMO_isThere_3 (by decide) ?_
  exact ml_isThere_5 τ hI hk hp (τ.2.2.2 1) 0 false (by omega) rfl rfl
set_option maxHeartbeats 4000000 in
set_option maxRecDepth 100000 in
theorem ml_missing_2 (τ : tcS) (hI : tm_I τ) {t p : Nat} (ht : t < 24) (hp : p < 6) {K : tcK} : ∀ (n : Nat) (k : Nat), k + n = 8 → K.2.1 = some (.inl (tc_oI (tc_ff (fun k => tm_wants τ t k && !tm_there τ k p) n k))) → K.2.2.1 = tm_h τ → tc_V (cMO_missing, 4, yMO_missing.cls, some .int, 3, yMO_missing.name) K 0 0 (tm_h τ) 2 [some (.inr (some 0)), some (.inl (nI t)), some (.inl (nI p)), some (.inl (nI k))] [] := by
  intro n
  induction n with
  | zero =>
    intro k hk hr hh
    refine tv_iload_n dMO_missing_2 rfl rfl ?_
    refine tv_bipush (v := 8) dMO_missing_3 (by decide) ?_
    refine tv_icmp_ge (tgt := 34) dMO_missing_5 (by decide) (fun c5 => ?_) (fun c5 => absurd (nI_le (a := 8) (b := k) (by omega) (by omega)) c5)
    refine tv_iconst (v := -1) dMO_missing_34 (by decide) ?_
    exact tv_iret dMO_missing_35 rfl rfl hr hh
  | succ n ih =>
    intro k hk hr hh
    refine tv_iload_n dMO_missing_2 rfl rfl ?_
    refine tv_bipush (v := 8) dMO_missing_3 (by decide) ?_
    refine tv_icmp_ge (tgt := 34) dMO_missing_5 (by decide) (fun c5 => absurd c5 (nI_ge (a := k) (b := 8) (by omega) (by omega))) (fun c5 => ?_)
    refine tv_aload_n dMO_missing_8 rfl rfl ?_
    refine tv_iload_n dMO_missing_9 rfl rfl ?_
    refine tv_iload_n dMO_missing_10 rfl rfl ?_
    refine tv_callV2r kMO_88 (by decide) (Nat.le_of_ble_eq_true rfl) ⟨rfl, rfl⟩ rfl (mm_wants τ hI ht (by omega)) ⟨Nat.zero_le _, Nat.zero_le _⟩ dMO_missing_11 ?_
    refine tv_if_eq (tgt := 28) dMO_missing_14 (by decide) (fun c14 => ?_) (fun c14 => ?_)
    · have e28 : (fun k => tm_wants τ t k && !tm_there τ k p) k = false := by simp [tc_b2_0.mp c14]
      refine tv_iinc_3 dMO_missing_28 (by decide) (nI_1 k) ?_
      refine tv_goto (tgt := 2) dMO_missing_31 (by decide) ?_
      exact ih (k + 1) (by omega) (by rw [hr, tc_ff_no e28]) hh
    · have d14 := tc_b2_n.mp c14
      refine tv_aload_n dMO_missing_17 rfl rfl ?_
      refine tv_iload_n dMO_missing_18 rfl rfl ?_
      refine tv_iload_n dMO_missing_19 rfl rfl ?_
      refine tv_callV2r kMO_109 (by decide) (Nat.le_of_ble_eq_true rfl) ⟨rfl, rfl⟩ rfl (mm_isThere τ hI (by omega) hp) ⟨Nat.zero_le _, Nat.zero_le _⟩ dMO_missing_20 ?_
      refine tv_if_ne (tgt := 28) dMO_missing_23 (by decide) (fun c23 => ?_) (fun c23 => ?_)
      · have e28 : (fun k => tm_wants τ t k && !tm_there τ k p) k = false := by simp [tc_b2_n.mp c23]
        refine tv_iinc_3 dMO_missing_28 (by decide) (nI_1 k) ?_
        refine tv_goto (tgt := 2) dMO_missing_31 (by decide) ?_
        exact ih (k + 1) (by omega) (by rw [hr, tc_ff_no e28]) hh
      · have e28 : (fun k => tm_wants τ t k && !tm_there τ k p) k = true := by simp [d14, tc_b2_0.mp c23]
        refine tv_iload_n dMO_missing_26 rfl rfl ?_
        exact tv_iret dMO_missing_27 rfl rfl (by rw [hr, tc_ff_yes e28]; rfl) hh
set_option maxHeartbeats 4000000 in
set_option maxRecDepth 100000 in
theorem mm_missing (τ : tcS) (hI : tm_I τ) {t p : Nat} (ht : t < 24) (hp : p < 6) : tc_M yMO_missing cMO_missing 4 (some .int) 3 [.inr (some 0), .inl (nI t), .inl (nI p)] (tm_h τ, some (.inl (tc_oI (tm_miss τ t p))), tm_h τ, 0, 0) := by
  refine tc_met (by decide) (Nat.le_of_ble_eq_true rfl) (Nat.le_of_eq tm_len) rfl ?_
  refine tv_iconst (v := 0) dMO_missing_0 (by decide) ?_
  refine tv_istN_3 dMO_missing_1 (by decide) ?_
  exact ml_missing_2 τ hI ht hp 8 0 rfl rfl rfl

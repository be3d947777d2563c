/-- what holds of the reference's state between calls -/
def tm_I (τ : tcS) : Prop := τ.2.2.2 0 ≤ 6 ∧ τ.2.2.2 1 ≤ 24 ∧ τ.2.2.2 2 ≤ 40 ∧ τ.2.2.2 3 ≤ 8 ∧ τ.2.2.2 4 ≤ 200 ∧ (∀ t, t < τ.2.2.2 1 → τ.2.1 0 t < 8) ∧ (∀ i, i < τ.2.2.2 1 → τ.2.1 1 i < τ.2.2.2 1) ∧ (∀ i, i < τ.2.2.2 3 → τ.2.1 2 i < 8) ∧ (∀ k t, τ.2.2.1 0 k = some t → t < 24) ∧ (∀ k, τ.1 11 k = 0 ∨ τ.1 11 k = 1) ∧ (∀ i, i < τ.2.2.2 2 → τ.2.1 3 i < 24 ∧ τ.2.1 4 i < 8)
theorem tm_bit {x : Int32} {k : Nat} (hk : k < 32) : ((x >>> (nI k &&& 31)) &&& 1) = tc_b2 (bt x k) := by
  have e1 : ∀ i, i < 32 → bt 1 i = decide (i = 0) := by decide +kernel
  have e0 : ∀ (b : Bool) i, i < 32 → bt (tc_b2 b) i = (decide (i = 0) && b) := by decide +kernel
  refine b_ext (fun i hi => ?_)
  rw [b_and, b_sshr k hk x hi, e1 i hi, e0 _ i hi]
  by_cases h : i = 0
  · subst h
    simp [hk]
  · simp [h]
theorem tc_b2_1 {b : Bool} : tc_b2 b = 1 ↔ b = true := by cases b <;> decide
theorem tc_b2_n1 {b : Bool} : ¬ tc_b2 b = 1 ↔ b = false := by cases b <;> decide
/-- the first constraint that is wished and not there -/
def tm_lk (w h : Int32) : Option Nat := tc_ff (fun c => bt w c && !bt h c) 32 0
theorem tc_ff_none {p : Nat → Bool} : ∀ {n k : Nat}, tc_ff p n k = none ↔ ∀ i, k ≤ i → i < k + n → p i = false
  | 0, k => ⟨fun _ i h1 h2 => absurd h2 (by omega), fun _ => rfl⟩
  | n + 1, k => by
    unfold tc_ff
    by_cases h : p k = true
    · rw [if_pos h]
      refine ⟨fun q => absurd q (by simp), fun q => ?_⟩
      rw [q k (Nat.le_refl _) (by omega)] at h
      cases h
    · rw [if_neg h, tc_ff_none (n := n) (k := k + 1)]
      refine ⟨fun q i h1 h2 => ?_, fun q i h1 h2 => q i (by omega) (by omega)⟩
      by_cases e : i = k
      · rw [e]
        exact Bool.eq_false_iff.mpr h
      · exact q i (by omega) (by omega)
theorem tm_lk_fit {w h : Int32} : tm_lk w h = none ↔ tc_fit w h = true := by
  unfold tm_lk tc_fit
  rw [tc_ff_none, decide_eq_true_eq, tc_z]
  refine ⟨fun q i hi => ?_, fun q i _ hi => ?_⟩
  · rw [b_and, tc_not hi]
    exact q i (Nat.zero_le _) (by omega)
  · have := q i (by omega)
    rw [b_and, tc_not (by omega)] at this
    exact this
theorem tc_ff_bd {p : Nat → Bool} {n k i : Nat} (h : tc_ff p n k = some i) (hb : k + n < 2 ^ 31) : i < 2 ^ 31 := by
  have := tc_ff_lt h
  omega
set_option maxHeartbeats 4000000 in
set_option maxRecDepth 100000 in
theorem mm_isKind (h : List tcC) (x : Int32) : tc_M yMO_isKind cMO_isKind 1 (some .boolean) 0 [.inl x] (h, some (.inl (tc_b2 (tc_isN x 8))), h, 0, 0) := by
  refine tc_met (by decide) (Nat.le_of_ble_eq_true rfl) (Nat.le_refl _) rfl ?_
  refine tv_iload_n dMO_isKind_0 rfl rfl ?_
  refine tv_if_lt (tgt := 14) dMO_isKind_1 (by decide) (fun c1 => ?_) (fun c1 => ?_)
  · have hr := tc_rb (tc_isN_neg (n := 8) c1)
    refine tv_iconst (v := 0) dMO_isKind_14 (by decide) ?_
    exact tv_iret dMO_isKind_15 rfl rfl hr rfl
  · refine tv_iload_n dMO_isKind_4 rfl rfl ?_
    refine tv_bipush (v := 8) dMO_isKind_5 (by decide) ?_
    refine tv_icmp_ge (tgt := 14) dMO_isKind_7 (by decide) (fun c7 => ?_) (fun c7 => ?_)
    · have hr := tc_rb (tc_isN_big (n := 8) c7)
      refine tv_iconst (v := 0) dMO_isKind_14 (by decide) ?_
      exact tv_iret dMO_isKind_15 rfl rfl hr rfl
    · have hr := tc_rb (tc_isN_in (n := 8) c1 c7)
      refine tv_iconst (v := 1) dMO_isKind_10 (by decide) ?_
      refine tv_goto (tgt := 15) dMO_isKind_11 (by decide) ?_
      exact tv_iret dMO_isKind_15 rfl rfl hr rfl
set_option maxHeartbeats 4000000 in
set_option maxRecDepth 100000 in
theorem mm_isTool (τ : tcS) (x : Int32) : tc_M yMO_isTool cMO_isTool 2 (some .boolean) 0 [.inr (some 0), .inl x] (tm_h τ, some (.inl (tc_b2 (tc_isN x (τ.2.2.2 1)))), tm_h τ, 0, 0) := by
  refine tc_met (by decide) (Nat.le_of_ble_eq_true rfl) (Nat.le_of_eq tm_len) rfl ?_
  refine tv_iload_n dMO_isTool_0 rfl rfl ?_
  refine tv_if_lt (tgt := 16) dMO_isTool_1 (by decide) (fun c1 => ?_) (fun c1 => ?_)
  · have hr := tc_rb (tc_isN_neg (n := τ.2.2.2 1) c1)
    refine tv_iconst (v := 0) dMO_isTool_16 (by decide) ?_
    exact tv_iret dMO_isTool_17 rfl rfl hr rfl
  · refine tv_iload_n dMO_isTool_4 rfl rfl ?_
    refine tv_aload_n dMO_isTool_5 rfl rfl ?_
    refine gMO_75 rfl dMO_isTool_6 ?_
    refine tv_icmp_ge (tgt := 16) dMO_isTool_9 (by decide) (fun c9 => ?_) (fun c9 => ?_)
    · have hr := tc_rb (tc_isN_big c9)
      refine tv_iconst (v := 0) dMO_isTool_16 (by decide) ?_
      exact tv_iret dMO_isTool_17 rfl rfl hr rfl
    · have hr := tc_rb (tc_isN_in c1 c9)
      refine tv_iconst (v := 1) dMO_isTool_12 (by decide) ?_
      refine tv_goto (tgt := 17) dMO_isTool_13 (by decide) ?_
      exact tv_iret dMO_isTool_17 rfl rfl hr rfl
set_option maxHeartbeats 4000000 in
set_option maxRecDepth 100000 in
theorem mm_isPlatform (τ : tcS) (x : Int32) : tc_M yMO_isPlatform cMO_isPlatform 2 (some .boolean) 0 [.inr (some 0), .inl x] (tm_h τ, some (.inl (tc_b2 (tc_isN x (τ.2.2.2 0)))), tm_h τ, 0, 0) := by
  refine tc_met (by decide) (Nat.le_of_ble_eq_true rfl) (Nat.le_of_eq tm_len) rfl ?_
  refine tv_iload_n dMO_isPlatform_0 rfl rfl ?_
  refine tv_if_lt (tgt := 16) dMO_isPlatform_1 (by decide) (fun c1 => ?_) (fun c1 => ?_)
  · have hr := tc_rb (tc_isN_neg (n := τ.2.2.2 0) c1)
    refine tv_iconst (v := 0) dMO_isPlatform_16 (by decide) ?_
    exact tv_iret dMO_isPlatform_17 rfl rfl hr rfl
  · refine tv_iload_n dMO_isPlatform_4 rfl rfl ?_
    refine tv_aload_n dMO_isPlatform_5 rfl rfl ?_
    refine gMO_72 rfl dMO_isPlatform_6 ?_
    refine tv_icmp_ge (tgt := 16) dMO_isPlatform_9 (by decide) (fun c9 => ?_) (fun c9 => ?_)
    · have hr := tc_rb (tc_isN_big c9)
      refine tv_iconst (v := 0) dMO_isPlatform_16 (by decide) ?_
      exact tv_iret dMO_isPlatform_17 rfl rfl hr rfl
    · have hr := tc_rb (tc_isN_in c1 c9)
      refine tv_iconst (v := 1) dMO_isPlatform_12 (by decide) ?_
      refine tv_goto (tgt := 17) dMO_isPlatform_13 (by decide) ?_
      exact tv_iret dMO_isPlatform_17 rfl rfl hr rfl
set_option maxHeartbeats 4000000 in
set_option maxRecDepth 100000 in
theorem mm_at (h : List tcC) (t p : Nat) : tc_M yMO_at cMO_at 2 (some .int) 0 [.inl (nI t), .inl (nI p)] (h, some (.inl (nI (6 * t + p))), h, 0, 0) := by
  refine tc_met (by decide) (Nat.le_of_ble_eq_true rfl) (Nat.le_refl _) rfl ?_
  refine tv_bipush (v := 6) dMO_at_0 (by decide) ?_
  refine tv_iload_n dMO_at_2 rfl rfl ?_
  refine tv_imul dMO_at_3 ?_
  refine tv_top (b := .inl (nI (6 * t))) (congrArg Sum.inl (pk_mul 6 t)) ?_
  refine tv_iload_n dMO_at_4 rfl rfl ?_
  refine tv_iadd dMO_at_5 ?_
  refine tv_top (b := .inl (nI (6 * t + p))) (congrArg Sum.inl (nI_add _ _)) ?_
  exact tv_iret dMO_at_6 rfl rfl rfl rfl
set_option maxHeartbeats 4000000 in
set_option maxRecDepth 100000 in
theorem ml_lacking_2 (τ : tcS) (w : Int32) {p : Nat} (hp : p < 6) {K : tcK} : ∀ (n : Nat) (k : Nat), k + n = 32 → K.2.1 = some (.inl (tc_oI (tc_ff (fun c => bt w c && !bt (τ.1 0 p) c) n k))) → K.2.2.1 = tm_h τ → tc_V (cMO_lacking, 4, yMO_lacking.cls, some .int, 0, yMO_lacking.name) K 0 0 (tm_h τ) 2 [some (.inr (some 0)), some (.inl w), some (.inl (nI p)), some (.inl (nI k))] [] := by
  intro n
  induction n with
  | zero =>
    intro k hk hr hh
    refine tv_iload_n dMO_lacking_2 rfl rfl ?_
    refine tv_bipush (v := 32) dMO_lacking_3 (by decide) ?_
    refine tv_icmp_ge (tgt := 38) dMO_lacking_5 (by decide) (fun c5 => ?_) (fun c5 => absurd (nI_le (a := 32) (b := k) (by omega) (by omega)) c5)
    refine tv_iconst (v := -1) dMO_lacking_38 (by decide) ?_
    exact tv_iret dMO_lacking_39 rfl rfl hr hh
  | succ n ih =>
    intro k hk hr hh
    refine tv_iload_n dMO_lacking_2 rfl rfl ?_
    refine tv_bipush (v := 32) dMO_lacking_3 (by decide) ?_
    refine tv_icmp_ge (tgt := 38) dMO_lacking_5 (by decide) (fun c5 => absurd c5 (nI_ge (a := k) (b := 32) (by omega) (by omega))) (fun c5 => ?_)
    refine tv_iload_n dMO_lacking_8 rfl rfl ?_
    refine tv_iload_n dMO_lacking_9 rfl rfl ?_
    refine tv_ishr dMO_lacking_10 ?_
    refine tv_iconst (v := 1) dMO_lacking_11 (by decide) ?_
    refine tv_iand dMO_lacking_12 ?_
    refine tv_top (b := .inl (tc_b2 (bt w k))) (congrArg Sum.inl (tm_bit (by omega))) ?_
    refine tv_iconst (v := 1) dMO_lacking_13 (by decide) ?_
    refine tv_icmp_ne (tgt := 32) dMO_lacking_14 (by decide) (fun c14 => ?_) (fun c14 => ?_)
    · have e32 : (fun c => bt w c && !bt (τ.1 0 p) c) k = false := by simp [tc_b2_n1.mp c14]
      refine tv_iinc_3 dMO_lacking_32 (by decide) (nI_1 k) ?_
      refine tv_goto (tgt := 2) dMO_lacking_35 (by decide) ?_
      exact ih (k + 1) (by omega) (by rw [hr, tc_ff_no e32]) hh
    · have d14 := tc_b2_1.mp c14
      refine tv_aload_n dMO_lacking_17 rfl rfl ?_
      refine gMO_7 rfl dMO_lacking_18 ?_
      refine tv_iload_n dMO_lacking_21 rfl rfl ?_
      refine ldM_1 dMO_lacking_22 hp ?_
      refine tv_iload_n dMO_lacking_23 rfl rfl ?_
      refine tv_ishr dMO_lacking_24 ?_
      refine tv_iconst (v := 1) dMO_lacking_25 (by decide) ?_
      refine tv_iand dMO_lacking_26 ?_
      refine tv_top (b := .inl (tc_b2 (bt (τ.1 0 p) k))) (congrArg Sum.inl (tm_bit (by omega))) ?_
      refine tv_if_ne (tgt := 32) dMO_lacking_27 (by decide) (fun c27 => ?_) (fun c27 => ?_)
      · have e32 : (fun c => bt w c && !bt (τ.1 0 p) c) k = false := by simp [tc_b2_n.mp c27]
        refine tv_iinc_3 dMO_lacking_32 (by decide) (nI_1 k) ?_
        refine tv_goto (tgt := 2) dMO_lacking_35 (by decide) ?_
        exact ih (k + 1) (by omega) (by rw [hr, tc_ff_no e32]) hh
      · have e32 : (fun c => bt w c && !bt (τ.1 0 p) c) k = true := by simp [d14, tc_b2_0.mp c27]
        refine tv_iload_n dMO_lacking_30 rfl rfl ?_
        exact tv_iret dMO_lacking_31 rfl rfl (by rw [hr, tc_ff_yes e32]; rfl) hh
set_option maxHeartbeats 4000000 in
set_option maxRecDepth 100000 in
theorem mm_lacking (τ : tcS) (w : Int32) {p : Nat} (hp : p < 6) : tc_M yMO_lacking cMO_lacking 4 (some .int) 0 [.inr (some 0), .inl w, .inl (nI p)] (tm_h τ, some (.inl (tc_oI (tm_lk w (τ.1 0 p)))), tm_h τ, 0, 0) := by
  refine tc_met (by decide) (Nat.le_of_ble_eq_true rfl) (Nat.le_of_eq tm_len) rfl ?_
  refine tv_iconst (v := 0) dMO_lacking_0 (by decide) ?_
  refine tv_istN_3 dMO_lacking_1 (by decide) ?_
  exact ml_lacking_2 τ w hp 32 0 rfl rfl rfl
set_option maxHeartbeats 4000000 in
set_option maxRecDepth 100000 in
theorem mm_runsOn (τ : tcS) {t p : Nat} (ht : t < 24) (hp : p < 6) : tc_M yMO_runsOn cMO_runsOn 3 (some .boolean) 1 [.inr (some 0), .inl (nI t), .inl (nI p)] (tm_h τ, some (.inl (tc_b2 (tc_fit (τ.1 1 t) (τ.1 0 p)))), tm_h τ, 0, 0) := by
  refine tc_met (by decide) (Nat.le_of_ble_eq_true rfl) (Nat.le_of_eq tm_len) rfl ?_
  refine tv_aload_n dMO_runsOn_0 rfl rfl ?_
  refine tv_aload_n dMO_runsOn_1 rfl rfl ?_
  refine gMO_16 rfl dMO_runsOn_2 ?_
  refine tv_iload_n dMO_runsOn_5 rfl rfl ?_
  refine ldM_3 dMO_runsOn_6 ht ?_
  refine tv_iload_n dMO_runsOn_7 rfl rfl ?_
  refine tv_callV2r kMO_99 (by decide) (Nat.le_of_ble_eq_true rfl) ⟨rfl, rfl⟩ rfl (mm_lacking τ (τ.1 1 t) hp) ⟨Nat.zero_le _, Nat.zero_le _⟩ dMO_runsOn_8 ?_
  refine tv_iconst (v := -1) dMO_runsOn_11 (by decide) ?_
  refine tv_icmp_ne (tgt := 19) dMO_runsOn_12 (by decide) (fun c12 => ?_) (fun c12 => ?_)
  · have hr := tc_rb (b := tc_fit (τ.1 1 t) (τ.1 0 p)) (b' := false) (by
      cases e : tc_fit (τ.1 1 t) (τ.1 0 p)
      · rfl
      · exact absurd ((tc_oI_m1 (fun k q => tc_ff_bd q (by omega))).mpr (tm_lk_fit.mpr e)) c12)
    refine tv_iconst (v := 0) dMO_runsOn_19 (by decide) ?_
    exact tv_iret dMO_runsOn_20 rfl rfl hr rfl
  · have hr := tc_rb (tm_lk_fit.mp ((tc_oI_m1 (fun k q => tc_ff_bd q (by omega))).mp c12))
    refine tv_iconst (v := 1) dMO_runsOn_15 (by decide) ?_
    refine tv_goto (tgt := 20) dMO_runsOn_16 (by decide) ?_
    exact tv_iret dMO_runsOn_20 rfl rfl hr rfl
set_option maxHeartbeats 4000000 in
set_option maxRecDepth 100000 in
theorem mm_makesFor (τ : tcS) {t p : Nat} (ht : t < 24) (hp : p < 6) : tc_M yMO_makesFor cMO_makesFor 3 (some .boolean) 1 [.inr (some 0), .inl (nI t), .inl (nI p)] (tm_h τ, some (.inl (tc_b2 (tc_fit (τ.1 2 t) (τ.1 0 p)))), tm_h τ, 0, 0) := by
  refine tc_met (by decide) (Nat.le_of_ble_eq_true rfl) (Nat.le_of_eq tm_len) rfl ?_
  refine tv_aload_n dMO_makesFor_0 rfl rfl ?_
  refine tv_aload_n dMO_makesFor_1 rfl rfl ?_
  refine gMO_19 rfl dMO_makesFor_2 ?_
  refine tv_iload_n dMO_makesFor_5 rfl rfl ?_
  refine ldM_4 dMO_makesFor_6 ht ?_
  refine tv_iload_n dMO_makesFor_7 rfl rfl ?_
  refine tv_callV2r kMO_99 (by decide) (Nat.le_of_ble_eq_true rfl) ⟨rfl, rfl⟩ rfl (mm_lacking τ (τ.1 2 t) hp) ⟨Nat.zero_le _, Nat.zero_le _⟩ dMO_makesFor_8 ?_
  refine tv_iconst (v := -1) dMO_makesFor_11 (by decide) ?_
  refine tv_icmp_ne (tgt := 19) dMO_makesFor_12 (by decide) (fun c12 => ?_) (fun c12 => ?_)
  · have hr := tc_rb (b := tc_fit (τ.1 2 t) (τ.1 0 p)) (b' := false) (by
      cases e : tc_fit (τ.1 2 t) (τ.1 0 p)
      · rfl
      · exact absurd ((tc_oI_m1 (fun k q => tc_ff_bd q (by omega))).mpr (tm_lk_fit.mpr e)) c12)
    refine tv_iconst (v := 0) dMO_makesFor_19 (by decide) ?_
    exact tv_iret dMO_makesFor_20 rfl rfl hr rfl
  · have hr := tc_rb (tm_lk_fit.mp ((tc_oI_m1 (fun k q => tc_ff_bd q (by omega))).mp c12))
    refine tv_iconst (v := 1) dMO_makesFor_15 (by decide) ?_
    refine tv_goto (tgt := 20) dMO_makesFor_16 (by decide) ?_
    exact tv_iret dMO_makesFor_20 rfl rfl hr rfl
def tm_wf (τ : tcS) (t k : Nat) : Nat → Nat → Bool → Bool
  | 0, _, b => b
  | n + 1, i, b => tm_wf τ t k n (i + 1) (b || (decide (τ.2.1 3 i = t) && decide (τ.2.1 4 i = k)))
def tm_wants (τ : tcS) (t k : Nat) : Bool := tm_wf τ t k (τ.2.2.2 2) 0 false
theorem tm_wf_eq {τ : tcS} {t k : Nat} : ∀ {n i : Nat} {b : Bool}, tm_wf τ t k n i b = true ↔ b = true ∨ ∃ j, i ≤ j ∧ j < i + n ∧ τ.2.1 3 j = t ∧ τ.2.1 4 j = k
  | 0, i, b => ⟨Or.inl, fun h => h.elim id (fun ⟨j, h1, h2, _⟩ => absurd h2 (by omega))⟩
  | n + 1, i, b => by
    unfold tm_wf
    rw [tm_wf_eq, Bool.or_eq_true, Bool.and_eq_true, decide_eq_true_eq, decide_eq_true_eq]
    constructor
    · rintro ((h | h) | ⟨j, h1, h2, h3⟩)
      · exact Or.inl h
      · exact Or.inr ⟨i, Nat.le_refl _, by omega, h⟩
      · exact Or.inr ⟨j, by omega, by omega, h3⟩
    · rintro (h | ⟨j, h1, h2, h3⟩)
      · exact Or.inl (Or.inl h)
      · by_cases e : j = i
        · subst e
          exact Or.inl (Or.inr h3)
        · exact Or.inr ⟨j, by omega, by omega, h3⟩
theorem tm_wants_eq {τ : tcS} {t k : Nat} : tm_wants τ t k = true ↔ ∃ j, j < τ.2.2.2 2 ∧ τ.2.1 3 j = t ∧ τ.2.1 4 j = k := by
  unfold tm_wants
  rw [tm_wf_eq]
  constructor
  · rintro (h | ⟨j, h1, h2, h3⟩)
    · cases h
    · exact ⟨j, by omega, h3⟩
  · rintro ⟨j, h1, h3⟩
    exact Or.inr ⟨j, by omega, by omega, h3⟩
set_option maxHeartbeats 4000000 in
set_option maxRecDepth 100000 in
theorem ml_wants_5 (τ : tcS) (hI : tm_I τ) {t k : Nat} (ht : t < 24) (hk : k < 8) {K : tcK} : ∀ (n : Nat) (i : Nat) (b : Bool), i + n = τ.2.2.2 2 → K.2.1 = some (.inl (tc_b2 (tm_wf τ t k n i b))) → K.2.2.1 = tm_h τ → tc_V (cMO_wants, 5, yMO_wants.cls, some .boolean, 0, yMO_wants.name) K 0 0 (tm_h τ) 5 [some (.inr (some 0)), some (.inl (nI t)), some (.inl (nI k)), some (.inl (tc_b2 b)), some (.inl (nI i))] [] := by
  intro n
  induction n with
  | zero =>
    intro i b hi hr hh
    obtain ⟨iP, iT, iN, iA, iR, iK, iO, iQ, iF, iB, iW⟩ := id hI
    refine tv_iload dMO_wants_5 rfl ?_
    refine tv_aload_n dMO_wants_7 rfl rfl ?_
    refine gMO_85 rfl dMO_wants_8 ?_
    refine tv_icmp_ge (tgt := 52) dMO_wants_11 (by decide) (fun c11 => ?_) (fun c11 => absurd (nI_le (by omega) (by omega)) c11)
    refine tv_iload_n dMO_wants_52 rfl rfl ?_
    exact tv_iret dMO_wants_53 rfl (by cases b <;> rfl) hr hh
  | succ n ih =>
    intro i b hi hr hh
    obtain ⟨iP, iT, iN, iA, iR, iK, iO, iQ, iF, iB, iW⟩ := id hI
    have iW1 := iW i (by omega)
    refine tv_iload dMO_wants_5 rfl ?_
    refine tv_aload_n dMO_wants_7 rfl rfl ?_
    refine gMO_85 rfl dMO_wants_8 ?_
    refine tv_icmp_ge (tgt := 52) dMO_wants_11 (by decide) (fun c11 => absurd c11 (nI_ge (by omega) (by omega))) (fun c11 => ?_)
    refine tv_iload_n dMO_wants_14 rfl rfl ?_
    refine tv_if_ne (tgt := 40) dMO_wants_15 (by decide) (fun c15 => ?_) (fun c15 => ?_)
    · have e45 : (b || (decide (τ.2.1 3 i = t) && decide (τ.2.1 4 i = k))) = true := by simp [tc_b2_n.mp c15]
      refine tv_iconst (v := 1) dMO_wants_40 (by decide) ?_
      refine tv_goto (tgt := 45) dMO_wants_41 (by decide) ?_
      refine tv_top (b := .inl (tc_b2 (b || (decide (τ.2.1 3 i = t) && decide (τ.2.1 4 i = k))))) (congrArg Sum.inl (by rw [e45]; rfl)) ?_
      refine tv_istN_3 dMO_wants_45 (by decide) ?_
      refine tv_iinc_4 dMO_wants_46 (by decide) (nI_1 i) ?_
      refine tv_goto (tgt := 5) dMO_wants_49 (by decide) ?_
      exact ih (i + 1) _ (by omega) hr hh
    · have d15 := tc_b2_0.mp c15
      refine tv_aload_n dMO_wants_18 rfl rfl ?_
      refine gMO_28 rfl dMO_wants_19 ?_
      refine tv_iload dMO_wants_22 rfl ?_
      refine ldM_7 dMO_wants_24 (by omega) ?_
      refine tv_iload_n dMO_wants_25 rfl rfl ?_
      refine tv_icmp_ne (tgt := 44) dMO_wants_26 (by decide) (fun c26 => ?_) (fun c26 => ?_)
      · have d26 : ¬ τ.2.1 3 i = t := fun q => c26 (by rw [q])
        have e45 : (b || (decide (τ.2.1 3 i = t) && decide (τ.2.1 4 i = k))) = false := by simp [d15, d26]
        refine tv_iconst (v := 0) dMO_wants_44 (by decide) ?_
        refine tv_top (b := .inl (tc_b2 (b || (decide (τ.2.1 3 i = t) && decide (τ.2.1 4 i = k))))) (congrArg Sum.inl (by rw [e45]; rfl)) ?_
        refine tv_istN_3 dMO_wants_45 (by decide) ?_
        refine tv_iinc_4 dMO_wants_46 (by decide) (nI_1 i) ?_
        refine tv_goto (tgt := 5) dMO_wants_49 (by decide) ?_
        exact ih (i + 1) _ (by omega) hr hh
      · have d26 : τ.2.1 3 i = t := (nI_eq (by omega) (by omega)).mp c26
        refine tv_aload_n dMO_wants_29 rfl rfl ?_
        refine gMO_31 rfl dMO_wants_30 ?_
        refine tv_iload dMO_wants_33 rfl ?_
        refine ldM_8 dMO_wants_35 (by omega) ?_
        refine tv_iload_n dMO_wants_36 rfl rfl ?_
        refine tv_icmp_ne (tgt := 44) dMO_wants_37 (by decide) (fun c37 => ?_) (fun c37 => ?_)
        · have d37 : ¬ τ.2.1 4 i = k := fun q => c37 (by rw [q])
          have e45 : (b || (decide (τ.2.1 3 i = t) && decide (τ.2.1 4 i = k))) = false := by simp [d15, d37]
          refine tv_iconst (v := 0) dMO_wants_44 (by decide) ?_
          refine tv_top (b := .inl (tc_b2 (b || (decide (τ.2.1 3 i = t) && decide (τ.2.1 4 i = k))))) (congrArg Sum.inl (by rw [e45]; rfl)) ?_
          refine tv_istN_3 dMO_wants_45 (by decide) ?_
          refine tv_iinc_4 dMO_wants_46 (by decide) (nI_1 i) ?_
          refine tv_goto (tgt := 5) dMO_wants_49 (by decide) ?_
          exact ih (i + 1) _ (by omega) hr hh
        · have d37 : τ.2.1 4 i = k := (nI_eq (by omega) (by omega)).mp c37
          have e45 : (b || (decide (τ.2.1 3 i = t) && decide (τ.2.1 4 i = k))) = true := by simp [d26, d37]
          refine tv_iconst (v := 1) dMO_wants_40 (by decide) ?_
          refine tv_goto (tgt := 45) dMO_wants_41 (by decide) ?_
          refine tv_top (b := .inl (tc_b2 (b || (decide (τ.2.1 3 i = t) && decide (τ.2.1 4 i = k))))) (congrArg Sum.inl (by rw [e45]; rfl)) ?_
          refine tv_istN_3 dMO_wants_45 (by decide) ?_
          refine tv_iinc_4 dMO_wants_46 (by decide) (nI_1 i) ?_
          refine tv_goto (tgt := 5) dMO_wants_49 (by decide) ?_
          exact ih (i + 1) _ (by omega) hr hh
set_option maxHeartbeats 4000000 in
set_option maxRecDepth 100000 in
theorem mm_wants (τ : tcS) (hI : tm_I τ) {t k : Nat} (ht : t < 24) (hk : k < 8) : tc_M yMO_wants cMO_wants 5 (some .boolean) 0 [.inr (some 0), .inl (nI t), .inl (nI k)] (tm_h τ, some (.inl (tc_b2 (tm_wants τ t k))), tm_h τ, 0, 0) := by
  refine tc_met (by decide) (Nat.le_of_ble_eq_true rfl) (Nat.le_of_eq tm_len) rfl ?_
  refine tv_iconst (v := 0) dMO_wants_0 (by decide) ?_
  refine tv_istN_3 dMO_wants_1 (by decide) ?_
  refine tv_iconst (v := 0) dMO_wants_2 (by decide) ?_
  refine tv_ist_4 dMO_wants_3 (by decide) ?_
  exact ml_wants_5 τ hI ht hk (τ.2.2.2 2) 0 false (by omega) rfl rfl
def tm_pf (τ : tcS) (k : Nat) : Nat → Nat → Option Nat → Option Nat
  | 0, _, g => g
  | n + 1, i, g => tm_pf τ k n (i + 1) (if τ.2.1 2 i = k then some i else g)
def tm_place (τ : tcS) (k : Nat) : Option Nat := tm_pf τ k (τ.2.2.2 3) 0 none
set_option maxHeartbeats 4000000 in
set_option maxRecDepth 100000 in
theorem ml_place_4 (τ : tcS) (hI : tm_I τ) {k : Nat} (hk : k < 8) {K : tcK} : ∀ (n : Nat) (i : Nat) (g : Option Nat), i + n = τ.2.2.2 3 → K.2.1 = some (.inl (tc_oI (tm_pf τ k n i g))) → K.2.2.1 = tm_h τ → tc_V (cMO_place, 4, yMO_place.cls, some .int, 0, yMO_place.name) K 0 0 (tm_h τ) 4 [some (.inr (some 0)), some (.inl (nI k)), some (.inl (tc_oI g)), some (.inl (nI i))] [] := by
  intro n
  induction n with
  | zero =>
    intro i g hi hr hh
    obtain ⟨iP, iT, iN, iA, iR, iK, iO, iQ, iF, iB, iW⟩ := id hI
    refine tv_iload_n dMO_place_4 rfl rfl ?_
    refine tv_aload_n dMO_place_5 rfl rfl ?_
    refine gMO_92 rfl dMO_place_6 ?_
    refine tv_icmp_ge (tgt := 34) dMO_place_9 (by decide) (fun c9 => ?_) (fun c9 => absurd (nI_le (by omega) (by omega)) c9)
    refine tv_iload_n dMO_place_34 rfl rfl ?_
    exact tv_iret dMO_place_35 rfl rfl hr hh
  | succ n ih =>
    intro i g hi hr hh
    obtain ⟨iP, iT, iN, iA, iR, iK, iO, iQ, iF, iB, iW⟩ := id hI
    refine tv_iload_n dMO_place_4 rfl rfl ?_
    refine tv_aload_n dMO_place_5 rfl rfl ?_
    refine gMO_92 rfl dMO_place_6 ?_
    refine tv_icmp_ge (tgt := 34) dMO_place_9 (by decide) (fun c9 => absurd c9 (nI_ge (by omega) (by omega))) (fun c9 => ?_)
    refine tv_aload_n dMO_place_12 rfl rfl ?_
    refine gMO_34 rfl dMO_place_13 ?_
    refine tv_iload_n dMO_place_16 rfl rfl ?_
    refine ldM_9 dMO_place_17 (by omega) ?_
    refine tv_iload_n dMO_place_18 rfl rfl ?_
    refine tv_icmp_ne (tgt := 26) dMO_place_19 (by decide) (fun c19 => ?_) (fun c19 => ?_)
    · have e27 : (if τ.2.1 2 i = k then some i else g) = g := if_neg (fun q => c19 (by rw [q]))
      refine tv_iload_n dMO_place_26 rfl rfl ?_
      refine tv_top (b := .inl (tc_oI (if τ.2.1 2 i = k then some i else g))) (congrArg Sum.inl (by rw [e27] <;> rfl)) ?_
      refine tv_istN_2 dMO_place_27 (by decide) ?_
      refine tv_iinc_3 dMO_place_28 (by decide) (nI_1 i) ?_
      refine tv_goto (tgt := 4) dMO_place_31 (by decide) ?_
      exact ih (i + 1) _ (by omega) hr hh
    · have e27 : (if τ.2.1 2 i = k then some i else g) = some i := if_pos ((nI_eq (by have := iQ i (by omega); omega) (by omega)).mp c19)
      refine tv_iload_n dMO_place_22 rfl rfl ?_
      refine tv_goto (tgt := 27) dMO_place_23 (by decide) ?_
      refine tv_top (b := .inl (tc_oI (if τ.2.1 2 i = k then some i else g))) (congrArg Sum.inl (by rw [e27] <;> rfl)) ?_
      refine tv_istN_2 dMO_place_27 (by decide) ?_
      refine tv_iinc_3 dMO_place_28 (by decide) (nI_1 i) ?_
      refine tv_goto (tgt := 4) dMO_place_31 (by decide) ?_
      exact ih (i + 1) _ (by omega) hr hh
set_option maxHeartbeats 4000000 in
set_option maxRecDepth 100000 in
theorem mm_place (τ : tcS) (hI : tm_I τ) {k : Nat} (hk : k < 8) : tc_M yMO_place cMO_place 4 (some .int) 0 [.inr (some 0), .inl (nI k)] (tm_h τ, some (.inl (tc_oI (tm_place τ k))), tm_h τ, 0, 0) := by
  refine tc_met (by decide) (Nat.le_of_ble_eq_true rfl) (Nat.le_of_eq tm_len) rfl ?_
  refine tv_iconst (v := -1) dMO_place_0 (by decide) ?_
  refine tv_istN_2 dMO_place_1 (by decide) ?_
  refine tv_iconst (v := 0) dMO_place_2 (by decide) ?_
  refine tv_istN_3 dMO_place_3 (by decide) ?_
  exact ml_place_4 τ hI hk (τ.2.2.2 3) 0 none (by omega) rfl rfl

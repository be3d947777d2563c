set_option maxHeartbeats 4000000 in
set_option maxRecDepth 100000 in
theorem cc_ak_size (σ : tcS) : tc_M yAK_size cAK_size 1 (some .int) 0 [.inr (some 8)] (tc_hC σ, some (.inl (nI (σ.2.2.2 3))), tc_hC σ, 0, 0) := by
  refine tc_met (by decide) (Nat.le_of_ble_eq_true rfl) (Nat.le_of_eq tc_hC_len) rfl ?_
  refine tv_aload_n dAK_size_0 rfl rfl ?_
  refine gAK_22 rfl dAK_size_1 ?_
  exact tv_iret dAK_size_4 rfl rfl rfl rfl
set_option maxHeartbeats 4000000 in
set_option maxRecDepth 100000 in
theorem cc_ak_kindAt (σ : tcS) {i : Nat} (hi : i < 8) : tc_M yAK_kindAt cAK_kindAt 2 (some .int) 0 [.inr (some 8), .inl (nI i)] (tc_hC σ, some (.inl (nI (σ.2.1 2 i))), tc_hC σ, 0, 0) := by
  refine tc_met (by decide) (Nat.le_of_ble_eq_true rfl) (Nat.le_of_eq tc_hC_len) rfl ?_
  refine tv_aload_n dAK_kindAt_0 rfl rfl ?_
  refine gAK_9 rfl dAK_kindAt_1 ?_
  refine tv_iload_n dAK_kindAt_4 rfl rfl ?_
  refine ldC_9 dAK_kindAt_5 hi ?_
  exact tv_iret dAK_kindAt_6 rfl rfl rfl rfl
set_option maxHeartbeats 4000000 in
set_option maxRecDepth 100000 in
theorem cc_ak_leastVersion (σ : tcS) {i : Nat} (hi : i < 8) : tc_M yAK_leastVersion cAK_leastVersion 2 (some .int) 0 [.inr (some 8), .inl (nI i)] (tc_hC σ, some (.inl (σ.1 10 i)), tc_hC σ, 0, 0) := by
  refine tc_met (by decide) (Nat.le_of_ble_eq_true rfl) (Nat.le_of_eq tc_hC_len) rfl ?_
  refine tv_aload_n dAK_leastVersion_0 rfl rfl ?_
  refine gAK_15 rfl dAK_leastVersion_1 ?_
  refine tv_iload_n dAK_leastVersion_4 rfl rfl ?_
  refine ldC_10 dAK_leastVersion_5 hi ?_
  exact tv_iret dAK_leastVersion_6 rfl rfl rfl rfl
set_option maxHeartbeats 4000000 in
set_option maxRecDepth 100000 in
theorem cc_ak_isNeeded (σ : tcS) {i : Nat} (hi : i < 8) (hb : σ.1 11 i = 0 ∨ σ.1 11 i = 1) : tc_M yAK_isNeeded cAK_isNeeded 2 (some .boolean) 0 [.inr (some 8), .inl (nI i)] (tc_hC σ, some (.inl (σ.1 11 i)), tc_hC σ, 0, 0) := by
  refine tc_met (by decide) (Nat.le_of_ble_eq_true rfl) (Nat.le_of_eq tc_hC_len) rfl ?_
  refine tv_aload_n dAK_isNeeded_0 rfl rfl ?_
  refine gAK_18 rfl dAK_isNeeded_1 ?_
  refine tv_iload_n dAK_isNeeded_4 rfl rfl ?_
  refine ldC_11 dAK_isNeeded_5 hi ?_
  exact tv_iret dAK_isNeeded_6 rfl (by rcases hb with q | q <;> rw [q] <;> rfl) rfl rfl
set_option maxHeartbeats 4000000 in
set_option maxRecDepth 100000 in
theorem cl_ak_find_2 (σ : tcS) (hI : tc_I σ) {k : Nat} (hk : k < 8) {K : tcK} : ∀ (n : Nat) (i : Nat), i + n = σ.2.2.2 3 → K.2.1 = some (.inl (tc_oI (tc_ff (fun i => decide (σ.2.1 2 i = k)) n i))) → K.2.2.1 = tc_hC σ → tc_V (cAK_find, 3, yAK_find.cls, some .int, 0, yAK_find.name) K 0 0 (tc_hC σ) 2 [some (.inr (some 8)), some (.inl (nI k)), some (.inl (nI i))] [] := by
  intro n
  induction n with
  | zero =>
    intro i hi hr hh
    obtain ⟨iP, iT, iN, iA, iR, iK, iO, iQ, iF, iB⟩ := id hI
    refine tv_iload_n dAK_find_2 rfl rfl ?_
    refine tv_aload_n dAK_find_3 rfl rfl ?_
    refine gAK_22 rfl dAK_find_4 ?_
    refine tv_icmp_ge (tgt := 28) dAK_find_7 (by decide) (fun c7 => ?_) (fun c7 => absurd (nI_le (by omega) (by omega)) c7)
    refine tv_iconst (v := -1) dAK_find_28 (by decide) ?_
    exact tv_iret dAK_find_29 rfl rfl hr hh
  | succ n ih =>
    intro i hi hr hh
    obtain ⟨iP, iT, iN, iA, iR, iK, iO, iQ, iF, iB⟩ := id hI
    refine tv_iload_n dAK_find_2 rfl rfl ?_
    refine tv_aload_n dAK_find_3 rfl rfl ?_
    refine gAK_22 rfl dAK_find_4 ?_
    refine tv_icmp_ge (tgt := 28) dAK_find_7 (by decide) (fun c7 => absurd c7 (nI_ge (by omega) (by omega))) (fun c7 => ?_)
    refine tv_aload_n dAK_find_10 rfl rfl ?_
    refine gAK_9 rfl dAK_find_11 ?_
    refine tv_iload_n dAK_find_14 rfl rfl ?_
    refine ldC_9 dAK_find_15 (by omega) ?_
    refine tv_iload_n dAK_find_16 rfl rfl ?_
    refine tv_icmp_ne (tgt := 22) dAK_find_17 (by decide) (fun c17 => ?_) (fun c17 => ?_)
    · refine tv_iinc_2 dAK_find_22 (by decide) (nI_1 i) ?_
      refine tv_goto (tgt := 2) dAK_find_25 (by decide) ?_
      exact ih (i + 1) (by omega) (by rw [hr, tc_ff_no (decide_eq_false (fun e => c17 (by rw [e])))]) hh
    · refine tv_iload_n dAK_find_20 rfl rfl ?_
      exact tv_iret dAK_find_21 rfl rfl (by rw [hr, tc_ff_yes (decide_eq_true ((nI_eq (by have := iQ i (by omega); omega) (by omega)).mp c17))]; rfl) hh
set_option maxHeartbeats 4000000 in
set_option maxRecDepth 100000 in
theorem cc_ak_find (σ : tcS) (hI : tc_I σ) {k : Nat} (hk : k < 8) : tc_M yAK_find cAK_find 3 (some .int) 0 [.inr (some 8), .inl (nI k)] (tc_hC σ, some (.inl (tc_oI (tc_find σ k))), tc_hC σ, 0, 0) := by
  refine tc_met (by decide) (Nat.le_of_ble_eq_true rfl) (Nat.le_of_eq tc_hC_len) rfl ?_
  refine tv_iconst (v := 0) dAK_find_0 (by decide) ?_
  refine tv_istN_2 dAK_find_1 (by decide) ?_
  exact cl_ak_find_2 σ hI hk (σ.2.2.2 3) 0 (by omega) rfl rfl
theorem tc_ff_lt {p : Nat → Bool} : ∀ {n k i : Nat}, tc_ff p n k = some i → k ≤ i ∧ i < k + n ∧ p i = true
  | 0, k, i, h => by simp [tc_ff] at h
  | n + 1, k, i, h => by
    unfold tc_ff at h
    by_cases hp : p k = true
    · rw [if_pos hp] at h
      cases h
      exact ⟨Nat.le_refl _, by omega, hp⟩
    · rw [if_neg hp] at h
      obtain ⟨h1, h2, h3⟩ := tc_ff_lt h
      exact ⟨by omega, by omega, h3⟩
theorem tc_find_b {σ : tcS} (hI : tc_I σ) {k i : Nat} (h : tc_find σ k = some i) : i < σ.2.2.2 3 ∧ i < 8 := by
  obtain ⟨-, h2, -⟩ := tc_ff_lt h
  have := hI.2.2.2.1
  omega
set_option maxHeartbeats 4000000 in
set_option maxRecDepth 100000 in
theorem cc_ak_put (σ : tcS) (hI : tc_I σ) {k : Nat} (hk : k < 8) (v b : Int32) (hb : vp_nar .boolean b = b) : tc_M yAK_put cAK_put 4 (none) 1 [.inr (some 8), .inl (nI k), .inl v, .inl b] (tc_hC σ, none, tc_hC (tc_put σ k v b), 0, 0) := by
  refine tc_met (by decide) (Nat.le_of_ble_eq_true rfl) (Nat.le_of_eq tc_hC_len) rfl ?_
  refine tv_aload_n dAK_put_0 rfl rfl ?_
  refine tv_iload_n dAK_put_1 rfl rfl ?_
  refine tv_callV1r kAK_26 (by decide) (Nat.le_of_ble_eq_true rfl) ⟨rfl, rfl⟩ rfl (cc_ak_find σ hI hk) ⟨Nat.zero_le _, Nat.zero_le _⟩ dAK_put_2 ?_
  refine tv_iconst (v := -1) dAK_put_5 (by decide) ?_
  refine tv_icmp_ne (tgt := 38) dAK_put_6 (by decide) (fun c6 => ?_) (fun c6 => ?_)
  · have hp : ¬ (tc_find σ k = none ∧ σ.2.2.2 3 < 8) := fun q => c6 ((tc_oI_m1 (fun i q => by have := tc_find_b hI q; omega)).mpr q.1)
    have hh : tc_hC (tc_put σ k v b) = tc_hC (tc_s1 (tc_s1 σ 10 (upd (σ.1 10) k v)) 11 (upd (σ.1 11) k b)) := by unfold tc_put; rw [if_neg hp]
    refine tv_aload_n dAK_put_38 rfl rfl ?_
    refine gAK_15 rfl dAK_put_39 ?_
    refine tv_iload_n dAK_put_42 rfl rfl ?_
    refine tv_iload_n dAK_put_43 rfl rfl ?_
    refine stC_10 dAK_put_44 hk ?_
    refine tv_aload_n dAK_put_45 rfl rfl ?_
    refine gAK_18 rfl dAK_put_46 ?_
    refine tv_iload_n dAK_put_49 rfl rfl ?_
    refine tv_iload_n dAK_put_50 rfl rfl ?_
    refine stC_11 dAK_put_51 hk hb ?_
    exact tv_vret dAK_put_52 rfl rfl hh
  · have e6 := (tc_oI_m1 (fun i q => by have := tc_find_b hI q; omega)).mp c6
    refine tv_aload_n dAK_put_9 rfl rfl ?_
    refine gAK_22 rfl dAK_put_10 ?_
    refine tv_bipush (v := 8) dAK_put_13 (by decide) ?_
    refine tv_icmp_ge (tgt := 38) dAK_put_15 (by decide) (fun c15 => ?_) (fun c15 => ?_)
    · have hp : ¬ (tc_find σ k = none ∧ σ.2.2.2 3 < 8) := fun q => absurd c15 (nI_ge (b := 8) q.2 (by omega))
      have hh : tc_hC (tc_put σ k v b) = tc_hC (tc_s1 (tc_s1 σ 10 (upd (σ.1 10) k v)) 11 (upd (σ.1 11) k b)) := by unfold tc_put; rw [if_neg hp]
      refine tv_aload_n dAK_put_38 rfl rfl ?_
      refine gAK_15 rfl dAK_put_39 ?_
      refine tv_iload_n dAK_put_42 rfl rfl ?_
      refine tv_iload_n dAK_put_43 rfl rfl ?_
      refine stC_10 dAK_put_44 hk ?_
      refine tv_aload_n dAK_put_45 rfl rfl ?_
      refine gAK_18 rfl dAK_put_46 ?_
      refine tv_iload_n dAK_put_49 rfl rfl ?_
      refine tv_iload_n dAK_put_50 rfl rfl ?_
      refine stC_11 dAK_put_51 hk hb ?_
      exact tv_vret dAK_put_52 rfl rfl hh
    · have hp : tc_find σ k = none ∧ σ.2.2.2 3 < 8 := ⟨e6, by
        rcases Nat.lt_or_ge (σ.2.2.2 3) 8 with q | q
        · exact q
        · exact absurd (nI_le (a := 8) q (by have := hI.2.2.2.1; omega)) c15⟩
      have hh : tc_hC (tc_put σ k v b) = tc_hC (tc_s1 (tc_s1 (tc_s4 (tc_s2 σ 2 (va_up (σ.2.1 2) (σ.2.2.2 3) k)) 3 (σ.2.2.2 3 + 1)) 10 (upd (σ.1 10) k v)) 11 (upd (σ.1 11) k b)) := by unfold tc_put; rw [if_pos hp]
      refine tv_aload_n dAK_put_18 rfl rfl ?_
      refine gAK_9 rfl dAK_put_19 ?_
      refine tv_aload_n dAK_put_22 rfl rfl ?_
      refine gAK_22 rfl dAK_put_23 ?_
      refine tv_iload_n dAK_put_26 rfl rfl ?_
      refine stC_9 dAK_put_27 hp.2 ?_
      refine tv_aload_n dAK_put_28 rfl rfl ?_
      refine tv_dup dAK_put_29 ?_
      refine gAK_22 rfl dAK_put_30 ?_
      refine tv_iconst (v := 1) dAK_put_33 (by decide) ?_
      refine tv_iadd dAK_put_34 ?_
      refine tv_top (b := .inl (nI (σ.2.2.2 3 + 1))) (congrArg Sum.inl (nI_1 _)) ?_
      refine pAK_22 rfl dAK_put_35 ?_
      refine tv_aload_n dAK_put_38 rfl rfl ?_
      refine gAK_15 rfl dAK_put_39 ?_
      refine tv_iload_n dAK_put_42 rfl rfl ?_
      refine tv_iload_n dAK_put_43 rfl rfl ?_
      refine stC_10 dAK_put_44 hk ?_
      refine tv_aload_n dAK_put_45 rfl rfl ?_
      refine gAK_18 rfl dAK_put_46 ?_
      refine tv_iload_n dAK_put_49 rfl rfl ?_
      refine tv_iload_n dAK_put_50 rfl rfl ?_
      refine stC_11 dAK_put_51 hk hb ?_
      exact tv_vret dAK_put_52 rfl rfl hh
set_option maxHeartbeats 4000000 in
set_option maxRecDepth 100000 in
theorem cl_ak_remove_25 {K : tcK} {x1 x2 : Option tcV} : ∀ (n : Nat) (j : Nat) (ρ : tcS), j + n = ρ.2.2.2 3 → ρ.2.2.2 3 + 1 ≤ 8 → K.2.1 = some (.inl 1) → K.2.2.1 = tc_hC (tc_up tc_rmB n j ρ) → tc_V (cAK_remove, 4, yAK_remove.cls, some .boolean, 1, yAK_remove.name) K 0 0 (tc_hC ρ) 25 [some (.inr (some 8)), x1, x2, some (.inl (nI j))] [] := by
  intro n
  induction n with
  | zero =>
    intro j ρ hj h8 hr hh
    refine tv_iload_n dAK_remove_25 rfl rfl ?_
    refine tv_aload_n dAK_remove_26 rfl rfl ?_
    refine gAK_22 rfl dAK_remove_27 ?_
    refine tv_icmp_ge (tgt := 53) dAK_remove_30 (by decide) (fun c30 => ?_) (fun c30 => absurd (nI_le (by omega) (by omega)) c30)
    refine tv_iconst (v := 1) dAK_remove_53 (by decide) ?_
    exact tv_iret dAK_remove_54 rfl rfl hr hh
  | succ n ih =>
    intro j ρ hj h8 hr hh
    refine tv_iload_n dAK_remove_25 rfl rfl ?_
    refine tv_aload_n dAK_remove_26 rfl rfl ?_
    refine gAK_22 rfl dAK_remove_27 ?_
    refine tv_icmp_ge (tgt := 53) dAK_remove_30 (by decide) (fun c30 => absurd c30 (nI_ge (by omega) (by omega))) (fun c30 => ?_)
    refine tv_aload_n dAK_remove_33 rfl rfl ?_
    refine gAK_9 rfl dAK_remove_34 ?_
    refine tv_iload_n dAK_remove_37 rfl rfl ?_
    refine tv_aload_n dAK_remove_38 rfl rfl ?_
    refine gAK_9 rfl dAK_remove_39 ?_
    refine tv_iload_n dAK_remove_42 rfl rfl ?_
    refine tv_iconst (v := 1) dAK_remove_43 (by decide) ?_
    refine tv_iadd dAK_remove_44 ?_
    refine tv_top (b := .inl (nI (j + 1))) (congrArg Sum.inl (nI_1 j)) ?_
    refine ldC_9 dAK_remove_45 (by omega) ?_
    refine stC_9 dAK_remove_46 (by omega) ?_
    refine tv_iinc_3 dAK_remove_47 (by decide) (nI_1 j) ?_
    refine tv_goto (tgt := 25) dAK_remove_50 (by decide) ?_
    exact ih (j + 1) (tc_rmB j ρ) (by show j + 1 + n = ρ.2.2.2 3; omega) h8 hr hh
set_option maxHeartbeats 4000000 in
set_option maxRecDepth 100000 in
theorem cc_ak_remove (σ : tcS) (hI : tc_I σ) {k : Nat} (hk : k < 8) : tc_M yAK_remove cAK_remove 4 (some .boolean) 1 [.inr (some 8), .inl (nI k)] (tc_hC σ, some (.inl (tc_b2 (tc_rem σ k).1)), tc_hC (tc_rem σ k).2, 0, 0) := by
  have hc := cc_ak_find σ hI hk
  cases hf : tc_find σ k with
  | none =>
    rw [hf] at hc
    have hr : tc_rem σ k = (false, σ) := by unfold tc_rem; rw [hf]
    refine tc_met (by decide) (Nat.le_of_ble_eq_true rfl) (Nat.le_of_eq tc_hC_len) rfl ?_
    refine tv_aload_n dAK_remove_0 rfl rfl ?_
    refine tv_iload_n dAK_remove_1 rfl rfl ?_
    refine tv_callV1r kAK_26 (by decide) (Nat.le_of_ble_eq_true rfl) ⟨rfl, rfl⟩ rfl hc ⟨Nat.zero_le _, Nat.zero_le _⟩ dAK_remove_2 ?_
    refine tv_istN_2 dAK_remove_5 (by decide) ?_
    refine tv_iload_n dAK_remove_6 rfl rfl ?_
    refine tv_iconst (v := -1) dAK_remove_7 (by decide) ?_
    refine tv_icmp_ne (tgt := 13) dAK_remove_8 (by decide) (fun c8 => absurd rfl c8) (fun c8 => ?_)
    refine tv_iconst (v := 0) dAK_remove_11 (by decide) ?_
    exact tv_iret dAK_remove_12 rfl rfl (by show some (Sum.inl (tc_b2 (tc_rem σ k).1)) = _; rw [hr]; rfl) (by show tc_hC (tc_rem σ k).2 = _; rw [hr])
  | some i =>
    rw [hf] at hc
    have hb := tc_find_b hI hf
    have hA := hI.2.2.2.1
    have hr : tc_rem σ k = (true, tc_up tc_rmB (σ.2.2.2 3 - 1 - i) i (tc_s4 σ 3 (σ.2.2.2 3 - 1))) := by unfold tc_rem; rw [hf]
    refine tc_met (by decide) (Nat.le_of_ble_eq_true rfl) (Nat.le_of_eq tc_hC_len) rfl ?_
    refine tv_aload_n dAK_remove_0 rfl rfl ?_
    refine tv_iload_n dAK_remove_1 rfl rfl ?_
    refine tv_callV1r kAK_26 (by decide) (Nat.le_of_ble_eq_true rfl) ⟨rfl, rfl⟩ rfl hc ⟨Nat.zero_le _, Nat.zero_le _⟩ dAK_remove_2 ?_
    refine tv_top (b := .inl (nI i)) rfl ?_
    refine tv_istN_2 dAK_remove_5 (by decide) ?_
    refine tv_iload_n dAK_remove_6 rfl rfl ?_
    refine tv_iconst (v := -1) dAK_remove_7 (by decide) ?_
    refine tv_icmp_ne (tgt := 13) dAK_remove_8 (by decide) (fun c8 => ?_) (fun c8 => absurd ((tc_oI_m1 (o := some i) (fun a q => by cases q; omega)).mp c8) (by simp))
    refine tv_aload_n dAK_remove_13 rfl rfl ?_
    refine tv_dup dAK_remove_14 ?_
    refine gAK_22 rfl dAK_remove_15 ?_
    refine tv_iconst (v := 1) dAK_remove_18 (by decide) ?_
    refine tv_isub dAK_remove_19 ?_
    refine tv_top (b := .inl (nI (σ.2.2.2 3 - 1))) (congrArg Sum.inl (pk_sub (b := 1) (by omega))) ?_
    refine pAK_22 rfl dAK_remove_20 ?_
    refine tv_iload_n dAK_remove_23 rfl rfl ?_
    refine tv_istN_3 dAK_remove_24 (by decide) ?_
    exact cl_ak_remove_25 (σ.2.2.2 3 - 1 - i) i (tc_s4 σ 3 (σ.2.2.2 3 - 1)) (by show i + _ = σ.2.2.2 3 - 1; omega) (by show σ.2.2.2 3 - 1 + 1 ≤ 8; omega) (by show some (Sum.inl (tc_b2 (tc_rem σ k).1)) = _; rw [hr]; rfl) (by show tc_hC (tc_rem σ k).2 = _; rw [hr])

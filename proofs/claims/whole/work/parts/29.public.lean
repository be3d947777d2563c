set_option maxHeartbeats 4000000 in
set_option maxRecDepth 100000 in
theorem cc_platform (σ : tcS) (hI : tc_I σ) (c : Int32) : tc_M yTC_platform cTC_platform 2 (some .int) 0 [.inr (some 0), .inl c] (tc_hC σ, some (.inl (tc_oI (tc_platform σ c).1)), tc_hC (tc_platform σ c).2, 0, 0) := by
  obtain ⟨iP, iT, iN, iA, iR, iK, iO, iQ, iF, iB⟩ := id hI
  refine tc_met (by decide) (Nat.le_of_ble_eq_true rfl) (Nat.le_of_eq tc_hC_len) rfl ?_
  refine tv_aload_n dTC_platform_0 rfl rfl ?_
  refine gTC_13 rfl dTC_platform_1 ?_
  refine tv_bipush (v := 6) dTC_platform_4 (by decide) ?_
  refine tv_icmp_lt (tgt := 11) dTC_platform_6 (by decide) (fun c6 => ?_) (fun c6 => ?_)
  · have d6 : ¬ 6 ≤ σ.2.2.2 0 := Nat.not_le.mpr ((nI_ltI (b := 6) (by omega) (by omega)).mp c6)
    have e6 : tc_platform σ c = (some (σ.2.2.2 0), tc_s4 (tc_s1 σ 0 (upd (σ.1 0) (σ.2.2.2 0) c)) 0 (σ.2.2.2 0 + 1)) := by unfold tc_platform; rw [if_neg d6]
    refine tv_aload_n dTC_platform_11 rfl rfl ?_
    refine gTC_9 rfl dTC_platform_12 ?_
    refine tv_aload_n dTC_platform_15 rfl rfl ?_
    refine gTC_13 rfl dTC_platform_16 ?_
    refine tv_iload_n dTC_platform_19 rfl rfl ?_
    refine stC_1 dTC_platform_20 (by omega) ?_
    refine tv_aload_n dTC_platform_21 rfl rfl ?_
    refine tv_dup dTC_platform_22 ?_
    refine gTC_13 rfl dTC_platform_23 ?_
    refine tv_iconst (v := 1) dTC_platform_26 (by decide) ?_
    refine tv_iadd dTC_platform_27 ?_
    refine tv_top (b := .inl (nI (σ.2.2.2 0 + 1))) (congrArg Sum.inl (nI_1 _)) ?_
    refine pTC_13 rfl dTC_platform_28 ?_
    refine tv_aload_n dTC_platform_31 rfl rfl ?_
    refine gTC_13 rfl dTC_platform_32 ?_
    refine tv_iconst (v := 1) dTC_platform_35 (by decide) ?_
    refine tv_isub dTC_platform_36 ?_
    refine tv_top (b := .inl (nI (σ.2.2.2 0))) (congrArg Sum.inl (nI_pred _)) ?_
    exact tv_iret dTC_platform_37 rfl rfl (by show some (Sum.inl (tc_oI (tc_platform σ c).1)) = _; rw [e6]; rfl) (by show tc_hC (tc_platform σ c).2 = _; rw [e6])
  · have d6 : 6 ≤ σ.2.2.2 0 := Nat.not_lt.mp (fun q => c6 (nI_lt (b := 6) q (by omega)))
    have e6 : tc_platform σ c = (none, σ) := by unfold tc_platform; rw [if_pos d6]
    refine tv_iconst (v := -1) dTC_platform_9 (by decide) ?_
    exact tv_iret dTC_platform_10 rfl rfl (by show some (Sum.inl (tc_oI (tc_platform σ c).1)) = _; rw [e6]; rfl) (by show tc_hC (tc_platform σ c).2 = _; rw [e6])
set_option maxHeartbeats 4000000 in
set_option maxRecDepth 100000 in
theorem cc_tool (σ : tcS) (hI : tc_I σ) {k : Nat} (hk : k < 8) (r m v : Int32) : tc_M yTC_tool cTC_tool 6 (some .int) 1 [.inr (some 0), .inl (nI k), .inl r, .inl m, .inl v] (tc_hC σ, some (.inl (tc_oI (tc_tool σ k r m v).1)), tc_hC (tc_tool σ k r m v).2, 0, 0) := by
  obtain ⟨iP, iT, iN, iA, iR, iK, iO, iQ, iF, iB⟩ := id hI
  refine tc_met (by decide) (Nat.le_of_ble_eq_true rfl) (Nat.le_of_eq tc_hC_len) rfl ?_
  refine tv_aload_n dTC_tool_0 rfl rfl ?_
  refine gTC_35 rfl dTC_tool_1 ?_
  refine tv_bipush (v := 24) dTC_tool_4 (by decide) ?_
  refine tv_icmp_ge (tgt := 16) dTC_tool_6 (by decide) (fun c6 => ?_) (fun c6 => ?_)
  · have d6 : 24 ≤ σ.2.2.2 1 := (nI_leI (a := 24) (by omega) (by omega)).mp c6
    have e6 : tc_tool σ k r m v = (none, σ) := by unfold tc_tool; rw [if_pos d6]
    refine tv_iconst (v := -1) dTC_tool_16 (by decide) ?_
    exact tv_iret dTC_tool_17 rfl rfl (by show some (Sum.inl (tc_oI (tc_tool σ k r m v).1)) = _; rw [e6]; rfl) (by show tc_hC (tc_tool σ k r m v).2 = _; rw [e6])
  · have d6 : ¬ 24 ≤ σ.2.2.2 1 := fun q => c6 (nI_le (a := 24) q (by omega))
    have e6 := show tc_tool σ k r m v = (some (σ.2.2.2 1), _) by unfold tc_tool; rw [if_neg d6]
    refine tv_iload_n dTC_tool_9 rfl rfl ?_
    refine tv_callS1r kTC_82 (by decide) (Nat.le_of_ble_eq_true rfl) ⟨rfl, rfl⟩ (cc_isKind _ _) ⟨Nat.zero_le _, Nat.zero_le _⟩ dTC_tool_10 ?_
    refine tv_if_ne (tgt := 18) dTC_tool_13 (by decide) (fun c13 => ?_) (fun c13 => absurd (tc_b2_0.mp c13) (by rw [tc_isN_nI hk (by omega)]; simp))
    refine tv_aload_n dTC_tool_18 rfl rfl ?_
    refine gTC_35 rfl dTC_tool_19 ?_
    refine tv_ist_5 dTC_tool_22 (by decide) ?_
    refine tv_aload_n dTC_tool_24 rfl rfl ?_
    refine gTC_17 rfl dTC_tool_25 ?_
    refine tv_iload dTC_tool_28 rfl ?_
    refine tv_iload_n dTC_tool_30 rfl rfl ?_
    refine stC_2 dTC_tool_31 (by omega) ?_
    refine tv_aload_n dTC_tool_32 rfl rfl ?_
    refine gTC_20 rfl dTC_tool_33 ?_
    refine tv_iload dTC_tool_36 rfl ?_
    refine tv_iload_n dTC_tool_38 rfl rfl ?_
    refine stC_3 dTC_tool_39 (by omega) ?_
    refine tv_aload_n dTC_tool_40 rfl rfl ?_
    refine gTC_23 rfl dTC_tool_41 ?_
    refine tv_iload dTC_tool_44 rfl ?_
    refine tv_iload_n dTC_tool_46 rfl rfl ?_
    refine stC_4 dTC_tool_47 (by omega) ?_
    refine tv_aload_n dTC_tool_48 rfl rfl ?_
    refine gTC_26 rfl dTC_tool_49 ?_
    refine tv_iload dTC_tool_52 rfl ?_
    refine tv_iload dTC_tool_54 rfl ?_
    refine stC_5 dTC_tool_56 (by omega) ?_
    refine tv_aload_n dTC_tool_57 rfl rfl ?_
    refine gTC_32 rfl dTC_tool_58 ?_
    refine tv_iload dTC_tool_61 rfl ?_
    refine tv_iload dTC_tool_63 rfl ?_
    refine stC_7 dTC_tool_65 (by omega) ?_
    refine tv_aload_n dTC_tool_66 rfl rfl ?_
    refine tv_dup dTC_tool_67 ?_
    refine gTC_35 rfl dTC_tool_68 ?_
    refine tv_iconst (v := 1) dTC_tool_71 (by decide) ?_
    refine tv_iadd dTC_tool_72 ?_
    refine tv_top (b := .inl (nI (σ.2.2.2 1 + 1))) (congrArg Sum.inl (nI_1 _)) ?_
    refine pTC_35 rfl dTC_tool_73 ?_
    refine tv_iload dTC_tool_76 rfl ?_
    exact tv_iret dTC_tool_78 rfl rfl (by show some (Sum.inl (tc_oI (tc_tool σ k r m v).1)) = _; rw [e6]; rfl) (by show tc_hC (tc_tool σ k r m v).2 = _; rw [e6]; rfl)
set_option maxHeartbeats 4000000 in
set_option maxRecDepth 100000 in
theorem cc_tool_no (σ : tcS) {x : Int32} (hx : tc_isN x 8 = false) (r m v : Int32) : tc_M yTC_tool cTC_tool 6 (some .int) 1 [.inr (some 0), .inl x, .inl r, .inl m, .inl v] (tc_hC σ, some (.inl (-1)), tc_hC σ, 0, 0) := by
  refine tc_met (by decide) (Nat.le_of_ble_eq_true rfl) (Nat.le_refl _) rfl ?_
  refine tv_aload_n dTC_tool_0 rfl rfl ?_
  refine gTC_35 rfl dTC_tool_1 ?_
  refine tv_bipush (v := 24) dTC_tool_4 (by decide) ?_
  refine tv_icmp_ge (tgt := 16) dTC_tool_6 (by decide) (fun c6 => ?_) (fun c6 => ?_)
  · refine tv_iconst (v := -1) dTC_tool_16 (by decide) ?_
    exact tv_iret dTC_tool_17 rfl rfl rfl rfl
  · refine tv_iload_n dTC_tool_9 rfl rfl ?_
    refine tv_callS1r kTC_82 (by decide) (Nat.le_of_ble_eq_true rfl) ⟨rfl, rfl⟩ (cc_isKind _ _) ⟨Nat.zero_le _, Nat.zero_le _⟩ dTC_tool_10 ?_
    refine tv_if_ne (tgt := 18) dTC_tool_13 (by decide) (fun c13 => absurd (tc_b2_n.mp c13) (by rw [hx]; simp)) (fun c13 => ?_)
    refine tv_iconst (v := -1) dTC_tool_16 (by decide) ?_
    exact tv_iret dTC_tool_17 rfl rfl rfl rfl
set_option maxHeartbeats 4000000 in
set_option maxRecDepth 100000 in
theorem cl_placeOf_2 (σ : tcS) (hI : tc_I σ) {t : Nat} (ht : t < σ.2.2.2 1) {K : tcK} : ∀ (n : Nat) (i : Nat), i + n = σ.2.2.2 1 - 1 → K.2.1 = some (.inl (nI (tc_place σ t n i))) → K.2.2.1 = tc_hC σ → tc_V (cTC_placeOf, 3, yTC_placeOf.cls, some .int, 0, yTC_placeOf.name) K 0 0 (tc_hC σ) 2 [some (.inr (some 0)), some (.inl (nI t)), some (.inl (nI i))] [] := by
  intro n
  induction n with
  | zero =>
    intro i hi hr hh
    obtain ⟨iP, iT, iN, iA, iR, iK, iO, iQ, iF, iB⟩ := id hI
    refine tv_iload_n dTC_placeOf_2 rfl rfl ?_
    refine tv_aload_n dTC_placeOf_3 rfl rfl ?_
    refine gTC_35 rfl dTC_placeOf_4 ?_
    refine tv_iconst (v := 1) dTC_placeOf_7 (by decide) ?_
    refine tv_isub dTC_placeOf_8 ?_
    refine tv_top (b := .inl (nI (σ.2.2.2 1 - 1))) (congrArg Sum.inl (pk_sub (b := 1) (by omega))) ?_
    refine tv_icmp_ge (tgt := 28) dTC_placeOf_9 (by decide) (fun c9 => ?_) (fun c9 => absurd (nI_le (by omega) (by omega)) c9)
    refine tv_iload_n dTC_placeOf_28 rfl rfl ?_
    exact tv_iret dTC_placeOf_29 rfl rfl hr hh
  | succ n ih =>
    intro i hi hr hh
    obtain ⟨iP, iT, iN, iA, iR, iK, iO, iQ, iF, iB⟩ := id hI
    refine tv_iload_n dTC_placeOf_2 rfl rfl ?_
    refine tv_aload_n dTC_placeOf_3 rfl rfl ?_
    refine gTC_35 rfl dTC_placeOf_4 ?_
    refine tv_iconst (v := 1) dTC_placeOf_7 (by decide) ?_
    refine tv_isub dTC_placeOf_8 ?_
    refine tv_top (b := .inl (nI (σ.2.2.2 1 - 1))) (congrArg Sum.inl (pk_sub (b := 1) (by omega))) ?_
    refine tv_icmp_ge (tgt := 28) dTC_placeOf_9 (by decide) (fun c9 => absurd c9 (nI_ge (by omega) (by omega))) (fun c9 => ?_)
    refine tv_aload_n dTC_placeOf_12 rfl rfl ?_
    refine gTC_32 rfl dTC_placeOf_13 ?_
    refine tv_iload_n dTC_placeOf_16 rfl rfl ?_
    refine ldC_7 dTC_placeOf_17 (by omega) ?_
    refine tv_iload_n dTC_placeOf_18 rfl rfl ?_
    refine tv_icmp_eq (tgt := 28) dTC_placeOf_19 (by decide) (fun c19 => ?_) (fun c19 => ?_)
    · have d19 := (nI_eq (by have := iO i (by omega); omega) (by omega)).mp c19
      refine tv_iload_n dTC_placeOf_28 rfl rfl ?_
      exact tv_iret dTC_placeOf_29 rfl rfl (by rw [hr, tc_place, if_pos d19]) hh
    · refine tv_iinc_2 dTC_placeOf_22 (by decide) (nI_1 i) ?_
      refine tv_goto (tgt := 2) dTC_placeOf_25 (by decide) ?_
      exact ih (i + 1) (by omega) (by rw [hr, tc_place, if_neg (fun q => c19 (by rw [q]))]) hh
set_option maxHeartbeats 4000000 in
set_option maxRecDepth 100000 in
theorem cc_placeOf (σ : tcS) (hI : tc_I σ) {t : Nat} (ht : t < σ.2.2.2 1) : tc_M yTC_placeOf cTC_placeOf 3 (some .int) 0 [.inr (some 0), .inl (nI t)] (tc_hC σ, some (.inl (nI (tc_from σ t))), tc_hC σ, 0, 0) := by
  refine tc_met (by decide) (Nat.le_of_ble_eq_true rfl) (Nat.le_of_eq tc_hC_len) rfl ?_
  refine tv_iconst (v := 0) dTC_placeOf_0 (by decide) ?_
  refine tv_istN_2 dTC_placeOf_1 (by decide) ?_
  exact cl_placeOf_2 σ hI ht (σ.2.2.2 1 - 1) 0 (by omega) rfl rfl
theorem tc_place_lt {σ : tcS} {t : Nat} : ∀ (n i : Nat), i ≤ tc_place σ t n i ∧ tc_place σ t n i ≤ i + n
  | 0, i => ⟨Nat.le_refl _, Nat.le_refl _⟩
  | n + 1, i => by
    unfold tc_place
    split
    · exact ⟨Nat.le_refl _, by omega⟩
    · have := tc_place_lt (σ := σ) (t := t) n (i + 1)
      omega
theorem tc_from_lt {σ : tcS} {t : Nat} (ht : t < σ.2.2.2 1) : tc_from σ t < σ.2.2.2 1 := by
  have := tc_place_lt (σ := σ) (t := t) (σ.2.2.2 1 - 1) 0
  unfold tc_from
  omega
set_option maxHeartbeats 4000000 in
set_option maxRecDepth 100000 in
theorem cl_order_31 {p : Nat} {x1 : Option tcV} {y3 : Int32} {K : tcK} : ∀ (n : Nat) (j : Nat) (ρ : tcS), j + n = p ∨ (n = 0 ∧ p ≤ j) → j < 2 ^ 30 → p < 24 → tc_V (cTC_order, 5, yTC_order.cls, some .boolean, 1, yTC_order.name) K 0 0 (tc_hC (tc_up tc_o1 n j ρ)) 59 [some (.inr (some 0)), x1, some (.inl (nI p)), some (.inl y3), none] [] → tc_V (cTC_order, 5, yTC_order.cls, some .boolean, 1, yTC_order.name) K 0 0 (tc_hC ρ) 31 [some (.inr (some 0)), x1, some (.inl (nI p)), some (.inl y3), some (.inl (nI j))] [] := by
  intro n
  induction n with
  | zero =>
    intro j ρ hj hb hp hx
    refine tv_iload dTC_order_31 rfl ?_
    refine tv_iload_n dTC_order_33 rfl rfl ?_
    refine tv_icmp_ge (tgt := 59) dTC_order_34 (by decide) (fun c34 => ?_) (fun c34 => absurd (nI_le (by omega) (by omega)) c34)
    refine tv_fg_4 ?_
    exact hx
  | succ n ih =>
    intro j ρ hj hb hp hx
    refine tv_iload dTC_order_31 rfl ?_
    refine tv_iload_n dTC_order_33 rfl rfl ?_
    refine tv_icmp_ge (tgt := 59) dTC_order_34 (by decide) (fun c34 => absurd c34 (nI_ge (by omega) (by omega))) (fun c34 => ?_)
    refine tv_aload_n dTC_order_37 rfl rfl ?_
    refine gTC_32 rfl dTC_order_38 ?_
    refine tv_iload dTC_order_41 rfl ?_
    refine tv_aload_n dTC_order_43 rfl rfl ?_
    refine gTC_32 rfl dTC_order_44 ?_
    refine tv_iload dTC_order_47 rfl ?_
    refine tv_iconst (v := 1) dTC_order_49 (by decide) ?_
    refine tv_iadd dTC_order_50 ?_
    refine tv_top (b := .inl (nI (j + 1))) (congrArg Sum.inl (nI_1 j)) ?_
    refine ldC_7 dTC_order_51 (by omega) ?_
    refine stC_7 dTC_order_52 (by omega) ?_
    refine tv_iinc_4 dTC_order_53 (by decide) (nI_1 j) ?_
    refine tv_goto (tgt := 31) dTC_order_56 (by decide) ?_
    exact ih (j + 1) (tc_o1 j ρ) (by omega) (by omega) hp hx
set_option maxHeartbeats 4000000 in
set_option maxRecDepth 100000 in
theorem cl_order_62 {p : Nat} {x1 x3 : Option tcV} {K : tcK} : ∀ (n : Nat) (j : Nat) (ρ : tcS), p + n = j ∨ (n = 0 ∧ j ≤ p) → j < 24 → p < 24 → tc_V (cTC_order, 5, yTC_order.cls, some .boolean, 1, yTC_order.name) K 0 0 (tc_hC (tc_dn tc_o2 n j ρ)) 90 [some (.inr (some 0)), x1, some (.inl (nI p)), x3, none] [] → tc_V (cTC_order, 5, yTC_order.cls, some .boolean, 1, yTC_order.name) K 0 0 (tc_hC ρ) 62 [some (.inr (some 0)), x1, some (.inl (nI p)), x3, some (.inl (nI j))] [] := by
  intro n
  induction n with
  | zero =>
    intro j ρ hj hb hp hx
    refine tv_iload dTC_order_62 rfl ?_
    refine tv_iload_n dTC_order_64 rfl rfl ?_
    refine tv_icmp_le (tgt := 90) dTC_order_65 (by decide) (fun c65 => ?_) (fun c65 => absurd (nI_le (by omega) (by omega)) c65)
    refine tv_fg_4 ?_
    exact hx
  | succ n ih =>
    intro j ρ hj hb hp hx
    refine tv_iload dTC_order_62 rfl ?_
    refine tv_iload_n dTC_order_64 rfl rfl ?_
    refine tv_icmp_le (tgt := 90) dTC_order_65 (by decide) (fun c65 => absurd c65 (nI_ge (by omega) (by omega))) (fun c65 => ?_)
    refine tv_aload_n dTC_order_68 rfl rfl ?_
    refine gTC_32 rfl dTC_order_69 ?_
    refine tv_iload dTC_order_72 rfl ?_
    refine tv_aload_n dTC_order_74 rfl rfl ?_
    refine gTC_32 rfl dTC_order_75 ?_
    refine tv_iload dTC_order_78 rfl ?_
    refine tv_iconst (v := 1) dTC_order_80 (by decide) ?_
    refine tv_isub dTC_order_81 ?_
    refine tv_top (b := .inl (nI (j - 1))) (congrArg Sum.inl (pk_sub (b := 1) (by omega))) ?_
    refine ldC_7 dTC_order_82 (by omega) ?_
    refine stC_7 dTC_order_83 (by omega) ?_
    refine tv_iinc_4 dTC_order_84 (by decide) (v := nI (j - 1)) (sb_m1 (by omega)) ?_
    refine tv_goto (tgt := 62) dTC_order_87 (by decide) ?_
    exact ih (j - 1) (tc_o2 j ρ) (by omega) (by omega) hp hx
set_option maxHeartbeats 4000000 in
set_option maxRecDepth 100000 in
theorem cc_order (σ : tcS) (hI : tc_I σ) {t p : Nat} (ht : t < σ.2.2.2 1) (hp : p < σ.2.2.2 1) : tc_M yTC_order cTC_order 5 (some .boolean) 1 [.inr (some 0), .inl (nI t), .inl (nI p)] (tc_hC σ, some (.inl 1), tc_hC (tc_order σ t p), 0, 0) := by
  obtain ⟨iP, iT, iN, iA, iR, iK, iO, iQ, iF, iB⟩ := id hI
  refine tc_met (by decide) (Nat.le_of_ble_eq_true rfl) (Nat.le_of_eq tc_hC_len) rfl ?_
  refine tv_aload_n dTC_order_0 rfl rfl ?_
  refine tv_iload_n dTC_order_1 rfl rfl ?_
  refine tv_callV1r kTC_86 (by decide) (Nat.le_of_ble_eq_true rfl) ⟨rfl, rfl⟩ rfl (cc_isTool σ _) ⟨Nat.zero_le _, Nat.zero_le _⟩ dTC_order_2 ?_
  refine tv_if_eq (tgt := 20) dTC_order_5 (by decide) (fun c5 => absurd (tc_b2_0.mp c5) (by rw [tc_isN_nI ht (by omega)]; simp)) (fun c5 => ?_)
  refine tv_iload_n dTC_order_8 rfl rfl ?_
  refine tv_if_lt (tgt := 20) dTC_order_9 (by decide) (fun c9 => absurd c9 (nI_pos (by omega))) (fun c9 => ?_)
  refine tv_iload_n dTC_order_12 rfl rfl ?_
  refine tv_aload_n dTC_order_13 rfl rfl ?_
  refine gTC_35 rfl dTC_order_14 ?_
  refine tv_icmp_lt (tgt := 22) dTC_order_17 (by decide) (fun c17 => ?_) (fun c17 => absurd (nI_lt hp (by omega)) c17)
  refine tv_aload_n dTC_order_22 rfl rfl ?_
  refine tv_iload_n dTC_order_23 rfl rfl ?_
  refine tv_callV1r kTC_89 (by decide) (Nat.le_of_ble_eq_true rfl) ⟨rfl, rfl⟩ rfl (cc_placeOf σ hI ht) ⟨Nat.zero_le _, Nat.zero_le _⟩ dTC_order_24 ?_
  refine tv_istN_3 dTC_order_27 (by decide) ?_
  refine tv_iload_n dTC_order_28 rfl rfl ?_
  refine tv_ist_4 dTC_order_29 (by decide) ?_
  have hf := tc_from_lt ht
  refine cl_order_31 (p - tc_from σ t) (tc_from σ t) σ (by omega) (by omega) (by omega) ?_
  refine tv_iload_n dTC_order_59 rfl rfl ?_
  refine tv_ist_4 dTC_order_60 (by decide) ?_
  refine cl_order_62 (tc_from σ t - p) (tc_from σ t) _ (by omega) (by omega) (by omega) ?_
  refine tv_aload_n dTC_order_90 rfl rfl ?_
  refine gTC_32 rfl dTC_order_91 ?_
  refine tv_iload_n dTC_order_94 rfl rfl ?_
  refine tv_iload_n dTC_order_95 rfl rfl ?_
  refine stC_7 dTC_order_96 (by omega) ?_
  refine tv_iconst (v := 1) dTC_order_97 (by decide) ?_
  exact tv_iret dTC_order_98 rfl rfl rfl rfl
set_option maxHeartbeats 4000000 in
set_option maxRecDepth 100000 in
theorem cc_order_no (σ : tcS) (hT : σ.2.2.2 1 ≤ 24) {x y : Int32} (hx : tc_isN x (σ.2.2.2 1) = false ∨ tc_isN y (σ.2.2.2 1) = false) : tc_M yTC_order cTC_order 5 (some .boolean) 1 [.inr (some 0), .inl x, .inl y] (tc_hC σ, some (.inl 0), tc_hC σ, 0, 0) := by
  refine tc_met (by decide) (Nat.le_of_ble_eq_true rfl) (Nat.le_refl _) rfl ?_
  refine tv_aload_n dTC_order_0 rfl rfl ?_
  refine tv_iload_n dTC_order_1 rfl rfl ?_
  refine tv_callV1r kTC_86 (by decide) (Nat.le_of_ble_eq_true rfl) ⟨rfl, rfl⟩ rfl (cc_isTool σ _) ⟨Nat.zero_le _, Nat.zero_le _⟩ dTC_order_2 ?_
  refine tv_if_eq (tgt := 20) dTC_order_5 (by decide) (fun c5 => ?_) (fun c5 => ?_)
  · refine tv_iconst (v := 0) dTC_order_20 (by decide) ?_
    exact tv_iret dTC_order_21 rfl rfl rfl rfl
  · have hy : tc_isN y (σ.2.2.2 1) = false := by
      rcases hx with q | q
      · exact absurd (tc_b2_0.mpr q) c5
      · exact q
    refine tv_iload_n dTC_order_8 rfl rfl ?_
    refine tv_if_lt (tgt := 20) dTC_order_9 (by decide) (fun c9 => ?_) (fun c9 => ?_)
    · refine tv_iconst (v := 0) dTC_order_20 (by decide) ?_
      exact tv_iret dTC_order_21 rfl rfl rfl rfl
    · refine tv_iload_n dTC_order_12 rfl rfl ?_
      refine tv_aload_n dTC_order_13 rfl rfl ?_
      refine gTC_35 rfl dTC_order_14 ?_
      refine tv_icmp_lt (tgt := 22) dTC_order_17 (by decide) (fun c17 => absurd (tc_isN_in (n := σ.2.2.2 1) c9 (fun q => by rw [Int32.le_iff_toInt_le] at q; rw [Int32.lt_iff_toInt_lt] at c17; omega)) (by rw [hy]; simp)) (fun c17 => ?_)
      refine tv_iconst (v := 0) dTC_order_20 (by decide) ?_
      exact tv_iret dTC_order_21 rfl rfl rfl rfl
set_option maxHeartbeats 4000000 in
set_option maxRecDepth 100000 in
theorem cc_needs (σ : tcS) (hI : tc_I σ) {t k : Nat} (ht : t < σ.2.2.2 1) (hk : k < 8) : tc_M yTC_needs cTC_needs 3 (some .boolean) 1 [.inr (some 0), .inl (nI t), .inl (nI k)] (tc_hC σ, some (.inl (tc_b2 (tc_needs σ t k).1)), tc_hC (tc_needs σ t k).2, 0, 0) := by
  obtain ⟨iP, iT, iN, iA, iR, iK, iO, iQ, iF, iB⟩ := id hI
  refine tc_met (by decide) (Nat.le_of_ble_eq_true rfl) (Nat.le_of_eq tc_hC_len) rfl ?_
  refine tv_aload_n dTC_needs_0 rfl rfl ?_
  refine tv_iload_n dTC_needs_1 rfl rfl ?_
  refine tv_callV1r kTC_86 (by decide) (Nat.le_of_ble_eq_true rfl) ⟨rfl, rfl⟩ rfl (cc_isTool σ _) ⟨Nat.zero_le _, Nat.zero_le _⟩ dTC_needs_2 ?_
  refine tv_if_eq (tgt := 15) dTC_needs_5 (by decide) (fun c5 => absurd (tc_b2_0.mp c5) (by rw [tc_isN_nI ht (by omega)]; simp)) (fun c5 => ?_)
  refine tv_iload_n dTC_needs_8 rfl rfl ?_
  refine tv_callS1r kTC_82 (by decide) (Nat.le_of_ble_eq_true rfl) ⟨rfl, rfl⟩ (cc_isKind _ _) ⟨Nat.zero_le _, Nat.zero_le _⟩ dTC_needs_9 ?_
  refine tv_if_ne (tgt := 17) dTC_needs_12 (by decide) (fun c12 => ?_) (fun c12 => absurd (tc_b2_0.mp c12) (by rw [tc_isN_nI hk (by omega)]; simp))
  refine tv_aload_n dTC_needs_17 rfl rfl ?_
  refine gTC_29 rfl dTC_needs_18 ?_
  refine tv_iload_n dTC_needs_21 rfl rfl ?_
  refine ldC_6 dTC_needs_22 (by omega) ?_
  refine tv_iload_n dTC_needs_23 rfl rfl ?_
  refine tv_callS2r kTC_93 (by decide) (Nat.le_of_ble_eq_true rfl) ⟨rfl, rfl⟩ (cc_hasBit _ _ (by omega)) ⟨Nat.zero_le _, Nat.zero_le _⟩ dTC_needs_24 ?_
  refine tv_if_ne (tgt := 39) dTC_needs_27 (by decide) (fun c27 => ?_) (fun c27 => ?_)
  · have e27 : tc_needs σ t k = (false, σ) := by unfold tc_needs; rw [if_pos (Or.inl (tc_b2_n.mp c27))]
    refine tv_iconst (v := 0) dTC_needs_39 (by decide) ?_
    exact tv_iret dTC_needs_40 rfl rfl (by show some (Sum.inl (tc_b2 (tc_needs σ t k).1)) = _; rw [e27]; rfl) (by show tc_hC (tc_needs σ t k).2 = _; rw [e27])
  · have d27 := tc_b2_0.mp c27
    refine tv_aload_n dTC_needs_30 rfl rfl ?_
    refine gTC_38 rfl dTC_needs_31 ?_
    refine tv_bipush (v := 40) dTC_needs_34 (by decide) ?_
    refine tv_icmp_lt (tgt := 41) dTC_needs_36 (by decide) (fun c36 => ?_) (fun c36 => ?_)
    · have d36 : ¬ 40 ≤ σ.2.2.2 2 := Nat.not_le.mpr ((nI_ltI (b := 40) (by omega) (by omega)).mp c36)
      have e27 := show tc_needs σ t k = (true, _) by unfold tc_needs; rw [if_neg (fun q => q.elim (fun q => by rw [d27] at q; cases q) d36)]
      refine tv_aload_n dTC_needs_41 rfl rfl ?_
      refine gTC_29 rfl dTC_needs_42 ?_
      refine tv_iload_n dTC_needs_45 rfl rfl ?_
      refine tv_dup2 dTC_needs_46 ?_
      refine ldC_6 dTC_needs_47 (by omega) ?_
      refine tv_iconst (v := 1) dTC_needs_48 (by decide) ?_
      refine tv_iload_n dTC_needs_49 rfl rfl ?_
      refine tv_ishl dTC_needs_50 ?_
      refine tv_ior dTC_needs_51 ?_
      refine stC_6 dTC_needs_52 (by omega) ?_
      refine tv_aload_n dTC_needs_53 rfl rfl ?_
      refine tv_dup dTC_needs_54 ?_
      refine gTC_38 rfl dTC_needs_55 ?_
      refine tv_iconst (v := 1) dTC_needs_58 (by decide) ?_
      refine tv_iadd dTC_needs_59 ?_
      refine tv_top (b := .inl (nI (σ.2.2.2 2 + 1))) (congrArg Sum.inl (nI_1 _)) ?_
      refine pTC_38 rfl dTC_needs_60 ?_
      refine tv_iconst (v := 1) dTC_needs_63 (by decide) ?_
      exact tv_iret dTC_needs_64 rfl rfl (by show some (Sum.inl (tc_b2 (tc_needs σ t k).1)) = _; rw [e27]; rfl) (by show tc_hC (tc_needs σ t k).2 = _; rw [e27])
    · have d36 : 40 ≤ σ.2.2.2 2 := Nat.not_lt.mp (fun q => c36 (nI_lt (b := 40) q (by omega)))
      have e27 : tc_needs σ t k = (false, σ) := by unfold tc_needs; rw [if_pos (Or.inr d36)]
      refine tv_iconst (v := 0) dTC_needs_39 (by decide) ?_
      exact tv_iret dTC_needs_40 rfl rfl (by show some (Sum.inl (tc_b2 (tc_needs σ t k).1)) = _; rw [e27]; rfl) (by show tc_hC (tc_needs σ t k).2 = _; rw [e27])
set_option maxHeartbeats 4000000 in
set_option maxRecDepth 100000 in
theorem cc_needs_no (σ : tcS) {x y : Int32} (hx : tc_isN x (σ.2.2.2 1) = false ∨ tc_isN y 8 = false) : tc_M yTC_needs cTC_needs 3 (some .boolean) 1 [.inr (some 0), .inl x, .inl y] (tc_hC σ, some (.inl 0), tc_hC σ, 0, 0) := by
  refine tc_met (by decide) (Nat.le_of_ble_eq_true rfl) (Nat.le_refl _) rfl ?_
  refine tv_aload_n dTC_needs_0 rfl rfl ?_
  refine tv_iload_n dTC_needs_1 rfl rfl ?_
  refine tv_callV1r kTC_86 (by decide) (Nat.le_of_ble_eq_true rfl) ⟨rfl, rfl⟩ rfl (cc_isTool σ _) ⟨Nat.zero_le _, Nat.zero_le _⟩ dTC_needs_2 ?_
  refine tv_if_eq (tgt := 15) dTC_needs_5 (by decide) (fun c5 => ?_) (fun c5 => ?_)
  · refine tv_iconst (v := 0) dTC_needs_15 (by decide) ?_
    exact tv_iret dTC_needs_16 rfl rfl rfl rfl
  · have hy : tc_isN y 8 = false := by
      rcases hx with q | q
      · exact absurd (tc_b2_0.mpr q) c5
      · exact q
    refine tv_iload_n dTC_needs_8 rfl rfl ?_
    refine tv_callS1r kTC_82 (by decide) (Nat.le_of_ble_eq_true rfl) ⟨rfl, rfl⟩ (cc_isKind _ _) ⟨Nat.zero_le _, Nat.zero_le _⟩ dTC_needs_9 ?_
    refine tv_if_ne (tgt := 17) dTC_needs_12 (by decide) (fun c12 => absurd (tc_b2_n.mp c12) (by rw [hy]; simp)) (fun c12 => ?_)
    refine tv_iconst (v := 0) dTC_needs_15 (by decide) ?_
    exact tv_iret dTC_needs_16 rfl rfl rfl rfl
set_option maxHeartbeats 4000000 in
set_option maxRecDepth 100000 in
theorem cc_ask (σ : tcS) (hI : tc_I σ) {k : Nat} (hk : k < 8) (v b : Int32) (hb : vp_nar .boolean b = b) : tc_M yTC_ask cTC_ask 4 (some .boolean) 2 [.inr (some 0), .inl (nI k), .inl v, .inl b] (tc_hC σ, some (.inl 1), tc_hC (tc_put σ k v b), 0, 0) := by
  refine tc_met (by decide) (Nat.le_of_ble_eq_true rfl) (Nat.le_of_eq tc_hC_len) rfl ?_
  refine tv_iload_n dTC_ask_0 rfl rfl ?_
  refine tv_callS1r kTC_82 (by decide) (Nat.le_of_ble_eq_true rfl) ⟨rfl, rfl⟩ (cc_isKind _ _) ⟨Nat.zero_le _, Nat.zero_le _⟩ dTC_ask_1 ?_
  refine tv_if_ne (tgt := 9) dTC_ask_4 (by decide) (fun c4 => ?_) (fun c4 => absurd (tc_b2_0.mp c4) (by rw [tc_isN_nI hk (by omega)]; simp))
  refine tv_aload_n dTC_ask_9 rfl rfl ?_
  refine gTC_44 rfl dTC_ask_10 ?_
  refine tv_iload_n dTC_ask_13 rfl rfl ?_
  refine tv_iload_n dTC_ask_14 rfl rfl ?_
  refine tv_iload_n dTC_ask_15 rfl rfl ?_
  refine tv_callN3v kTC_97 (by decide) (Nat.le_of_ble_eq_true rfl) ⟨rfl, rfl⟩ rfl (cc_ak_put σ hI hk v b hb) ⟨Nat.zero_le _, Nat.zero_le _⟩ dTC_ask_16 ?_
  refine tv_iconst (v := 1) dTC_ask_19 (by decide) ?_
  exact tv_iret dTC_ask_20 rfl rfl rfl rfl
set_option maxHeartbeats 4000000 in
set_option maxRecDepth 100000 in
theorem cc_ask_no (σ : tcS) {x : Int32} (hx : tc_isN x 8 = false) (v b : Int32) : tc_M yTC_ask cTC_ask 4 (some .boolean) 2 [.inr (some 0), .inl x, .inl v, .inl b] (tc_hC σ, some (.inl 0), tc_hC σ, 0, 0) := by
  refine tc_met (by decide) (Nat.le_of_ble_eq_true rfl) (Nat.le_refl _) rfl ?_
  refine tv_iload_n dTC_ask_0 rfl rfl ?_
  refine tv_callS1r kTC_82 (by decide) (Nat.le_of_ble_eq_true rfl) ⟨rfl, rfl⟩ (cc_isKind _ _) ⟨Nat.zero_le _, Nat.zero_le _⟩ dTC_ask_1 ?_
  refine tv_if_ne (tgt := 9) dTC_ask_4 (by decide) (fun c4 => absurd (tc_b2_n.mp c4) (by rw [hx]; simp)) (fun c4 => ?_)
  refine tv_iconst (v := 0) dTC_ask_7 (by decide) ?_
  exact tv_iret dTC_ask_8 rfl rfl rfl rfl
set_option maxHeartbeats 4000000 in
set_option maxRecDepth 100000 in
theorem cc_drop (σ : tcS) (hI : tc_I σ) {k : Nat} (hk : k < 8) : tc_M yTC_drop cTC_drop 2 (some .boolean) 2 [.inr (some 0), .inl (nI k)] (tc_hC σ, some (.inl (tc_b2 (tc_rem σ k).1)), tc_hC (tc_rem σ k).2, 0, 0) := by
  refine tc_met (by decide) (Nat.le_of_ble_eq_true rfl) (Nat.le_of_eq tc_hC_len) rfl ?_
  refine tv_iload_n dTC_drop_0 rfl rfl ?_
  refine tv_callS1r kTC_82 (by decide) (Nat.le_of_ble_eq_true rfl) ⟨rfl, rfl⟩ (cc_isKind _ _) ⟨Nat.zero_le _, Nat.zero_le _⟩ dTC_drop_1 ?_
  refine tv_if_eq (tgt := 22) dTC_drop_4 (by decide) (fun c4 => absurd (tc_b2_0.mp c4) (by rw [tc_isN_nI hk (by omega)]; simp)) (fun c4 => ?_)
  refine tv_aload_n dTC_drop_7 rfl rfl ?_
  refine gTC_44 rfl dTC_drop_8 ?_
  refine tv_iload_n dTC_drop_11 rfl rfl ?_
  refine tv_callN1r kTC_101 (by decide) (Nat.le_of_ble_eq_true rfl) ⟨rfl, rfl⟩ rfl (cc_ak_remove σ hI hk) ⟨Nat.zero_le _, Nat.zero_le _⟩ dTC_drop_12 ?_
  refine tv_if_eq (tgt := 22) dTC_drop_15 (by decide) (fun c15 => ?_) (fun c15 => ?_)
  · have hr := tc_rb (tc_b2_0.mp c15)
    refine tv_iconst (v := 0) dTC_drop_22 (by decide) ?_
    exact tv_iret dTC_drop_23 rfl rfl hr rfl
  · have hr := tc_rb (tc_b2_n.mp c15)
    refine tv_iconst (v := 1) dTC_drop_18 (by decide) ?_
    refine tv_goto (tgt := 23) dTC_drop_19 (by decide) ?_
    exact tv_iret dTC_drop_23 rfl rfl hr rfl
set_option maxHeartbeats 4000000 in
set_option maxRecDepth 100000 in
theorem cc_drop_no (σ : tcS) {x : Int32} (hx : tc_isN x 8 = false) : tc_M yTC_drop cTC_drop 2 (some .boolean) 2 [.inr (some 0), .inl x] (tc_hC σ, some (.inl 0), tc_hC σ, 0, 0) := by
  refine tc_met (by decide) (Nat.le_of_ble_eq_true rfl) (Nat.le_refl _) rfl ?_
  refine tv_iload_n dTC_drop_0 rfl rfl ?_
  refine tv_callS1r kTC_82 (by decide) (Nat.le_of_ble_eq_true rfl) ⟨rfl, rfl⟩ (cc_isKind _ _) ⟨Nat.zero_le _, Nat.zero_le _⟩ dTC_drop_1 ?_
  refine tv_if_eq (tgt := 22) dTC_drop_4 (by decide) (fun c4 => ?_) (fun c4 => absurd (tc_b2_0.mpr hx) c4)
  refine tv_iconst (v := 0) dTC_drop_22 (by decide) ?_
  exact tv_iret dTC_drop_23 rfl rfl rfl rfl
set_option maxHeartbeats 4000000 in
set_option maxRecDepth 100000 in
theorem cc_force (σ : tcS) {k : Nat} (hk : k < 8) : tc_M yTC_force cTC_force 3 (some .boolean) 1 [.inr (some 0), .inl (-1), .inl (nI k)] (tc_hC σ, some (.inl 1), tc_hC (tc_s3 σ 0 (va_up (σ.2.2.1 0) k none)), 0, 0) := by
  refine tc_met (by decide) (Nat.le_of_ble_eq_true rfl) (Nat.le_of_eq tc_hC_len) rfl ?_
  refine tv_iload_n dTC_force_0 rfl rfl ?_
  refine tv_iconst (v := -1) dTC_force_1 (by decide) ?_
  refine tv_icmp_ne (tgt := 21) dTC_force_2 (by decide) (fun c2 => absurd rfl c2) (fun c2 => ?_)
  refine tv_iload_n dTC_force_5 rfl rfl ?_
  refine tv_callS1r kTC_82 (by decide) (Nat.le_of_ble_eq_true rfl) ⟨rfl, rfl⟩ (cc_isKind _ _) ⟨Nat.zero_le _, Nat.zero_le _⟩ dTC_force_6 ?_
  refine tv_if_eq (tgt := 21) dTC_force_9 (by decide) (fun c9 => absurd (tc_b2_0.mp c9) (by rw [tc_isN_nI hk (by omega)]; simp)) (fun c9 => ?_)
  refine tv_aload_n dTC_force_12 rfl rfl ?_
  refine gTC_48 rfl dTC_force_13 ?_
  refine tv_iload_n dTC_force_16 rfl rfl ?_
  refine tv_iconst (v := -1) dTC_force_17 (by decide) ?_
  refine stC_12 none dTC_force_18 hk ?_
  refine tv_iconst (v := 1) dTC_force_19 (by decide) ?_
  exact tv_iret dTC_force_20 rfl rfl rfl rfl
set_option maxHeartbeats 4000000 in
set_option maxRecDepth 100000 in
theorem cc_force_t (σ : tcS) (hI : tc_I σ) {t : Nat} (ht : t < σ.2.2.2 1) (y : Int32) : tc_M yTC_force cTC_force 3 (some .boolean) 1 [.inr (some 0), .inl (nI t), .inl y] (tc_hC σ, some (.inl 1), tc_hC (tc_s3 σ 0 (va_up (σ.2.2.1 0) (σ.2.1 0 t) (some t))), 0, 0) := by
  obtain ⟨iP, iT, iN, iA, iR, iK, iO, iQ, iF, iB⟩ := id hI
  refine tc_met (by decide) (Nat.le_of_ble_eq_true rfl) (Nat.le_of_eq tc_hC_len) rfl ?_
  refine tv_iload_n dTC_force_0 rfl rfl ?_
  refine tv_iconst (v := -1) dTC_force_1 (by decide) ?_
  refine tv_icmp_ne (tgt := 21) dTC_force_2 (by decide) (fun c2 => ?_) (fun c2 => absurd ((tc_oI_m1 (o := some t) (fun a q => by cases q; omega)).mp c2) (by simp))
  refine tv_aload_n dTC_force_21 rfl rfl ?_
  refine tv_iload_n dTC_force_22 rfl rfl ?_
  refine tv_callV1r kTC_86 (by decide) (Nat.le_of_ble_eq_true rfl) ⟨rfl, rfl⟩ rfl (cc_isTool σ _) ⟨Nat.zero_le _, Nat.zero_le _⟩ dTC_force_23 ?_
  refine tv_if_ne (tgt := 31) dTC_force_26 (by decide) (fun c26 => ?_) (fun c26 => absurd (tc_b2_0.mp c26) (by rw [tc_isN_nI ht (by omega)]; simp))
  refine tv_aload_n dTC_force_31 rfl rfl ?_
  refine gTC_48 rfl dTC_force_32 ?_
  refine tv_aload_n dTC_force_35 rfl rfl ?_
  refine gTC_17 rfl dTC_force_36 ?_
  refine tv_iload_n dTC_force_39 rfl rfl ?_
  refine ldC_2 dTC_force_40 (by omega) ?_
  refine tv_iload_n dTC_force_41 rfl rfl ?_
  refine stC_12 (some t) dTC_force_42 (iK t ht) ?_
  refine tv_iconst (v := 1) dTC_force_43 (by decide) ?_
  exact tv_iret dTC_force_44 rfl rfl rfl rfl
set_option maxHeartbeats 4000000 in
set_option maxRecDepth 100000 in
theorem cc_force_no (σ : tcS) {x y : Int32} (hx : tc_isN x (σ.2.2.2 1) = false) (hy : x = -1 → tc_isN y 8 = false) : tc_M yTC_force cTC_force 3 (some .boolean) 1 [.inr (some 0), .inl x, .inl y] (tc_hC σ, some (.inl 0), tc_hC σ, 0, 0) := by
  refine tc_met (by decide) (Nat.le_of_ble_eq_true rfl) (Nat.le_refl _) rfl ?_
  refine tv_iload_n dTC_force_0 rfl rfl ?_
  refine tv_iconst (v := -1) dTC_force_1 (by decide) ?_
  refine tv_icmp_ne (tgt := 21) dTC_force_2 (by decide) (fun c2 => ?_) (fun c2 => ?_)
  · refine tv_aload_n dTC_force_21 rfl rfl ?_
    refine tv_iload_n dTC_force_22 rfl rfl ?_
    refine tv_callV1r kTC_86 (by decide) (Nat.le_of_ble_eq_true rfl) ⟨rfl, rfl⟩ rfl (cc_isTool σ _) ⟨Nat.zero_le _, Nat.zero_le _⟩ dTC_force_23 ?_
    refine tv_if_ne (tgt := 31) dTC_force_26 (by decide) (fun c26 => absurd (tc_b2_n.mp c26) (by rw [hx]; simp)) (fun c26 => ?_)
    refine tv_iconst (v := 0) dTC_force_29 (by decide) ?_
    exact tv_iret dTC_force_30 rfl rfl rfl rfl
  · refine tv_iload_n dTC_force_5 rfl rfl ?_
    refine tv_callS1r kTC_82 (by decide) (Nat.le_of_ble_eq_true rfl) ⟨rfl, rfl⟩ (cc_isKind _ _) ⟨Nat.zero_le _, Nat.zero_le _⟩ dTC_force_6 ?_
    refine tv_if_eq (tgt := 21) dTC_force_9 (by decide) (fun c9 => ?_) (fun c9 => absurd (tc_b2_0.mpr (hy c2)) c9)
    refine tv_aload_n dTC_force_21 rfl rfl ?_
    refine tv_iload_n dTC_force_22 rfl rfl ?_
    refine tv_callV1r kTC_86 (by decide) (Nat.le_of_ble_eq_true rfl) ⟨rfl, rfl⟩ rfl (cc_isTool σ _) ⟨Nat.zero_le _, Nat.zero_le _⟩ dTC_force_23 ?_
    refine tv_if_ne (tgt := 31) dTC_force_26 (by decide) (fun c26 => absurd (tc_b2_n.mp c26) (by rw [hx]; simp)) (fun c26 => ?_)
    refine tv_iconst (v := 0) dTC_force_29 (by decide) ?_
    exact tv_iret dTC_force_30 rfl rfl rfl rfl
set_option maxHeartbeats 4000000 in
set_option maxRecDepth 100000 in
theorem cc_chosen (σ : tcS) {k : Nat} (hk : k < 8) : tc_M yTC_chosen cTC_chosen 2 (some .int) 1 [.inr (some 0), .inl (nI k)] (tc_hC σ, some (.inl (tc_oI (σ.2.2.1 1 k))), tc_hC σ, 0, 0) := by
  refine tc_met (by decide) (Nat.le_of_ble_eq_true rfl) (Nat.le_of_eq tc_hC_len) rfl ?_
  refine tv_iload_n dTC_chosen_0 rfl rfl ?_
  refine tv_callS1r kTC_82 (by decide) (Nat.le_of_ble_eq_true rfl) ⟨rfl, rfl⟩ (cc_isKind _ _) ⟨Nat.zero_le _, Nat.zero_le _⟩ dTC_chosen_1 ?_
  refine tv_if_eq (tgt := 16) dTC_chosen_4 (by decide) (fun c4 => absurd (tc_b2_0.mp c4) (by rw [tc_isN_nI hk (by omega)]; simp)) (fun c4 => ?_)
  refine tv_aload_n dTC_chosen_7 rfl rfl ?_
  refine gTC_51 rfl dTC_chosen_8 ?_
  refine tv_iload_n dTC_chosen_11 rfl rfl ?_
  refine ldC_13 dTC_chosen_12 hk ?_
  refine tv_goto (tgt := 17) dTC_chosen_13 (by decide) ?_
  exact tv_iret dTC_chosen_17 rfl rfl rfl rfl
set_option maxHeartbeats 4000000 in
set_option maxRecDepth 100000 in
theorem cc_chosen_no (σ : tcS) {x : Int32} (hx : tc_isN x 8 = false) : tc_M yTC_chosen cTC_chosen 2 (some .int) 1 [.inr (some 0), .inl x] (tc_hC σ, some (.inl (-1)), tc_hC σ, 0, 0) := by
  refine tc_met (by decide) (Nat.le_of_ble_eq_true rfl) (Nat.le_refl _) rfl ?_
  refine tv_iload_n dTC_chosen_0 rfl rfl ?_
  refine tv_callS1r kTC_82 (by decide) (Nat.le_of_ble_eq_true rfl) ⟨rfl, rfl⟩ (cc_isKind _ _) ⟨Nat.zero_le _, Nat.zero_le _⟩ dTC_chosen_1 ?_
  refine tv_if_eq (tgt := 16) dTC_chosen_4 (by decide) (fun c4 => ?_) (fun c4 => absurd (tc_b2_0.mpr hx) c4)
  refine tv_iconst (v := -1) dTC_chosen_16 (by decide) ?_
  exact tv_iret dTC_chosen_17 rfl rfl rfl rfl
set_option maxHeartbeats 4000000 in
set_option maxRecDepth 100000 in
theorem cc_rows (σ : tcS) : tc_M yTC_rows cTC_rows 1 (some .int) 1 [.inr (some 0)] (tc_hC σ, some (.inl (nI (σ.2.2.2 4))), tc_hC σ, 0, 0) := by
  refine tc_met (by decide) (Nat.le_of_ble_eq_true rfl) (Nat.le_of_eq tc_hC_len) rfl ?_
  refine tv_aload_n dTC_rows_0 rfl rfl ?_
  refine gTC_57 rfl dTC_rows_1 ?_
  refine tv_callN0r kTC_116 (by decide) (Nat.le_of_ble_eq_true rfl) ⟨rfl, rfl⟩ rfl (cc_rl_size σ) ⟨Nat.zero_le _, Nat.zero_le _⟩ dTC_rows_4 ?_
  exact tv_iret dTC_rows_7 rfl rfl rfl rfl
set_option maxHeartbeats 4000000 in
set_option maxRecDepth 100000 in
theorem cc_row (σ : tcS) (hI : tc_I σ) (i w : Int32) : tc_M yTC_row cTC_row 3 (some .int) 1 [.inr (some 0), .inl i, .inl w] (tc_hC σ, some (.inl (tc_cell σ i w)), tc_hC σ, 0, 0) := by
  refine tc_met (by decide) (Nat.le_of_ble_eq_true rfl) (Nat.le_of_eq tc_hC_len) rfl ?_
  refine tv_aload_n dTC_row_0 rfl rfl ?_
  refine gTC_57 rfl dTC_row_1 ?_
  refine tv_iload_n dTC_row_4 rfl rfl ?_
  refine tv_iload_n dTC_row_5 rfl rfl ?_
  refine tv_callN2r kTC_120 (by decide) (Nat.le_of_ble_eq_true rfl) ⟨rfl, rfl⟩ rfl (cc_rl_cell σ hI i w) ⟨Nat.zero_le _, Nat.zero_le _⟩ dTC_row_6 ?_
  exact tv_iret dTC_row_9 rfl rfl rfl rfl
set_option maxHeartbeats 4000000 in
set_option maxRecDepth 100000 in
theorem cc_built (σ : tcS) (hI : tc_I σ) {t p : Nat} (ht : t < σ.2.2.2 1) (hp : p < σ.2.2.2 0) : tc_M yTC_built cTC_built 3 (some .boolean) 4 [.inr (some 0), .inl (nI t), .inl (nI p)] (tc_hC σ, some (.inl (tc_b2 (bt ((tc_settle σ).1 7 t) p))), tc_hC (tc_settle σ), 0, 0) := by
  obtain ⟨iP, iT, iN, iA, iR, iK, iO, iQ, iF, iB⟩ := id hI
  refine tc_met (by decide) (Nat.le_of_ble_eq_true rfl) (Nat.le_of_eq tc_hC_len) rfl ?_
  refine tv_aload_n dTC_built_0 rfl rfl ?_
  refine tv_iload_n dTC_built_1 rfl rfl ?_
  refine tv_callV1r kTC_86 (by decide) (Nat.le_of_ble_eq_true rfl) ⟨rfl, rfl⟩ rfl (cc_isTool σ _) ⟨Nat.zero_le _, Nat.zero_le _⟩ dTC_built_2 ?_
  refine tv_if_eq (tgt := 16) dTC_built_5 (by decide) (fun c5 => absurd (tc_b2_0.mp c5) (by rw [tc_isN_nI ht (by omega)]; simp)) (fun c5 => ?_)
  refine tv_aload_n dTC_built_8 rfl rfl ?_
  refine tv_iload_n dTC_built_9 rfl rfl ?_
  refine tv_callV1r kTC_104 (by decide) (Nat.le_of_ble_eq_true rfl) ⟨rfl, rfl⟩ rfl (cc_isPlatform σ _) ⟨Nat.zero_le _, Nat.zero_le _⟩ dTC_built_10 ?_
  refine tv_if_ne (tgt := 18) dTC_built_13 (by decide) (fun c13 => ?_) (fun c13 => absurd (tc_b2_0.mp c13) (by rw [tc_isN_nI hp (by omega)]; simp))
  refine tv_aload_n dTC_built_18 rfl rfl ?_
  refine tv_callV0v kTC_107 (by decide) (Nat.le_of_ble_eq_true rfl) ⟨rfl, rfl⟩ rfl (cc_settleBuilt σ hI) ⟨Nat.zero_le _, Nat.zero_le _⟩ dTC_built_19 ?_
  refine tv_aload_n dTC_built_22 rfl rfl ?_
  refine gTC_67 rfl dTC_built_23 ?_
  refine tv_iload_n dTC_built_26 rfl rfl ?_
  refine ldC_18 dTC_built_27 (by omega) ?_
  refine tv_iload_n dTC_built_28 rfl rfl ?_
  refine tv_callS2r kTC_93 (by decide) (Nat.le_of_ble_eq_true rfl) ⟨rfl, rfl⟩ (cc_hasBit _ _ (by omega)) ⟨Nat.zero_le _, Nat.zero_le _⟩ dTC_built_29 ?_
  exact tv_iret dTC_built_32 rfl (by cases bt ((tc_settle σ).1 7 t) p <;> rfl) rfl rfl
set_option maxHeartbeats 4000000 in
set_option maxRecDepth 100000 in
theorem cc_built_no (σ : tcS) {x y : Int32} (hx : tc_isN x (σ.2.2.2 1) = false ∨ tc_isN y (σ.2.2.2 0) = false) : tc_M yTC_built cTC_built 3 (some .boolean) 4 [.inr (some 0), .inl x, .inl y] (tc_hC σ, some (.inl 0), tc_hC σ, 0, 0) := by
  refine tc_met (by decide) (Nat.le_of_ble_eq_true rfl) (Nat.le_refl _) rfl ?_
  refine tv_aload_n dTC_built_0 rfl rfl ?_
  refine tv_iload_n dTC_built_1 rfl rfl ?_
  refine tv_callV1r kTC_86 (by decide) (Nat.le_of_ble_eq_true rfl) ⟨rfl, rfl⟩ rfl (cc_isTool σ _) ⟨Nat.zero_le _, Nat.zero_le _⟩ dTC_built_2 ?_
  refine tv_if_eq (tgt := 16) dTC_built_5 (by decide) (fun c5 => ?_) (fun c5 => ?_)
  · refine tv_iconst (v := 0) dTC_built_16 (by decide) ?_
    exact tv_iret dTC_built_17 rfl rfl rfl rfl
  · have hy : tc_isN y (σ.2.2.2 0) = false := by
      rcases hx with q | q
      · exact absurd (tc_b2_0.mpr q) c5
      · exact q
    refine tv_aload_n dTC_built_8 rfl rfl ?_
    refine tv_iload_n dTC_built_9 rfl rfl ?_
    refine tv_callV1r kTC_104 (by decide) (Nat.le_of_ble_eq_true rfl) ⟨rfl, rfl⟩ rfl (cc_isPlatform σ _) ⟨Nat.zero_le _, Nat.zero_le _⟩ dTC_built_10 ?_
    refine tv_if_ne (tgt := 18) dTC_built_13 (by decide) (fun c13 => absurd (tc_b2_n.mp c13) (by rw [hy]; simp)) (fun c13 => ?_)
    refine tv_iconst (v := 0) dTC_built_16 (by decide) ?_
    exact tv_iret dTC_built_17 rfl rfl rfl rfl
set_option maxHeartbeats 4000000 in
set_option maxRecDepth 100000 in
theorem cl_ring_12 (σ : tcS) (hI : tc_I σ) (i : Int32) {K : tcK} : ∀ (n : Nat) (t b : Nat), t + n = σ.2.2.2 1 → b ≤ t → K.2.1 = some (.inl (tc_ringF σ i n t b)) → K.2.2.1 = tc_hC σ → tc_V (cTC_ring, 4, yTC_ring.cls, some .int, 4, yTC_ring.name) K 0 0 (tc_hC σ) 12 [some (.inr (some 0)), some (.inl i), some (.inl (nI b)), some (.inl (nI t))] [] := by
  intro n
  induction n with
  | zero =>
    intro t b ht hb hr hh
    obtain ⟨iP, iT, iN, iA, iR, iK, iO, iQ, iF, iB⟩ := id hI
    refine tv_iload_n dTC_ring_12 rfl rfl ?_
    refine tv_aload_n dTC_ring_13 rfl rfl ?_
    refine gTC_35 rfl dTC_ring_14 ?_
    refine tv_icmp_ge (tgt := 49) dTC_ring_17 (by decide) (fun c17 => ?_) (fun c17 => absurd (nI_le (by omega) (by omega)) c17)
    refine tv_iconst (v := -1) dTC_ring_49 (by decide) ?_
    exact tv_iret dTC_ring_50 rfl rfl hr hh
  | succ n ih =>
    intro t b ht hb hr hh
    obtain ⟨iP, iT, iN, iA, iR, iK, iO, iQ, iF, iB⟩ := id hI
    refine tv_iload_n dTC_ring_12 rfl rfl ?_
    refine tv_aload_n dTC_ring_13 rfl rfl ?_
    refine gTC_35 rfl dTC_ring_14 ?_
    refine tv_icmp_ge (tgt := 49) dTC_ring_17 (by decide) (fun c17 => absurd c17 (nI_ge (by omega) (by omega))) (fun c17 => ?_)
    refine tv_aload_n dTC_ring_20 rfl rfl ?_
    refine gTC_73 rfl dTC_ring_21 ?_
    refine tv_iload_n dTC_ring_24 rfl rfl ?_
    refine ldC_20 dTC_ring_25 (by omega) ?_
    refine tv_iload_n dTC_ring_26 rfl rfl ?_
    refine tv_callS2r kTC_93 (by decide) (Nat.le_of_ble_eq_true rfl) ⟨rfl, rfl⟩ (cc_hasBit _ _ (by omega)) ⟨Nat.zero_le _, Nat.zero_le _⟩ dTC_ring_27 ?_
    refine tv_if_eq (tgt := 43) dTC_ring_30 (by decide) (fun c30 => ?_) (fun c30 => ?_)
    · have h9 := ih (t + 1) b (by omega) (by omega) (by rw [hr, tc_ringF, if_neg (by rw [tc_b2_0.mp c30]; simp)]) hh
      refine tv_iinc_3 dTC_ring_43 (by decide) (nI_1 t) ?_
      refine tv_goto (tgt := 12) dTC_ring_46 (by decide) ?_
      exact h9
    · refine tv_iload_n dTC_ring_33 rfl rfl ?_
      refine tv_iload_n dTC_ring_34 rfl rfl ?_
      refine tv_icmp_ne (tgt := 40) dTC_ring_35 (by decide) (fun c35 => ?_) (fun c35 => ?_)
      · have h9 := ih (t + 1) (b + 1) (by omega) (by omega) (by rw [hr, tc_ringF, if_pos (tc_b2_n.mp c30), if_neg c35]) hh
        refine tv_iinc_2 dTC_ring_40 (by decide) (nI_1 b) ?_
        refine tv_iinc_3 dTC_ring_43 (by decide) (nI_1 t) ?_
        refine tv_goto (tgt := 12) dTC_ring_46 (by decide) ?_
        exact h9
      · have e35 := show tc_ringF σ i (n + 1) t b = nI t by rw [tc_ringF, if_pos (tc_b2_n.mp c30), if_pos c35]
        refine tv_iload_n dTC_ring_38 rfl rfl ?_
        exact tv_iret dTC_ring_39 rfl rfl (by rw [hr, e35]) hh
set_option maxHeartbeats 4000000 in
set_option maxRecDepth 100000 in
theorem cc_ring (σ : tcS) (hI : tc_I σ) (i : Int32) : tc_M yTC_ring cTC_ring 4 (some .int) 4 [.inr (some 0), .inl i] (tc_hC σ, some (.inl (tc_ringF (tc_leads (tc_settle σ)) i (σ.2.2.2 1) 0 0)), tc_hC (tc_leads (tc_settle σ)), 0, 0) := by
  have hI1 : tc_I (tc_settle σ) := tc_I_of hI (tc_settle_k σ).1 (tc_settle_k σ).2
  have hI2 : tc_I (tc_leads (tc_settle σ)) := tc_I_of hI1 (tc_leads_k _).1 (tc_leads_k _).2
  refine tc_met (by decide) (Nat.le_of_ble_eq_true rfl) (Nat.le_of_eq tc_hC_len) rfl ?_
  refine tv_aload_n dTC_ring_0 rfl rfl ?_
  refine tv_callV0v kTC_107 (by decide) (Nat.le_of_ble_eq_true rfl) ⟨rfl, rfl⟩ rfl (cc_settleBuilt σ hI) ⟨Nat.zero_le _, Nat.zero_le _⟩ dTC_ring_1 ?_
  refine tv_aload_n dTC_ring_4 rfl rfl ?_
  refine tv_callV0v kTC_124 (by decide) (Nat.le_of_ble_eq_true rfl) ⟨rfl, rfl⟩ rfl (cc_settleLeads (tc_settle σ) hI1) ⟨Nat.zero_le _, Nat.zero_le _⟩ dTC_ring_5 ?_
  refine tv_iconst (v := 0) dTC_ring_8 (by decide) ?_
  refine tv_istN_2 dTC_ring_9 (by decide) ?_
  refine tv_iconst (v := 0) dTC_ring_10 (by decide) ?_
  refine tv_istN_3 dTC_ring_11 (by decide) ?_
  exact cl_ring_12 _ hI2 i (σ.2.2.2 1) 0 0 (by rw [(tc_leads_k _).1, (tc_settle_k σ).1]; omega) (Nat.le_refl _) rfl rfl

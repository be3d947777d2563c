def tm_platform (τ : tcS) (c : Int32) : Option Nat × tcS := if τ.2.2.2 0 = 6 then (none, τ) else (some (τ.2.2.2 0), tc_s4 (tc_s1 τ 0 (upd (τ.1 0) (τ.2.2.2 0) c)) 0 (τ.2.2.2 0 + 1))
def tm_tool (τ : tcS) (k : Nat) (r m v : Int32) : Option Nat × tcS := if τ.2.2.2 1 = 24 then (none, τ) else (some (τ.2.2.2 1),
  tc_s4 (tc_s2 (tc_s1 (tc_s1 (tc_s1 (tc_s2 τ 0 (va_up (τ.2.1 0) (τ.2.2.2 1) k)) 1 (upd (τ.1 1) (τ.2.2.2 1) r)) 2 (upd (τ.1 2) (τ.2.2.2 1) m)) 3 (upd (τ.1 3) (τ.2.2.2 1) v)) 1 (va_up (τ.2.1 1) (τ.2.2.2 1) (τ.2.2.2 1))) 1 (τ.2.2.2 1 + 1))
def tm_needs (τ : tcS) (t k : Nat) : Bool × tcS := if τ.2.2.2 2 = 40 ∨ tm_wants τ t k = true then (false, τ) else (true, tc_s4 (tc_s2 (tc_s2 τ 3 (va_up (τ.2.1 3) (τ.2.2.2 2) t)) 4 (va_up (τ.2.1 4) (τ.2.2.2 2) k)) 2 (τ.2.2.2 2 + 1))
set_option maxHeartbeats 4000000 in
set_option maxRecDepth 100000 in
theorem mp_platform (ρ : tcS) (hI : tm_I ρ) (c : Int32) {K : tcK} (hr : K.2.1 = some (.inl (tc_oI (tm_platform ρ c).1))) (hh : K.2.2.1 = tm_h (tm_platform ρ c).2) : tc_V (cMO_platform, 2, yMO_platform.cls, some .int, 0, yMO_platform.name) K 0 0 (tm_h ρ) 5 [some (.inr (some 0)), some (.inl c)] [] := by
  obtain ⟨iP, iT, iN, iA, iR, iK, iO, iQ, iF, iB, iW⟩ := id hI
  refine tv_aload_n dMO_platform_5 rfl rfl ?_
  refine gMO_72 rfl dMO_platform_6 ?_
  refine tv_bipush (v := 6) dMO_platform_9 (by decide) ?_
  refine tv_icmp_ne (tgt := 16) dMO_platform_11 (by decide) (fun c11 => ?_) (fun c11 => ?_)
  · have d11 : ¬ ρ.2.2.2 0 = 6 := fun q => c11 (by rw [q]; rfl)
    have e6 := show tm_platform ρ c = (some (ρ.2.2.2 0), tc_s4 (tc_s1 ρ 0 (upd (ρ.1 0) (ρ.2.2.2 0) c)) 0 (ρ.2.2.2 0 + 1)) by unfold tm_platform; rw [if_neg d11]
    refine tv_aload_n dMO_platform_16 rfl rfl ?_
    refine gMO_7 rfl dMO_platform_17 ?_
    refine tv_aload_n dMO_platform_20 rfl rfl ?_
    refine gMO_72 rfl dMO_platform_21 ?_
    refine tv_iload_n dMO_platform_24 rfl rfl ?_
    refine stM_1 dMO_platform_25 (by omega) ?_
    refine tv_aload_n dMO_platform_26 rfl rfl ?_
    refine tv_dup dMO_platform_27 ?_
    refine gMO_72 rfl dMO_platform_28 ?_
    refine tv_iconst (v := 1) dMO_platform_31 (by decide) ?_
    refine tv_iadd dMO_platform_32 ?_
    refine tv_top (b := .inl (nI (ρ.2.2.2 0 + 1))) (congrArg Sum.inl (nI_1 _)) ?_
    refine pMO_72 rfl dMO_platform_33 ?_
    refine tv_aload_n dMO_platform_36 rfl rfl ?_
    refine gMO_72 rfl dMO_platform_37 ?_
    refine tv_iconst (v := 1) dMO_platform_40 (by decide) ?_
    refine tv_isub dMO_platform_41 ?_
    refine tv_top (b := .inl (nI (ρ.2.2.2 0))) (congrArg Sum.inl (nI_pred _)) ?_
    exact tv_iret dMO_platform_42 rfl rfl (by rw [hr, e6]; rfl) (by rw [hh, e6])
  · have d11 : ρ.2.2.2 0 = 6 := (nI_eq (b := 6) (by omega) (by omega)).mp c11
    have e6 : tm_platform ρ c = (none, ρ) := by unfold tm_platform; rw [if_pos d11]
    refine tv_iconst (v := -1) dMO_platform_14 (by decide) ?_
    exact tv_iret dMO_platform_15 rfl rfl (by rw [hr, e6]; rfl) (by rw [hh, e6])
set_option maxHeartbeats 4000000 in
set_option maxRecDepth 100000 in
theorem mm_platform (τ : tcS) (hI : tm_I τ) (c : Int32) : tc_M yMO_platform cMO_platform 2 (some .int) 0 [.inr (some 0), .inl c] (tm_h τ, some (.inl (tc_oI (tm_platform (tc_s4 τ 5 0) c).1)), tm_h (tm_platform (tc_s4 τ 5 0) c).2, 0, 0) := by
  refine tc_met (by decide) (Nat.le_of_ble_eq_true rfl) (Nat.le_of_eq tm_len) rfl ?_
  refine tv_aload_n dMO_platform_0 rfl rfl ?_
  refine tv_iconst (v := 0) dMO_platform_1 (by decide) ?_
  refine tv_top (b := .inl (nI 0)) rfl ?_
  refine pMO_68 rfl dMO_platform_2 ?_
  exact mp_platform (tc_s4 τ 5 0) hI c rfl rfl
set_option maxHeartbeats 4000000 in
set_option maxRecDepth 100000 in
theorem mp_tool (ρ : tcS) (hI : tm_I ρ) {k : Nat} (hk : k < 8) (r m v : Int32) {K : tcK} (hr : K.2.1 = some (.inl (tc_oI (tm_tool ρ k r m v).1))) (hh : K.2.2.1 = tm_h (tm_tool ρ k r m v).2) : tc_V (cMO_tool, 5, yMO_tool.cls, some .int, 1, yMO_tool.name) K 0 0 (tm_h ρ) 5 [some (.inr (some 0)), some (.inl (nI k)), some (.inl r), some (.inl m), some (.inl v)] [] := by
  obtain ⟨iP, iT, iN, iA, iR, iK, iO, iQ, iF, iB, iW⟩ := id hI
  refine tv_aload_n dMO_tool_5 rfl rfl ?_
  refine gMO_75 rfl dMO_tool_6 ?_
  refine tv_bipush (v := 24) dMO_tool_9 (by decide) ?_
  refine tv_icmp_eq (tgt := 21) dMO_tool_11 (by decide) (fun c11 => ?_) (fun c11 => ?_)
  · have d6 : ρ.2.2.2 1 = 24 := (nI_eq (b := 24) (by omega) (by omega)).mp c11
    have e6 : tm_tool ρ k r m v = (none, ρ) := by unfold tm_tool; rw [if_pos d6]
    refine tv_iconst (v := -1) dMO_tool_21 (by decide) ?_
    exact tv_iret dMO_tool_22 rfl rfl (by rw [hr, e6]; rfl) (by rw [hh, e6])
  · have d6 : ¬ ρ.2.2.2 1 = 24 := fun q => c11 (by rw [q]; rfl)
    have e6 := show tm_tool ρ k r m v = (some (ρ.2.2.2 1), _) by unfold tm_tool; rw [if_neg d6]
    refine tv_iload_n dMO_tool_14 rfl rfl ?_
    refine tv_callS1r kMO_78 (by decide) (Nat.le_of_ble_eq_true rfl) ⟨rfl, rfl⟩ (mm_isKind _ _) ⟨Nat.zero_le _, Nat.zero_le _⟩ dMO_tool_15 ?_
    refine tv_if_ne (tgt := 23) dMO_tool_18 (by decide) (fun c18 => ?_) (fun c18 => absurd (tc_b2_0.mp c18) (by rw [tc_isN_nI hk (by omega)]; simp))
    refine tv_aload_n dMO_tool_23 rfl rfl ?_
    refine gMO_13 rfl dMO_tool_24 ?_
    refine tv_aload_n dMO_tool_27 rfl rfl ?_
    refine gMO_75 rfl dMO_tool_28 ?_
    refine tv_iload_n dMO_tool_31 rfl rfl ?_
    refine stM_2 dMO_tool_32 (by omega) ?_
    refine tv_aload_n dMO_tool_33 rfl rfl ?_
    refine gMO_16 rfl dMO_tool_34 ?_
    refine tv_aload_n dMO_tool_37 rfl rfl ?_
    refine gMO_75 rfl dMO_tool_38 ?_
    refine tv_top (b := .inl (nI (ρ.2.2.2 1))) rfl ?_
    refine tv_iload_n dMO_tool_41 rfl rfl ?_
    refine stM_3 dMO_tool_42 (by omega) ?_
    refine tv_aload_n dMO_tool_43 rfl rfl ?_
    refine gMO_19 rfl dMO_tool_44 ?_
    refine tv_aload_n dMO_tool_47 rfl rfl ?_
    refine gMO_75 rfl dMO_tool_48 ?_
    refine tv_top (b := .inl (nI (ρ.2.2.2 1))) rfl ?_
    refine tv_iload_n dMO_tool_51 rfl rfl ?_
    refine stM_4 dMO_tool_52 (by omega) ?_
    refine tv_aload_n dMO_tool_53 rfl rfl ?_
    refine gMO_22 rfl dMO_tool_54 ?_
    refine tv_aload_n dMO_tool_57 rfl rfl ?_
    refine gMO_75 rfl dMO_tool_58 ?_
    refine tv_top (b := .inl (nI (ρ.2.2.2 1))) rfl ?_
    refine tv_iload dMO_tool_61 rfl ?_
    refine stM_5 dMO_tool_63 (by omega) ?_
    refine tv_aload_n dMO_tool_64 rfl rfl ?_
    refine gMO_25 rfl dMO_tool_65 ?_
    refine tv_aload_n dMO_tool_68 rfl rfl ?_
    refine gMO_75 rfl dMO_tool_69 ?_
    refine tv_top (b := .inl (nI (ρ.2.2.2 1))) rfl ?_
    refine tv_aload_n dMO_tool_72 rfl rfl ?_
    refine gMO_75 rfl dMO_tool_73 ?_
    refine tv_top (b := .inl (nI (ρ.2.2.2 1))) rfl ?_
    refine stM_6 dMO_tool_76 (by omega) ?_
    refine tv_aload_n dMO_tool_77 rfl rfl ?_
    refine tv_dup dMO_tool_78 ?_
    refine gMO_75 rfl dMO_tool_79 ?_
    refine tv_top (b := .inl (nI (ρ.2.2.2 1))) rfl ?_
    refine tv_iconst (v := 1) dMO_tool_82 (by decide) ?_
    refine tv_iadd dMO_tool_83 ?_
    refine tv_top (b := .inl (nI (ρ.2.2.2 1 + 1))) (congrArg Sum.inl (nI_1 _)) ?_
    refine pMO_75 rfl dMO_tool_84 ?_
    refine tv_aload_n dMO_tool_87 rfl rfl ?_
    refine gMO_75 rfl dMO_tool_88 ?_
    refine tv_iconst (v := 1) dMO_tool_91 (by decide) ?_
    refine tv_isub dMO_tool_92 ?_
    refine tv_top (b := .inl (nI (ρ.2.2.2 1))) (congrArg Sum.inl (nI_pred _)) ?_
    exact tv_iret dMO_tool_93 rfl rfl (by rw [hr, e6]; rfl) (by rw [hh, e6]; rfl)
set_option maxHeartbeats 4000000 in
set_option maxRecDepth 100000 in
theorem mm_tool (τ : tcS) (hI : tm_I τ) {k : Nat} (hk : k < 8) (r m v : Int32) : tc_M yMO_tool cMO_tool 5 (some .int) 1 [.inr (some 0), .inl (nI k), .inl r, .inl m, .inl v] (tm_h τ, some (.inl (tc_oI (tm_tool (tc_s4 τ 5 0) k r m v).1)), tm_h (tm_tool (tc_s4 τ 5 0) k r m v).2, 0, 0) := by
  refine tc_met (by decide) (Nat.le_of_ble_eq_true rfl) (Nat.le_of_eq tm_len) rfl ?_
  refine tv_aload_n dMO_tool_0 rfl rfl ?_
  refine tv_iconst (v := 0) dMO_tool_1 (by decide) ?_
  refine tv_top (b := .inl (nI 0)) rfl ?_
  refine pMO_68 rfl dMO_tool_2 ?_
  exact mp_tool (tc_s4 τ 5 0) hI hk r m v rfl rfl
set_option maxHeartbeats 4000000 in
set_option maxRecDepth 100000 in
theorem mp_tool_no (ρ : tcS) {x : Int32} (hx : tc_isN x 8 = false) (r m v : Int32) {K : tcK} (hr : K.2.1 = some (.inl (-1))) (hh : K.2.2.1 = tm_h ρ) : tc_V (cMO_tool, 5, yMO_tool.cls, some .int, 1, yMO_tool.name) K 0 0 (tm_h ρ) 5 [some (.inr (some 0)), some (.inl x), some (.inl r), some (.inl m), some (.inl v)] [] := by
  refine tv_aload_n dMO_tool_5 rfl rfl ?_
  refine gMO_75 rfl dMO_tool_6 ?_
  refine tv_bipush (v := 24) dMO_tool_9 (by decide) ?_
  refine tv_icmp_eq (tgt := 21) dMO_tool_11 (by decide) (fun c11 => ?_) (fun c11 => ?_)
  · refine tv_iconst (v := -1) dMO_tool_21 (by decide) ?_
    exact tv_iret dMO_tool_22 rfl rfl hr hh
  · refine tv_iload_n dMO_tool_14 rfl rfl ?_
    refine tv_callS1r kMO_78 (by decide) (Nat.le_of_ble_eq_true rfl) ⟨rfl, rfl⟩ (mm_isKind _ _) ⟨Nat.zero_le _, Nat.zero_le _⟩ dMO_tool_15 ?_
    refine tv_if_ne (tgt := 23) dMO_tool_18 (by decide) (fun c18 => absurd (tc_b2_n.mp c18) (by rw [hx]; simp)) (fun c18 => ?_)
    refine tv_iconst (v := -1) dMO_tool_21 (by decide) ?_
    exact tv_iret dMO_tool_22 rfl rfl hr hh
set_option maxHeartbeats 4000000 in
set_option maxRecDepth 100000 in
theorem mm_tool_no (τ : tcS) {x : Int32} (hx : tc_isN x 8 = false) (r m v : Int32) : tc_M yMO_tool cMO_tool 5 (some .int) 1 [.inr (some 0), .inl x, .inl r, .inl m, .inl v] (tm_h τ, some (.inl (-1)), tm_h (tc_s4 τ 5 0), 0, 0) := by
  refine tc_met (by decide) (Nat.le_of_ble_eq_true rfl) (Nat.le_of_eq tm_len) rfl ?_
  refine tv_aload_n dMO_tool_0 rfl rfl ?_
  refine tv_iconst (v := 0) dMO_tool_1 (by decide) ?_
  refine tv_top (b := .inl (nI 0)) rfl ?_
  refine pMO_68 rfl dMO_tool_2 ?_
  exact mp_tool_no (tc_s4 τ 5 0) hx r m v rfl rfl
set_option maxHeartbeats 4000000 in
set_option maxRecDepth 100000 in
theorem mp_needs (ρ : tcS) (hI : tm_I ρ) {t k : Nat} (ht : t < ρ.2.2.2 1) (hk : k < 8) {K : tcK} (hr : K.2.1 = some (.inl (tc_b2 (tm_needs ρ t k).1))) (hh : K.2.2.1 = tm_h (tm_needs ρ t k).2) : tc_V (cMO_needs, 3, yMO_needs.cls, some .boolean, 1, yMO_needs.name) K 0 0 (tm_h ρ) 5 [some (.inr (some 0)), some (.inl (nI t)), some (.inl (nI k))] [] := by
  obtain ⟨iP, iT, iN, iA, iR, iK, iO, iQ, iF, iB, iW⟩ := id hI
  refine tv_aload_n dMO_needs_5 rfl rfl ?_
  refine tv_iload_n dMO_needs_6 rfl rfl ?_
  refine tv_callV1r kMO_82 (by decide) (Nat.le_of_ble_eq_true rfl) ⟨rfl, rfl⟩ rfl (mm_isTool ρ _) ⟨Nat.zero_le _, Nat.zero_le _⟩ dMO_needs_7 ?_
  refine tv_if_eq (tgt := 38) dMO_needs_10 (by decide) (fun c10 => absurd (tc_b2_0.mp c10) (by rw [tc_isN_nI ht (by omega)]; simp)) (fun c10 => ?_)
  refine tv_iload_n dMO_needs_13 rfl rfl ?_
  refine tv_callS1r kMO_78 (by decide) (Nat.le_of_ble_eq_true rfl) ⟨rfl, rfl⟩ (mm_isKind _ _) ⟨Nat.zero_le _, Nat.zero_le _⟩ dMO_needs_14 ?_
  refine tv_if_eq (tgt := 38) dMO_needs_17 (by decide) (fun c17 => absurd (tc_b2_0.mp c17) (by rw [tc_isN_nI hk (by omega)]; simp)) (fun c17 => ?_)
  refine tv_aload_n dMO_needs_20 rfl rfl ?_
  refine gMO_85 rfl dMO_needs_21 ?_
  refine tv_bipush (v := 40) dMO_needs_24 (by decide) ?_
  refine tv_icmp_eq (tgt := 38) dMO_needs_26 (by decide) (fun c26 => ?_) (fun c26 => ?_)
  · have d26 : ρ.2.2.2 2 = 40 := (nI_eq (b := 40) (by omega) (by omega)).mp c26
    have e27 : tm_needs ρ t k = (false, ρ) := by unfold tm_needs; rw [if_pos (Or.inl d26)]
    refine tv_iconst (v := 0) dMO_needs_38 (by decide) ?_
    exact tv_iret dMO_needs_39 rfl rfl (by rw [hr, e27]; rfl) (by rw [hh, e27])
  · have d26 : ¬ ρ.2.2.2 2 = 40 := fun q => c26 (by rw [q]; rfl)
    refine tv_aload_n dMO_needs_29 rfl rfl ?_
    refine tv_iload_n dMO_needs_30 rfl rfl ?_
    refine tv_iload_n dMO_needs_31 rfl rfl ?_
    refine tv_callV2r kMO_88 (by decide) (Nat.le_of_ble_eq_true rfl) ⟨rfl, rfl⟩ rfl (mm_wants ρ hI (by omega) hk) ⟨Nat.zero_le _, Nat.zero_le _⟩ dMO_needs_32 ?_
    refine tv_if_eq (tgt := 40) dMO_needs_35 (by decide) (fun c35 => ?_) (fun c35 => ?_)
    · have e27 := show tm_needs ρ t k = (true, _) by unfold tm_needs; rw [if_neg (fun q => q.elim d26 (fun q => by rw [tc_b2_0.mp c35] at q; cases q))]
      refine tv_aload_n dMO_needs_40 rfl rfl ?_
      refine gMO_28 rfl dMO_needs_41 ?_
      refine tv_aload_n dMO_needs_44 rfl rfl ?_
      refine gMO_85 rfl dMO_needs_45 ?_
      refine tv_iload_n dMO_needs_48 rfl rfl ?_
      refine stM_7 dMO_needs_49 (by omega) ?_
      refine tv_aload_n dMO_needs_50 rfl rfl ?_
      refine gMO_31 rfl dMO_needs_51 ?_
      refine tv_aload_n dMO_needs_54 rfl rfl ?_
      refine gMO_85 rfl dMO_needs_55 ?_
      refine tv_top (b := .inl (nI (ρ.2.2.2 2))) rfl ?_
      refine tv_iload_n dMO_needs_58 rfl rfl ?_
      refine stM_8 dMO_needs_59 (by omega) ?_
      refine tv_aload_n dMO_needs_60 rfl rfl ?_
      refine tv_dup dMO_needs_61 ?_
      refine gMO_85 rfl dMO_needs_62 ?_
      refine tv_top (b := .inl (nI (ρ.2.2.2 2))) rfl ?_
      refine tv_iconst (v := 1) dMO_needs_65 (by decide) ?_
      refine tv_iadd dMO_needs_66 ?_
      refine tv_top (b := .inl (nI (ρ.2.2.2 2 + 1))) (congrArg Sum.inl (nI_1 _)) ?_
      refine pMO_85 rfl dMO_needs_67 ?_
      refine tv_iconst (v := 1) dMO_needs_70 (by decide) ?_
      exact tv_iret dMO_needs_71 rfl rfl (by rw [hr, e27]; rfl) (by rw [hh, e27]; rfl)
    · have e27 : tm_needs ρ t k = (false, ρ) := by unfold tm_needs; rw [if_pos (Or.inr (tc_b2_n.mp c35))]
      refine tv_iconst (v := 0) dMO_needs_38 (by decide) ?_
      exact tv_iret dMO_needs_39 rfl rfl (by rw [hr, e27]; rfl) (by rw [hh, e27])
set_option maxHeartbeats 4000000 in
set_option maxRecDepth 100000 in
theorem mm_needs (τ : tcS) (hI : tm_I τ) {t k : Nat} (ht : t < (tc_s4 τ 5 0).2.2.2 1) (hk : k < 8) : tc_M yMO_needs cMO_needs 3 (some .boolean) 1 [.inr (some 0), .inl (nI t), .inl (nI k)] (tm_h τ, some (.inl (tc_b2 (tm_needs (tc_s4 τ 5 0) t k).1)), tm_h (tm_needs (tc_s4 τ 5 0) t k).2, 0, 0) := by
  refine tc_met (by decide) (Nat.le_of_ble_eq_true rfl) (Nat.le_of_eq tm_len) rfl ?_
  refine tv_aload_n dMO_needs_0 rfl rfl ?_
  refine tv_iconst (v := 0) dMO_needs_1 (by decide) ?_
  refine tv_top (b := .inl (nI 0)) rfl ?_
  refine pMO_68 rfl dMO_needs_2 ?_
  exact mp_needs (tc_s4 τ 5 0) hI ht hk rfl rfl
set_option maxHeartbeats 4000000 in
set_option maxRecDepth 100000 in
theorem mp_needs_no (ρ : tcS) {x y : Int32} (hx : tc_isN x (ρ.2.2.2 1) = false ∨ tc_isN y 8 = false) {K : tcK} (hr : K.2.1 = some (.inl 0)) (hh : K.2.2.1 = tm_h ρ) : tc_V (cMO_needs, 3, yMO_needs.cls, some .boolean, 1, yMO_needs.name) K 0 0 (tm_h ρ) 5 [some (.inr (some 0)), some (.inl x), some (.inl y)] [] := by
  refine tv_aload_n dMO_needs_5 rfl rfl ?_
  refine tv_iload_n dMO_needs_6 rfl rfl ?_
  refine tv_callV1r kMO_82 (by decide) (Nat.le_of_ble_eq_true rfl) ⟨rfl, rfl⟩ rfl (mm_isTool ρ _) ⟨Nat.zero_le _, Nat.zero_le _⟩ dMO_needs_7 ?_
  refine tv_if_eq (tgt := 38) dMO_needs_10 (by decide) (fun c10 => ?_) (fun c10 => ?_)
  · refine tv_iconst (v := 0) dMO_needs_38 (by decide) ?_
    exact tv_iret dMO_needs_39 rfl rfl hr hh
  · have hy : tc_isN y 8 = false := by
      rcases hx with q | q
      · exact absurd (tc_b2_0.mpr q) c10
      · exact q
    refine tv_iload_n dMO_needs_13 rfl rfl ?_
    refine tv_callS1r kMO_78 (by decide) (Nat.le_of_ble_eq_true rfl) ⟨rfl, rfl⟩ (mm_isKind _ _) ⟨Nat.zero_le _, Nat.zero_le _⟩ dMO_needs_14 ?_
    refine tv_if_eq (tgt := 38) dMO_needs_17 (by decide) (fun c17 => ?_) (fun c17 => absurd (tc_b2_0.mpr hy) c17)
    refine tv_iconst (v := 0) dMO_needs_38 (by decide) ?_
    exact tv_iret dMO_needs_39 rfl rfl hr hh
set_option maxHeartbeats 4000000 in
set_option maxRecDepth 100000 in
theorem mm_needs_no (τ : tcS) {x y : Int32} (hx : tc_isN x ((tc_s4 τ 5 0).2.2.2 1) = false ∨ tc_isN y 8 = false) : tc_M yMO_needs cMO_needs 3 (some .boolean) 1 [.inr (some 0), .inl x, .inl y] (tm_h τ, some (.inl 0), tm_h (tc_s4 τ 5 0), 0, 0) := by
  refine tc_met (by decide) (Nat.le_of_ble_eq_true rfl) (Nat.le_of_eq tm_len) rfl ?_
  refine tv_aload_n dMO_needs_0 rfl rfl ?_
  refine tv_iconst (v := 0) dMO_needs_1 (by decide) ?_
  refine tv_top (b := .inl (nI 0)) rfl ?_
  refine pMO_68 rfl dMO_needs_2 ?_
  exact mp_needs_no (tc_s4 τ 5 0) hx rfl rfl
def tm_put (τ : tcS) (k : Nat) (v b : Int32) : tcS :=
  tc_s1 (tc_s1 (if tm_place τ k = none then tc_s4 (tc_s2 τ 2 (va_up (τ.2.1 2) (τ.2.2.2 3) k)) 3 (τ.2.2.2 3 + 1) else τ) 10 (upd (τ.1 10) k v)) 11 (upd (τ.1 11) k b)
theorem tm_pf_lt {τ : tcS} {k : Nat} : ∀ {n i j : Nat} {g : Option Nat}, tm_pf τ k n i g = some j → (g = some j ∨ (i ≤ j ∧ j < i + n ∧ τ.2.1 2 j = k))
  | 0, _, _, _, h => Or.inl h
  | n + 1, i, j, g, h => by
    unfold tm_pf at h
    rcases tm_pf_lt h with q | q
    · split at q
      · rename_i e
        cases q
        exact Or.inr ⟨Nat.le_refl _, by omega, e⟩
      · exact Or.inl q
    · exact Or.inr ⟨by omega, by omega, q.2.2⟩
theorem tm_place_lt {τ : tcS} {k j : Nat} (h : tm_place τ k = some j) : j < τ.2.2.2 3 ∧ τ.2.1 2 j = k := by
  rcases tm_pf_lt h with q | q
  · cases q
  · exact ⟨by omega, q.2.2⟩
set_option maxHeartbeats 4000000 in
set_option maxRecDepth 100000 in
theorem mp_ask (ρ : tcS) (hI : tm_I ρ) {k : Nat} (hk : k < 8) (v b : Int32) (hb : vp_nar .boolean b = b) (h8 : tm_place ρ k = none → ρ.2.2.2 3 < 8) {K : tcK} (hr : K.2.1 = some (.inl 1)) (hh : K.2.2.1 = tm_h (tm_put ρ k v b)) : tc_V (cMO_ask, 4, yMO_ask.cls, some .boolean, 1, yMO_ask.name) K 0 0 (tm_h ρ) 5 [some (.inr (some 0)), some (.inl (nI k)), some (.inl v), some (.inl b)] [] := by
  obtain ⟨iP, iT, iN, iA, iR, iK, iO, iQ, iF, iB, iW⟩ := id hI
  refine tv_iload_n dMO_ask_5 rfl rfl ?_
  refine tv_callS1r kMO_78 (by decide) (Nat.le_of_ble_eq_true rfl) ⟨rfl, rfl⟩ (mm_isKind _ _) ⟨Nat.zero_le _, Nat.zero_le _⟩ dMO_ask_6 ?_
  refine tv_if_ne (tgt := 14) dMO_ask_9 (by decide) (fun c9 => ?_) (fun c9 => absurd (tc_b2_0.mp c9) (by rw [tc_isN_nI hk (by omega)]; simp))
  refine tv_aload_n dMO_ask_14 rfl rfl ?_
  refine tv_iload_n dMO_ask_15 rfl rfl ?_
  refine tv_callV1r kMO_95 (by decide) (Nat.le_of_ble_eq_true rfl) ⟨rfl, rfl⟩ rfl (mm_place ρ hI hk) ⟨Nat.zero_le _, Nat.zero_le _⟩ dMO_ask_16 ?_
  refine tv_iconst (v := -1) dMO_ask_19 (by decide) ?_
  refine tv_icmp_ne (tgt := 43) dMO_ask_20 (by decide) (fun c20 => ?_) (fun c20 => ?_)
  · have hp : ¬ tm_place ρ k = none := fun q => c20 ((tc_oI_m1 (fun i q => by have := tm_place_lt q; omega)).mpr q)
    have e2 : tm_h (tm_put ρ k v b) = tm_h (tc_s1 (tc_s1 ρ 10 (upd (ρ.1 10) k v)) 11 (upd (ρ.1 11) k b)) := by unfold tm_put; rw [if_neg hp]
    refine tv_aload_n dMO_ask_43 rfl rfl ?_
    refine gMO_37 rfl dMO_ask_44 ?_
    refine tv_iload_n dMO_ask_47 rfl rfl ?_
    refine tv_iload_n dMO_ask_48 rfl rfl ?_
    refine stM_10 dMO_ask_49 hk ?_
    refine tv_aload_n dMO_ask_50 rfl rfl ?_
    refine gMO_46 rfl dMO_ask_51 ?_
    refine tv_iload_n dMO_ask_54 rfl rfl ?_
    refine tv_iload_n dMO_ask_55 rfl rfl ?_
    refine stM_13 dMO_ask_56 hk hb ?_
    refine tv_iconst (v := 1) dMO_ask_57 (by decide) ?_
    exact tv_iret dMO_ask_58 rfl rfl hr (by rw [hh, e2]; rfl)
  · have hp := (tc_oI_m1 (fun i q => by have := tm_place_lt q; omega)).mp c20
    have e2 : tm_h (tm_put ρ k v b) = tm_h (tc_s1 (tc_s1 (tc_s4 (tc_s2 ρ 2 (va_up (ρ.2.1 2) (ρ.2.2.2 3) k)) 3 (ρ.2.2.2 3 + 1)) 10 (upd (ρ.1 10) k v)) 11 (upd (ρ.1 11) k b)) := by unfold tm_put; rw [if_pos hp]
    refine tv_aload_n dMO_ask_23 rfl rfl ?_
    refine gMO_34 rfl dMO_ask_24 ?_
    refine tv_aload_n dMO_ask_27 rfl rfl ?_
    refine gMO_92 rfl dMO_ask_28 ?_
    refine tv_iload_n dMO_ask_31 rfl rfl ?_
    refine stM_9 dMO_ask_32 (h8 hp) ?_
    refine tv_aload_n dMO_ask_33 rfl rfl ?_
    refine tv_dup dMO_ask_34 ?_
    refine gMO_92 rfl dMO_ask_35 ?_
    refine tv_top (b := .inl (nI (ρ.2.2.2 3))) rfl ?_
    refine tv_iconst (v := 1) dMO_ask_38 (by decide) ?_
    refine tv_iadd dMO_ask_39 ?_
    refine tv_top (b := .inl (nI (ρ.2.2.2 3 + 1))) (congrArg Sum.inl (nI_1 _)) ?_
    refine pMO_92 rfl dMO_ask_40 ?_
    refine tv_aload_n dMO_ask_43 rfl rfl ?_
    refine gMO_37 rfl dMO_ask_44 ?_
    refine tv_iload_n dMO_ask_47 rfl rfl ?_
    refine tv_iload_n dMO_ask_48 rfl rfl ?_
    refine stM_10 dMO_ask_49 hk ?_
    refine tv_aload_n dMO_ask_50 rfl rfl ?_
    refine gMO_46 rfl dMO_ask_51 ?_
    refine tv_iload_n dMO_ask_54 rfl rfl ?_
    refine tv_iload_n dMO_ask_55 rfl rfl ?_
    refine stM_13 dMO_ask_56 hk hb ?_
    refine tv_iconst (v := 1) dMO_ask_57 (by decide) ?_
    exact tv_iret dMO_ask_58 rfl rfl hr (by rw [hh, e2]; rfl)
set_option maxHeartbeats 4000000 in
set_option maxRecDepth 100000 in
theorem mm_ask (τ : tcS) (hI : tm_I τ) {k : Nat} (hk : k < 8) (v b : Int32) (hb : vp_nar .boolean b = b) (h8 : tm_place (tc_s4 τ 5 0) k = none → (tc_s4 τ 5 0).2.2.2 3 < 8) : tc_M yMO_ask cMO_ask 4 (some .boolean) 1 [.inr (some 0), .inl (nI k), .inl v, .inl b] (tm_h τ, some (.inl 1), tm_h (tm_put (tc_s4 τ 5 0) k v b), 0, 0) := by
  refine tc_met (by decide) (Nat.le_of_ble_eq_true rfl) (Nat.le_of_eq tm_len) rfl ?_
  refine tv_aload_n dMO_ask_0 rfl rfl ?_
  refine tv_iconst (v := 0) dMO_ask_1 (by decide) ?_
  refine tv_top (b := .inl (nI 0)) rfl ?_
  refine pMO_68 rfl dMO_ask_2 ?_
  exact mp_ask (tc_s4 τ 5 0) hI hk v b hb h8 rfl rfl
set_option maxHeartbeats 4000000 in
set_option maxRecDepth 100000 in
theorem mp_ask_no (ρ : tcS) {x : Int32} (hx : tc_isN x 8 = false) (v b : Int32) {K : tcK} (hr : K.2.1 = some (.inl 0)) (hh : K.2.2.1 = tm_h ρ) : tc_V (cMO_ask, 4, yMO_ask.cls, some .boolean, 1, yMO_ask.name) K 0 0 (tm_h ρ) 5 [some (.inr (some 0)), some (.inl x), some (.inl v), some (.inl b)] [] := by
  refine tv_iload_n dMO_ask_5 rfl rfl ?_
  refine tv_callS1r kMO_78 (by decide) (Nat.le_of_ble_eq_true rfl) ⟨rfl, rfl⟩ (mm_isKind _ _) ⟨Nat.zero_le _, Nat.zero_le _⟩ dMO_ask_6 ?_
  refine tv_if_ne (tgt := 14) dMO_ask_9 (by decide) (fun c9 => absurd (tc_b2_n.mp c9) (by rw [hx]; simp)) (fun c9 => ?_)
  refine tv_iconst (v := 0) dMO_ask_12 (by decide) ?_
  exact tv_iret dMO_ask_13 rfl rfl hr hh
set_option maxHeartbeats 4000000 in
set_option maxRecDepth 100000 in
theorem mm_ask_no (τ : tcS) {x : Int32} (hx : tc_isN x 8 = false) (v b : Int32) : tc_M yMO_ask cMO_ask 4 (some .boolean) 1 [.inr (some 0), .inl x, .inl v, .inl b] (tm_h τ, some (.inl 0), tm_h (tc_s4 τ 5 0), 0, 0) := by
  refine tc_met (by decide) (Nat.le_of_ble_eq_true rfl) (Nat.le_of_eq tm_len) rfl ?_
  refine tv_aload_n dMO_ask_0 rfl rfl ?_
  refine tv_iconst (v := 0) dMO_ask_1 (by decide) ?_
  refine tv_top (b := .inl (nI 0)) rfl ?_
  refine pMO_68 rfl dMO_ask_2 ?_
  exact mp_ask_no (tc_s4 τ 5 0) hx v b rfl rfl

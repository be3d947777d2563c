def tm_rmB (j : Nat) (ρ : tcS) : tcS := tc_s2 ρ 2 (va_up (ρ.2.1 2) j (ρ.2.1 2 (j + 1)))
def tm_sub (ρ : tcS) : tcS := tc_s4 ρ 3 (ρ.2.2.2 3 - 1)
def tm_rem (τ : tcS) (k : Nat) : Bool × tcS := match tm_place τ k with
  | none => (false, τ)
  | some i => (true, tm_sub (tc_up tm_rmB (τ.2.2.2 3 - 1 - i) i τ))
set_option maxHeartbeats 4000000 in
set_option maxRecDepth 100000 in
theorem ml_drop_31 {x1 x2 : Option tcV} {K : tcK} : ∀ (n : Nat) (j : Nat) (ρ : tcS), j + n + 1 = ρ.2.2.2 3 → ρ.2.2.2 3 ≤ 8 → K.2.1 = some (.inl 1) → K.2.2.1 = tm_h (tm_sub (tc_up tm_rmB n j ρ)) → tc_V (cMO_drop, 4, yMO_drop.cls, some .boolean, 1, yMO_drop.name) K 0 0 (tm_h ρ) 31 [some (.inr (some 0)), x1, x2, some (.inl (nI j))] [] := by
  intro n
  induction n with
  | zero =>
    intro j ρ hj h8 hr hh
    refine tv_iload_n dMO_drop_31 rfl rfl ?_
    refine tv_iconst (v := 1) dMO_drop_32 (by decide) ?_
    refine tv_iadd dMO_drop_33 ?_
    refine tv_top (b := .inl (nI (j + 1))) (congrArg Sum.inl (nI_1 j)) ?_
    refine tv_aload_n dMO_drop_34 rfl rfl ?_
    refine gMO_92 rfl dMO_drop_35 ?_
    refine tv_icmp_ge (tgt := 61) dMO_drop_38 (by decide) (fun c38 => ?_) (fun c38 => absurd (nI_le (by omega) (by omega)) c38)
    refine tv_aload_n dMO_drop_61 rfl rfl ?_
    refine tv_dup dMO_drop_62 ?_
    refine gMO_92 rfl dMO_drop_63 ?_
    refine tv_iconst (v := 1) dMO_drop_66 (by decide) ?_
    refine tv_isub dMO_drop_67 ?_
    refine tv_top (b := .inl (nI (ρ.2.2.2 3 - 1))) (congrArg Sum.inl (pk_sub (b := 1) (by omega))) ?_
    refine pMO_92 rfl dMO_drop_68 ?_
    refine tv_iconst (v := 1) dMO_drop_71 (by decide) ?_
    exact tv_iret dMO_drop_72 rfl rfl hr hh
  | succ n ih =>
    intro j ρ hj h8 hr hh
    refine tv_iload_n dMO_drop_31 rfl rfl ?_
    refine tv_iconst (v := 1) dMO_drop_32 (by decide) ?_
    refine tv_iadd dMO_drop_33 ?_
    refine tv_top (b := .inl (nI (j + 1))) (congrArg Sum.inl (nI_1 j)) ?_
    refine tv_aload_n dMO_drop_34 rfl rfl ?_
    refine gMO_92 rfl dMO_drop_35 ?_
    refine tv_icmp_ge (tgt := 61) dMO_drop_38 (by decide) (fun c38 => absurd c38 (nI_ge (by omega) (by omega))) (fun c38 => ?_)
    refine tv_aload_n dMO_drop_41 rfl rfl ?_
    refine gMO_34 rfl dMO_drop_42 ?_
    refine tv_iload_n dMO_drop_45 rfl rfl ?_
    refine tv_aload_n dMO_drop_46 rfl rfl ?_
    refine gMO_34 rfl dMO_drop_47 ?_
    refine tv_iload_n dMO_drop_50 rfl rfl ?_
    refine tv_iconst (v := 1) dMO_drop_51 (by decide) ?_
    refine tv_iadd dMO_drop_52 ?_
    refine tv_top (b := .inl (nI (j + 1))) (congrArg Sum.inl (nI_1 j)) ?_
    refine ldM_9 dMO_drop_53 (by omega) ?_
    refine stM_9 dMO_drop_54 (by omega) ?_
    refine tv_iinc_3 dMO_drop_55 (by decide) (nI_1 j) ?_
    refine tv_goto (tgt := 31) dMO_drop_58 (by decide) ?_
    exact ih (j + 1) (tm_rmB j ρ) (by show j + 1 + n + 1 = ρ.2.2.2 3; omega) h8 hr hh
set_option maxHeartbeats 4000000 in
set_option maxRecDepth 100000 in
theorem mp_drop (ρ : tcS) (hI : tm_I ρ) {k : Nat} (hk : k < 8) {K : tcK} (hr : K.2.1 = some (.inl (tc_b2 (tm_rem ρ k).1))) (hh : K.2.2.1 = tm_h (tm_rem ρ k).2) : tc_V (cMO_drop, 4, yMO_drop.cls, some .boolean, 1, yMO_drop.name) K 0 0 (tm_h ρ) 5 [some (.inr (some 0)), some (.inl (nI k)), none, none] [] := by
  obtain ⟨iP, iT, iN, iA, iR, iK, iO, iQ, iF, iB, iW⟩ := id hI
  have hc := mm_place ρ hI hk
  cases hf : tm_place ρ k with
  | none =>
    rw [hf] at hc
    have e : tm_rem ρ k = (false, ρ) := by unfold tm_rem; rw [hf]
    refine tv_iload_n dMO_drop_5 rfl rfl ?_
    refine tv_callS1r kMO_78 (by decide) (Nat.le_of_ble_eq_true rfl) ⟨rfl, rfl⟩ (mm_isKind _ _) ⟨Nat.zero_le _, Nat.zero_le _⟩ dMO_drop_6 ?_
    refine tv_if_eq (tgt := 20) dMO_drop_9 (by decide) (fun c9 => absurd (tc_b2_0.mp c9) (by rw [tc_isN_nI hk (by omega)]; simp)) (fun c9 => ?_)
    refine tv_aload_n dMO_drop_12 rfl rfl ?_
    refine tv_iload_n dMO_drop_13 rfl rfl ?_
    refine tv_callV1r kMO_95 (by decide) (Nat.le_of_ble_eq_true rfl) ⟨rfl, rfl⟩ rfl hc ⟨Nat.zero_le _, Nat.zero_le _⟩ dMO_drop_14 ?_
    refine tv_goto (tgt := 21) dMO_drop_17 (by decide) ?_
    refine tv_istN_2 dMO_drop_21 (by decide) ?_
    refine tv_iload_n dMO_drop_22 rfl rfl ?_
    refine tv_iconst (v := -1) dMO_drop_23 (by decide) ?_
    refine tv_icmp_ne (tgt := 29) dMO_drop_24 (by decide) (fun c24 => absurd rfl c24) (fun c24 => ?_)
    refine tv_iconst (v := 0) dMO_drop_27 (by decide) ?_
    exact tv_iret dMO_drop_28 rfl rfl (by rw [hr, e]; rfl) (by rw [hh, e])
  | some i =>
    rw [hf] at hc
    have hb := tm_place_lt hf
    have e : tm_rem ρ k = (true, tm_sub (tc_up tm_rmB (ρ.2.2.2 3 - 1 - i) i ρ)) := by unfold tm_rem; rw [hf]
    refine tv_iload_n dMO_drop_5 rfl rfl ?_
    refine tv_callS1r kMO_78 (by decide) (Nat.le_of_ble_eq_true rfl) ⟨rfl, rfl⟩ (mm_isKind _ _) ⟨Nat.zero_le _, Nat.zero_le _⟩ dMO_drop_6 ?_
    refine tv_if_eq (tgt := 20) dMO_drop_9 (by decide) (fun c9 => absurd (tc_b2_0.mp c9) (by rw [tc_isN_nI hk (by omega)]; simp)) (fun c9 => ?_)
    refine tv_aload_n dMO_drop_12 rfl rfl ?_
    refine tv_iload_n dMO_drop_13 rfl rfl ?_
    refine tv_callV1r kMO_95 (by decide) (Nat.le_of_ble_eq_true rfl) ⟨rfl, rfl⟩ rfl hc ⟨Nat.zero_le _, Nat.zero_le _⟩ dMO_drop_14 ?_
    refine tv_top (b := .inl (nI i)) rfl ?_
    refine tv_goto (tgt := 21) dMO_drop_17 (by decide) ?_
    refine tv_istN_2 dMO_drop_21 (by decide) ?_
    refine tv_iload_n dMO_drop_22 rfl rfl ?_
    refine tv_iconst (v := -1) dMO_drop_23 (by decide) ?_
    refine tv_icmp_ne (tgt := 29) dMO_drop_24 (by decide) (fun c24 => ?_) (fun c24 => absurd ((tc_oI_m1 (o := some i) (fun a q => by cases q; omega)).mp c24) (by simp))
    refine tv_iload_n dMO_drop_29 rfl rfl ?_
    refine tv_istN_3 dMO_drop_30 (by decide) ?_
    exact ml_drop_31 (ρ.2.2.2 3 - 1 - i) i ρ (by omega) iA (by rw [hr, e]; rfl) (by rw [hh, e])
set_option maxHeartbeats 4000000 in
set_option maxRecDepth 100000 in
theorem mm_drop (τ : tcS) (hI : tm_I τ) {k : Nat} (hk : k < 8) : tc_M yMO_drop cMO_drop 4 (some .boolean) 1 [.inr (some 0), .inl (nI k)] (tm_h τ, some (.inl (tc_b2 (tm_rem (tc_s4 τ 5 0) k).1)), tm_h (tm_rem (tc_s4 τ 5 0) k).2, 0, 0) := by
  refine tc_met (by decide) (Nat.le_of_ble_eq_true rfl) (Nat.le_of_eq tm_len) rfl ?_
  refine tv_aload_n dMO_drop_0 rfl rfl ?_
  refine tv_iconst (v := 0) dMO_drop_1 (by decide) ?_
  refine tv_top (b := .inl (nI 0)) rfl ?_
  refine pMO_68 rfl dMO_drop_2 ?_
  exact mp_drop (tc_s4 τ 5 0) hI hk rfl rfl
set_option maxHeartbeats 4000000 in
set_option maxRecDepth 100000 in
theorem mp_drop_no (ρ : tcS) {x : Int32} (hx : tc_isN x 8 = false) {K : tcK} (hr : K.2.1 = some (.inl 0)) (hh : K.2.2.1 = tm_h ρ) : tc_V (cMO_drop, 4, yMO_drop.cls, some .boolean, 1, yMO_drop.name) K 0 0 (tm_h ρ) 5 [some (.inr (some 0)), some (.inl x), none, none] [] := by
  refine tv_iload_n dMO_drop_5 rfl rfl ?_
  refine tv_callS1r kMO_78 (by decide) (Nat.le_of_ble_eq_true rfl) ⟨rfl, rfl⟩ (mm_isKind _ _) ⟨Nat.zero_le _, Nat.zero_le _⟩ dMO_drop_6 ?_
  refine tv_if_eq (tgt := 20) dMO_drop_9 (by decide) (fun c9 => ?_) (fun c9 => absurd (tc_b2_0.mpr hx) c9)
  refine tv_iconst (v := -1) dMO_drop_20 (by decide) ?_
  refine tv_istN_2 dMO_drop_21 (by decide) ?_
  refine tv_iload_n dMO_drop_22 rfl rfl ?_
  refine tv_iconst (v := -1) dMO_drop_23 (by decide) ?_
  refine tv_icmp_ne (tgt := 29) dMO_drop_24 (by decide) (fun c24 => absurd rfl c24) (fun c24 => ?_)
  refine tv_iconst (v := 0) dMO_drop_27 (by decide) ?_
  exact tv_iret dMO_drop_28 rfl rfl hr hh
set_option maxHeartbeats 4000000 in
set_option maxRecDepth 100000 in
theorem mm_drop_no (τ : tcS) {x : Int32} (hx : tc_isN x 8 = false) : tc_M yMO_drop cMO_drop 4 (some .boolean) 1 [.inr (some 0), .inl x] (tm_h τ, some (.inl 0), tm_h (tc_s4 τ 5 0), 0, 0) := by
  refine tc_met (by decide) (Nat.le_of_ble_eq_true rfl) (Nat.le_of_eq tm_len) rfl ?_
  refine tv_aload_n dMO_drop_0 rfl rfl ?_
  refine tv_iconst (v := 0) dMO_drop_1 (by decide) ?_
  refine tv_top (b := .inl (nI 0)) rfl ?_
  refine pMO_68 rfl dMO_drop_2 ?_
  exact mp_drop_no (tc_s4 τ 5 0) hx rfl rfl
set_option maxHeartbeats 4000000 in
set_option maxRecDepth 100000 in
theorem mp_force (ρ : tcS) {k : Nat} (hk : k < 8) {K : tcK} (hr : K.2.1 = some (.inl 1)) (hh : K.2.2.1 = tm_h (tc_s3 ρ 0 (va_up (ρ.2.2.1 0) k none))) : tc_V (cMO_force, 3, yMO_force.cls, some .boolean, 1, yMO_force.name) K 0 0 (tm_h ρ) 5 [some (.inr (some 0)), some (.inl (-1)), some (.inl (nI k))] [] := by
  refine tv_iload_n dMO_force_5 rfl rfl ?_
  refine tv_iconst (v := -1) dMO_force_6 (by decide) ?_
  refine tv_icmp_ne (tgt := 20) dMO_force_7 (by decide) (fun c7 => absurd rfl c7) (fun c7 => ?_)
  refine tv_iload_n dMO_force_10 rfl rfl ?_
  refine tv_callS1r kMO_78 (by decide) (Nat.le_of_ble_eq_true rfl) ⟨rfl, rfl⟩ (mm_isKind _ _) ⟨Nat.zero_le _, Nat.zero_le _⟩ dMO_force_11 ?_
  refine tv_if_ne (tgt := 30) dMO_force_14 (by decide) (fun c14 => ?_) (fun c14 => absurd (tc_b2_0.mp c14) (by rw [tc_isN_nI hk (by omega)]; simp))
  refine tv_aload_n dMO_force_30 rfl rfl ?_
  refine gMO_40 rfl dMO_force_31 ?_
  refine tv_iload_n dMO_force_34 rfl rfl ?_
  refine tv_iconst (v := -1) dMO_force_35 (by decide) ?_
  refine tv_icmp_ne (tgt := 43) dMO_force_36 (by decide) (fun c36 => absurd rfl c36) (fun c36 => ?_)
  refine tv_iload_n dMO_force_39 rfl rfl ?_
  refine tv_goto (tgt := 49) dMO_force_40 (by decide) ?_
  refine tv_iload_n dMO_force_49 rfl rfl ?_
  refine stM_11 none dMO_force_50 hk ?_
  refine tv_iconst (v := 1) dMO_force_51 (by decide) ?_
  exact tv_iret dMO_force_52 rfl rfl hr hh
set_option maxHeartbeats 4000000 in
set_option maxRecDepth 100000 in
theorem mm_force (τ : tcS) {k : Nat} (hk : k < 8) : tc_M yMO_force cMO_force 3 (some .boolean) 1 [.inr (some 0), .inl (-1), .inl (nI k)] (tm_h τ, some (.inl 1), tm_h (tc_s3 (tc_s4 τ 5 0) 0 (va_up ((tc_s4 τ 5 0).2.2.1 0) k none)), 0, 0) := by
  refine tc_met (by decide) (Nat.le_of_ble_eq_true rfl) (Nat.le_of_eq tm_len) rfl ?_
  refine tv_aload_n dMO_force_0 rfl rfl ?_
  refine tv_iconst (v := 0) dMO_force_1 (by decide) ?_
  refine tv_top (b := .inl (nI 0)) rfl ?_
  refine pMO_68 rfl dMO_force_2 ?_
  exact mp_force (tc_s4 τ 5 0) hk rfl rfl
set_option maxHeartbeats 4000000 in
set_option maxRecDepth 100000 in
theorem mp_force_t (ρ : tcS) (hI : tm_I ρ) {t : Nat} (ht : t < ρ.2.2.2 1) (y : Int32) {K : tcK} (hr : K.2.1 = some (.inl 1)) (hh : K.2.2.1 = tm_h (tc_s3 ρ 0 (va_up (ρ.2.2.1 0) (ρ.2.1 0 t) (some t)))) : tc_V (cMO_force, 3, yMO_force.cls, some .boolean, 1, yMO_force.name) K 0 0 (tm_h ρ) 5 [some (.inr (some 0)), some (.inl (nI t)), some (.inl y)] [] := by
  obtain ⟨iP, iT, iN, iA, iR, iK, iO, iQ, iF, iB, iW⟩ := id hI
  refine tv_iload_n dMO_force_5 rfl rfl ?_
  refine tv_iconst (v := -1) dMO_force_6 (by decide) ?_
  refine tv_icmp_ne (tgt := 20) dMO_force_7 (by decide) (fun c7 => ?_) (fun c7 => absurd ((tc_oI_m1 (o := some t) (fun a q => by cases q; omega)).mp c7) (by simp))
  refine tv_aload_n dMO_force_20 rfl rfl ?_
  refine tv_iload_n dMO_force_21 rfl rfl ?_
  refine tv_callV1r kMO_82 (by decide) (Nat.le_of_ble_eq_true rfl) ⟨rfl, rfl⟩ rfl (mm_isTool ρ _) ⟨Nat.zero_le _, Nat.zero_le _⟩ dMO_force_22 ?_
  refine tv_if_ne (tgt := 30) dMO_force_25 (by decide) (fun c25 => ?_) (fun c25 => absurd (tc_b2_0.mp c25) (by rw [tc_isN_nI ht (by omega)]; simp))
  refine tv_aload_n dMO_force_30 rfl rfl ?_
  refine gMO_40 rfl dMO_force_31 ?_
  refine tv_iload_n dMO_force_34 rfl rfl ?_
  refine tv_iconst (v := -1) dMO_force_35 (by decide) ?_
  refine tv_icmp_ne (tgt := 43) dMO_force_36 (by decide) (fun c36 => ?_) (fun c36 => absurd ((tc_oI_m1 (o := some t) (fun a q => by cases q; omega)).mp c36) (by simp))
  refine tv_aload_n dMO_force_43 rfl rfl ?_
  refine gMO_13 rfl dMO_force_44 ?_
  refine tv_iload_n dMO_force_47 rfl rfl ?_
  refine ldM_2 dMO_force_48 (by omega) ?_
  refine tv_iload_n dMO_force_49 rfl rfl ?_
  refine stM_11 (some t) dMO_force_50 (iK t ht) ?_
  refine tv_iconst (v := 1) dMO_force_51 (by decide) ?_
  exact tv_iret dMO_force_52 rfl rfl hr hh
set_option maxHeartbeats 4000000 in
set_option maxRecDepth 100000 in
theorem mm_force_t (τ : tcS) (hI : tm_I τ) {t : Nat} (ht : t < (tc_s4 τ 5 0).2.2.2 1) (y : Int32) : tc_M yMO_force cMO_force 3 (some .boolean) 1 [.inr (some 0), .inl (nI t), .inl y] (tm_h τ, some (.inl 1), tm_h (tc_s3 (tc_s4 τ 5 0) 0 (va_up ((tc_s4 τ 5 0).2.2.1 0) ((tc_s4 τ 5 0).2.1 0 t) (some t))), 0, 0) := by
  refine tc_met (by decide) (Nat.le_of_ble_eq_true rfl) (Nat.le_of_eq tm_len) rfl ?_
  refine tv_aload_n dMO_force_0 rfl rfl ?_
  refine tv_iconst (v := 0) dMO_force_1 (by decide) ?_
  refine tv_top (b := .inl (nI 0)) rfl ?_
  refine pMO_68 rfl dMO_force_2 ?_
  exact mp_force_t (tc_s4 τ 5 0) hI ht y rfl rfl
set_option maxHeartbeats 4000000 in
set_option maxRecDepth 100000 in
theorem mp_force_no (ρ : tcS) {x y : Int32} (hx : tc_isN x (ρ.2.2.2 1) = false) (hy : x = -1 → tc_isN y 8 = false) {K : tcK} (hr : K.2.1 = some (.inl 0)) (hh : K.2.2.1 = tm_h ρ) : tc_V (cMO_force, 3, yMO_force.cls, some .boolean, 1, yMO_force.name) K 0 0 (tm_h ρ) 5 [some (.inr (some 0)), some (.inl x), some (.inl y)] [] := by
  refine tv_iload_n dMO_force_5 rfl rfl ?_
  refine tv_iconst (v := -1) dMO_force_6 (by decide) ?_
  refine tv_icmp_ne (tgt := 20) dMO_force_7 (by decide) (fun c7 => ?_) (fun c7 => ?_)
  · refine tv_aload_n dMO_force_20 rfl rfl ?_
    refine tv_iload_n dMO_force_21 rfl rfl ?_
    refine tv_callV1r kMO_82 (by decide) (Nat.le_of_ble_eq_true rfl) ⟨rfl, rfl⟩ rfl (mm_isTool ρ _) ⟨Nat.zero_le _, Nat.zero_le _⟩ dMO_force_22 ?_
    refine tv_if_ne (tgt := 30) dMO_force_25 (by decide) (fun c25 => absurd (tc_b2_n.mp c25) (by rw [hx]; simp)) (fun c25 => ?_)
    refine tv_iconst (v := 0) dMO_force_28 (by decide) ?_
    exact tv_iret dMO_force_29 rfl rfl hr hh
  · refine tv_iload_n dMO_force_10 rfl rfl ?_
    refine tv_callS1r kMO_78 (by decide) (Nat.le_of_ble_eq_true rfl) ⟨rfl, rfl⟩ (mm_isKind _ _) ⟨Nat.zero_le _, Nat.zero_le _⟩ dMO_force_11 ?_
    refine tv_if_ne (tgt := 30) dMO_force_14 (by decide) (fun c14 => absurd (tc_b2_n.mp c14) (by rw [hy c7]; simp)) (fun c14 => ?_)
    refine tv_goto (tgt := 28) dMO_force_17 (by decide) ?_
    refine tv_iconst (v := 0) dMO_force_28 (by decide) ?_
    exact tv_iret dMO_force_29 rfl rfl hr hh
set_option maxHeartbeats 4000000 in
set_option maxRecDepth 100000 in
theorem mm_force_no (τ : tcS) {x y : Int32} (hx : tc_isN x ((tc_s4 τ 5 0).2.2.2 1) = false) (hy : x = -1 → tc_isN y 8 = false) : tc_M yMO_force cMO_force 3 (some .boolean) 1 [.inr (some 0), .inl x, .inl y] (tm_h τ, some (.inl 0), tm_h (tc_s4 τ 5 0), 0, 0) := by
  refine tc_met (by decide) (Nat.le_of_ble_eq_true rfl) (Nat.le_of_eq tm_len) rfl ?_
  refine tv_aload_n dMO_force_0 rfl rfl ?_
  refine tv_iconst (v := 0) dMO_force_1 (by decide) ?_
  refine tv_top (b := .inl (nI 0)) rfl ?_
  refine pMO_68 rfl dMO_force_2 ?_
  exact mp_force_no (tc_s4 τ 5 0) hx hy rfl rfl
set_option maxHeartbeats 4000000 in
set_option maxRecDepth 100000 in
theorem mp_built (ρ : tcS) (hI : tm_I ρ) {t p : Nat} (ht : t < ρ.2.2.2 1) (hp : p < ρ.2.2.2 0) {K : tcK} (hr : K.2.1 = some (.inl (tc_b2 (tm_bl (tm_build ρ) t p)))) (hh : K.2.2.1 = tm_h (tm_build ρ)) : tc_V (cMO_built, 3, yMO_built.cls, some .boolean, 5, yMO_built.name) K 0 0 (tm_h ρ) 5 [some (.inr (some 0)), some (.inl (nI t)), some (.inl (nI p))] [] := by
  obtain ⟨iP, iT, iN, iA, iR, iK, iO, iQ, iF, iB, iW⟩ := id hI
  refine tv_aload_n dMO_built_5 rfl rfl ?_
  refine tv_iload_n dMO_built_6 rfl rfl ?_
  refine tv_callV1r kMO_82 (by decide) (Nat.le_of_ble_eq_true rfl) ⟨rfl, rfl⟩ rfl (mm_isTool ρ _) ⟨Nat.zero_le _, Nat.zero_le _⟩ dMO_built_7 ?_
  refine tv_if_eq (tgt := 21) dMO_built_10 (by decide) (fun c10 => absurd (tc_b2_0.mp c10) (by rw [tc_isN_nI ht (by omega)]; simp)) (fun c10 => ?_)
  refine tv_aload_n dMO_built_13 rfl rfl ?_
  refine tv_iload_n dMO_built_14 rfl rfl ?_
  refine tv_callV1r kMO_118 (by decide) (Nat.le_of_ble_eq_true rfl) ⟨rfl, rfl⟩ rfl (mm_isPlatform ρ _) ⟨Nat.zero_le _, Nat.zero_le _⟩ dMO_built_15 ?_
  refine tv_if_ne (tgt := 23) dMO_built_18 (by decide) (fun c18 => ?_) (fun c18 => absurd (tc_b2_0.mp c18) (by rw [tc_isN_nI hp (by omega)]; simp))
  refine tv_aload_n dMO_built_23 rfl rfl ?_
  refine tv_callV0v kMO_121 (by decide) (Nat.le_of_ble_eq_true rfl) ⟨rfl, rfl⟩ rfl (mm_build ρ hI) ⟨Nat.zero_le _, Nat.zero_le _⟩ dMO_built_24 ?_
  refine tv_aload_n dMO_built_27 rfl rfl ?_
  refine gMO_50 rfl dMO_built_28 ?_
  refine tv_iload_n dMO_built_31 rfl rfl ?_
  refine tv_iload_n dMO_built_32 rfl rfl ?_
  refine tv_callS2r kMO_106 (by decide) (Nat.le_of_ble_eq_true rfl) ⟨rfl, rfl⟩ (mm_at _ t p) ⟨Nat.zero_le _, Nat.zero_le _⟩ dMO_built_33 ?_
  refine ldM_14 dMO_built_36 (by omega) ?_
  refine tv_top (b := .inl (tc_b2 (tm_bl (tm_build ρ) t p))) rfl ?_
  exact tv_iret dMO_built_37 rfl (by cases tm_bl (tm_build ρ) t p <;> rfl) hr hh
set_option maxHeartbeats 4000000 in
set_option maxRecDepth 100000 in
theorem mm_built (τ : tcS) (hI : tm_I τ) {t p : Nat} (ht : t < (tc_s4 τ 5 0).2.2.2 1) (hp : p < (tc_s4 τ 5 0).2.2.2 0) : tc_M yMO_built cMO_built 3 (some .boolean) 5 [.inr (some 0), .inl (nI t), .inl (nI p)] (tm_h τ, some (.inl (tc_b2 (tm_bl (tm_build (tc_s4 τ 5 0)) t p))), tm_h (tm_build (tc_s4 τ 5 0)), 0, 0) := by
  refine tc_met (by decide) (Nat.le_of_ble_eq_true rfl) (Nat.le_of_eq tm_len) rfl ?_
  refine tv_aload_n dMO_built_0 rfl rfl ?_
  refine tv_iconst (v := 0) dMO_built_1 (by decide) ?_
  refine tv_top (b := .inl (nI 0)) rfl ?_
  refine pMO_68 rfl dMO_built_2 ?_
  exact mp_built (tc_s4 τ 5 0) hI ht hp rfl rfl
set_option maxHeartbeats 4000000 in
set_option maxRecDepth 100000 in
theorem mp_built_no (ρ : tcS) {x y : Int32} (hx : tc_isN x (ρ.2.2.2 1) = false ∨ tc_isN y (ρ.2.2.2 0) = false) {K : tcK} (hr : K.2.1 = some (.inl 0)) (hh : K.2.2.1 = tm_h ρ) : tc_V (cMO_built, 3, yMO_built.cls, some .boolean, 5, yMO_built.name) K 0 0 (tm_h ρ) 5 [some (.inr (some 0)), some (.inl x), some (.inl y)] [] := by
  refine tv_aload_n dMO_built_5 rfl rfl ?_
  refine tv_iload_n dMO_built_6 rfl rfl ?_
  refine tv_callV1r kMO_82 (by decide) (Nat.le_of_ble_eq_true rfl) ⟨rfl, rfl⟩ rfl (mm_isTool ρ _) ⟨Nat.zero_le _, Nat.zero_le _⟩ dMO_built_7 ?_
  refine tv_if_eq (tgt := 21) dMO_built_10 (by decide) (fun c10 => ?_) (fun c10 => ?_)
  · refine tv_iconst (v := 0) dMO_built_21 (by decide) ?_
    exact tv_iret dMO_built_22 rfl rfl hr hh
  · have hy : tc_isN y (ρ.2.2.2 0) = false := by
      rcases hx with q | q
      · exact absurd (tc_b2_0.mpr q) c10
      · exact q
    refine tv_aload_n dMO_built_13 rfl rfl ?_
    refine tv_iload_n dMO_built_14 rfl rfl ?_
    refine tv_callV1r kMO_118 (by decide) (Nat.le_of_ble_eq_true rfl) ⟨rfl, rfl⟩ rfl (mm_isPlatform ρ _) ⟨Nat.zero_le _, Nat.zero_le _⟩ dMO_built_15 ?_
    refine tv_if_ne (tgt := 23) dMO_built_18 (by decide) (fun c18 => absurd (tc_b2_n.mp c18) (by rw [hy]; simp)) (fun c18 => ?_)
    refine tv_iconst (v := 0) dMO_built_21 (by decide) ?_
    exact tv_iret dMO_built_22 rfl rfl hr hh
set_option maxHeartbeats 4000000 in
set_option maxRecDepth 100000 in
theorem mm_built_no (τ : tcS) {x y : Int32} (hx : tc_isN x ((tc_s4 τ 5 0).2.2.2 1) = false ∨ tc_isN y ((tc_s4 τ 5 0).2.2.2 0) = false) : tc_M yMO_built cMO_built 3 (some .boolean) 5 [.inr (some 0), .inl x, .inl y] (tm_h τ, some (.inl 0), tm_h (tc_s4 τ 5 0), 0, 0) := by
  refine tc_met (by decide) (Nat.le_of_ble_eq_true rfl) (Nat.le_of_eq tm_len) rfl ?_
  refine tv_aload_n dMO_built_0 rfl rfl ?_
  refine tv_iconst (v := 0) dMO_built_1 (by decide) ?_
  refine tv_top (b := .inl (nI 0)) rfl ?_
  refine pMO_68 rfl dMO_built_2 ?_
  exact mp_built_no (tc_s4 τ 5 0) hx rfl rfl
set_option maxHeartbeats 4000000 in
set_option maxRecDepth 100000 in
theorem mp_chosen (ρ : tcS) {k : Nat} (hk : k < 8) {K : tcK} (hr : K.2.1 = some (.inl (tc_oI (ρ.2.2.1 1 k)))) (hh : K.2.2.1 = tm_h ρ) : tc_V (cMO_chosen, 2, yMO_chosen.cls, some .int, 1, yMO_chosen.name) K 0 0 (tm_h ρ) 5 [some (.inr (some 0)), some (.inl (nI k))] [] := by
  refine tv_iload_n dMO_chosen_5 rfl rfl ?_
  refine tv_callS1r kMO_78 (by decide) (Nat.le_of_ble_eq_true rfl) ⟨rfl, rfl⟩ (mm_isKind _ _) ⟨Nat.zero_le _, Nat.zero_le _⟩ dMO_chosen_6 ?_
  refine tv_if_eq (tgt := 21) dMO_chosen_9 (by decide) (fun c9 => absurd (tc_b2_0.mp c9) (by rw [tc_isN_nI hk (by omega)]; simp)) (fun c9 => ?_)
  refine tv_aload_n dMO_chosen_12 rfl rfl ?_
  refine gMO_43 rfl dMO_chosen_13 ?_
  refine tv_iload_n dMO_chosen_16 rfl rfl ?_
  refine ldM_12 dMO_chosen_17 hk ?_
  refine tv_goto (tgt := 22) dMO_chosen_18 (by decide) ?_
  exact tv_iret dMO_chosen_22 rfl rfl hr hh
set_option maxHeartbeats 4000000 in
set_option maxRecDepth 100000 in
theorem mm_chosen (τ : tcS) {k : Nat} (hk : k < 8) : tc_M yMO_chosen cMO_chosen 2 (some .int) 1 [.inr (some 0), .inl (nI k)] (tm_h τ, some (.inl (tc_oI ((tc_s4 τ 5 0).2.2.1 1 k))), tm_h (tc_s4 τ 5 0), 0, 0) := by
  refine tc_met (by decide) (Nat.le_of_ble_eq_true rfl) (Nat.le_of_eq tm_len) rfl ?_
  refine tv_aload_n dMO_chosen_0 rfl rfl ?_
  refine tv_iconst (v := 0) dMO_chosen_1 (by decide) ?_
  refine tv_top (b := .inl (nI 0)) rfl ?_
  refine pMO_68 rfl dMO_chosen_2 ?_
  exact mp_chosen (tc_s4 τ 5 0) hk rfl rfl
set_option maxHeartbeats 4000000 in
set_option maxRecDepth 100000 in
theorem mp_chosen_no (ρ : tcS) {x : Int32} (hx : tc_isN x 8 = false) {K : tcK} (hr : K.2.1 = some (.inl (-1))) (hh : K.2.2.1 = tm_h ρ) : tc_V (cMO_chosen, 2, yMO_chosen.cls, some .int, 1, yMO_chosen.name) K 0 0 (tm_h ρ) 5 [some (.inr (some 0)), some (.inl x)] [] := by
  refine tv_iload_n dMO_chosen_5 rfl rfl ?_
  refine tv_callS1r kMO_78 (by decide) (Nat.le_of_ble_eq_true rfl) ⟨rfl, rfl⟩ (mm_isKind _ _) ⟨Nat.zero_le _, Nat.zero_le _⟩ dMO_chosen_6 ?_
  refine tv_if_eq (tgt := 21) dMO_chosen_9 (by decide) (fun c9 => ?_) (fun c9 => absurd (tc_b2_0.mpr hx) c9)
  refine tv_iconst (v := -1) dMO_chosen_21 (by decide) ?_
  exact tv_iret dMO_chosen_22 rfl rfl hr hh
set_option maxHeartbeats 4000000 in
set_option maxRecDepth 100000 in
theorem mm_chosen_no (τ : tcS) {x : Int32} (hx : tc_isN x 8 = false) : tc_M yMO_chosen cMO_chosen 2 (some .int) 1 [.inr (some 0), .inl x] (tm_h τ, some (.inl (-1)), tm_h (tc_s4 τ 5 0), 0, 0) := by
  refine tc_met (by decide) (Nat.le_of_ble_eq_true rfl) (Nat.le_of_eq tm_len) rfl ?_
  refine tv_aload_n dMO_chosen_0 rfl rfl ?_
  refine tv_iconst (v := 0) dMO_chosen_1 (by decide) ?_
  refine tv_top (b := .inl (nI 0)) rfl ?_
  refine pMO_68 rfl dMO_chosen_2 ?_
  exact mp_chosen_no (tc_s4 τ 5 0) hx rfl rfl
set_option maxHeartbeats 4000000 in
set_option maxRecDepth 100000 in
theorem mp_rows (ρ : tcS)  {K : tcK} (hr : K.2.1 = some (.inl (nI (ρ.2.2.2 4)))) (hh : K.2.2.1 = tm_h ρ) : tc_V (cMO_rows, 1, yMO_rows.cls, some .int, 0, yMO_rows.name) K 0 0 (tm_h ρ) 5 [some (.inr (some 0))] [] := by
  refine tv_aload_n dMO_rows_5 rfl rfl ?_
  refine gMO_124 rfl dMO_rows_6 ?_
  exact tv_iret dMO_rows_9 rfl rfl hr hh
set_option maxHeartbeats 4000000 in
set_option maxRecDepth 100000 in
theorem mm_rows (τ : tcS)  : tc_M yMO_rows cMO_rows 1 (some .int) 0 [.inr (some 0)] (tm_h τ, some (.inl (nI ((tc_s4 τ 5 0).2.2.2 4))), tm_h (tc_s4 τ 5 0), 0, 0) := by
  refine tc_met (by decide) (Nat.le_of_ble_eq_true rfl) (Nat.le_of_eq tm_len) rfl ?_
  refine tv_aload_n dMO_rows_0 rfl rfl ?_
  refine tv_iconst (v := 0) dMO_rows_1 (by decide) ?_
  refine tv_top (b := .inl (nI 0)) rfl ?_
  refine pMO_68 rfl dMO_rows_2 ?_
  exact mp_rows (tc_s4 τ 5 0)  rfl rfl
def tm_row (τ : tcS) (i w : Int32) : Int32 := if tc_isN i (τ.2.2.2 4) = true then
  (if w = 0 then nI (τ.2.1 5 i.toNatClampNeg) else if w = 1 then nI (τ.2.1 6 i.toNatClampNeg) else if w = 2 then nI (τ.2.1 7 i.toNatClampNeg) else if w = 3 then tc_oI (τ.2.2.1 2 i.toNatClampNeg) else -1) else -1
set_option maxHeartbeats 4000000 in
set_option maxRecDepth 100000 in
theorem mp_row (ρ : tcS) (hI : tm_I ρ) (i w : Int32) {K : tcK} (hr : K.2.1 = some (.inl (tm_row ρ i w))) (hh : K.2.2.1 = tm_h ρ) : tc_V (cMO_row, 3, yMO_row.cls, some .int, 0, yMO_row.name) K 0 0 (tm_h ρ) 5 [some (.inr (some 0)), some (.inl i), some (.inl w)] [] := by
  obtain ⟨iP, iT, iN, iA, iR, iK, iO, iQ, iF, iB, iW⟩ := id hI
  refine tv_iload_n dMO_row_5 rfl rfl ?_
  refine tv_if_lt (tgt := 17) dMO_row_6 (by decide) (fun c6 => ?_) (fun c6 => ?_)
  · have hr2 : tm_row ρ i w = -1 := by unfold tm_row; rw [if_neg (by rw [tc_isN_neg c6]; simp)]
    refine tv_iconst (v := -1) dMO_row_17 (by decide) ?_
    exact tv_iret dMO_row_18 rfl rfl (by rw [hr, hr2]) hh
  · refine tv_iload_n dMO_row_9 rfl rfl ?_
    refine tv_aload_n dMO_row_10 rfl rfl ?_
    refine gMO_124 rfl dMO_row_11 ?_
    refine tv_icmp_lt (tgt := 19) dMO_row_14 (by decide) (fun c14 => ?_) (fun c14 => ?_)
    · obtain ⟨a, ha, ea⟩ := tc_isN_ex (n := ρ.2.2.2 4) (by omega) (tc_isN_in c6 (fun q => by rw [Int32.le_iff_toInt_le] at q; rw [Int32.lt_iff_toInt_lt] at c14; omega))
      subst ea
      refine tv_iload_n dMO_row_19 rfl rfl ?_
      refine tv_if_ne (tgt := 32) dMO_row_20 (by decide) (fun c20 => ?_) (fun c20 => ?_)
      · refine tv_iload_n dMO_row_32 rfl rfl ?_
        refine tv_iconst (v := 1) dMO_row_33 (by decide) ?_
        refine tv_icmp_ne (tgt := 46) dMO_row_34 (by decide) (fun c34 => ?_) (fun c34 => ?_)
        · refine tv_iload_n dMO_row_46 rfl rfl ?_
          refine tv_iconst (v := 2) dMO_row_47 (by decide) ?_
          refine tv_icmp_ne (tgt := 60) dMO_row_48 (by decide) (fun c48 => ?_) (fun c48 => ?_)
          · refine tv_iload_n dMO_row_60 rfl rfl ?_
            refine tv_iconst (v := 3) dMO_row_61 (by decide) ?_
            refine tv_icmp_ne (tgt := 74) dMO_row_62 (by decide) (fun c62 => ?_) (fun c62 => ?_)
            · have hr2 : tm_row ρ (nI a) w = -1 := by unfold tm_row; rw [if_pos (tc_isN_nI ha (by omega)), if_neg c20, if_neg c34, if_neg c48, if_neg c62]
              refine tv_iconst (v := -1) dMO_row_74 (by decide) ?_
              exact tv_iret dMO_row_75 rfl rfl (by rw [hr, hr2]) hh
            · have hr2 : tm_row ρ (nI a) w = tc_oI (ρ.2.2.1 2 a) := by unfold tm_row; rw [if_pos (tc_isN_nI ha (by omega)), if_neg c20, if_neg c34, if_neg c48, if_pos c62, nI_clamp (by omega)]
              refine tv_aload_n dMO_row_65 rfl rfl ?_
              refine gMO_65 rfl dMO_row_66 ?_
              refine tv_iload_n dMO_row_69 rfl rfl ?_
              refine ldM_19 dMO_row_70 (by omega) ?_
              refine tv_goto (tgt := 75) dMO_row_71 (by decide) ?_
              exact tv_iret dMO_row_75 rfl rfl (by rw [hr, hr2]) hh
          · have hr2 : tm_row ρ (nI a) w = nI (ρ.2.1 7 a) := by unfold tm_row; rw [if_pos (tc_isN_nI ha (by omega)), if_neg c20, if_neg c34, if_pos c48, nI_clamp (by omega)]
            refine tv_aload_n dMO_row_51 rfl rfl ?_
            refine gMO_62 rfl dMO_row_52 ?_
            refine tv_iload_n dMO_row_55 rfl rfl ?_
            refine ldM_18 dMO_row_56 (by omega) ?_
            refine tv_goto (tgt := 75) dMO_row_57 (by decide) ?_
            exact tv_iret dMO_row_75 rfl rfl (by rw [hr, hr2]) hh
        · have hr2 : tm_row ρ (nI a) w = nI (ρ.2.1 6 a) := by unfold tm_row; rw [if_pos (tc_isN_nI ha (by omega)), if_neg c20, if_pos c34, nI_clamp (by omega)]
          refine tv_aload_n dMO_row_37 rfl rfl ?_
          refine gMO_59 rfl dMO_row_38 ?_
          refine tv_iload_n dMO_row_41 rfl rfl ?_
          refine ldM_17 dMO_row_42 (by omega) ?_
          refine tv_goto (tgt := 75) dMO_row_43 (by decide) ?_
          exact tv_iret dMO_row_75 rfl rfl (by rw [hr, hr2]) hh
      · have hr2 : tm_row ρ (nI a) w = nI (ρ.2.1 5 a) := by unfold tm_row; rw [if_pos (tc_isN_nI ha (by omega)), if_pos c20, nI_clamp (by omega)]
        refine tv_aload_n dMO_row_23 rfl rfl ?_
        refine gMO_56 rfl dMO_row_24 ?_
        refine tv_iload_n dMO_row_27 rfl rfl ?_
        refine ldM_16 dMO_row_28 (by omega) ?_
        refine tv_goto (tgt := 75) dMO_row_29 (by decide) ?_
        exact tv_iret dMO_row_75 rfl rfl (by rw [hr, hr2]) hh
    · have hr2 : tm_row ρ i w = -1 := by unfold tm_row; rw [if_neg (fun q => c14 (of_decide_eq_true q).2)]
      refine tv_iconst (v := -1) dMO_row_17 (by decide) ?_
      exact tv_iret dMO_row_18 rfl rfl (by rw [hr, hr2]) hh
set_option maxHeartbeats 4000000 in
set_option maxRecDepth 100000 in
theorem mm_row (τ : tcS) (hI : tm_I τ) (i w : Int32) : tc_M yMO_row cMO_row 3 (some .int) 0 [.inr (some 0), .inl i, .inl w] (tm_h τ, some (.inl (tm_row (tc_s4 τ 5 0) i w)), tm_h (tc_s4 τ 5 0), 0, 0) := by
  refine tc_met (by decide) (Nat.le_of_ble_eq_true rfl) (Nat.le_of_eq tm_len) rfl ?_
  refine tv_aload_n dMO_row_0 rfl rfl ?_
  refine tv_iconst (v := 0) dMO_row_1 (by decide) ?_
  refine tv_top (b := .inl (nI 0)) rfl ?_
  refine pMO_68 rfl dMO_row_2 ?_
  exact mp_row (tc_s4 τ 5 0) hI i w rfl rfl
set_option maxHeartbeats 4000000 in
set_option maxRecDepth 100000 in
theorem mp_choose (ρ : tcS) (hI : tm_I ρ) {g : Nat} (hg0 : g < ρ.2.2.2 0) (hR : ρ.2.2.2 0 * tm_sm ρ (ρ.2.2.2 3) 0 ≤ 200) {K : tcK} (hr : K.2.1 = some (.inl (tc_oI (tm_choose g ρ).1))) (hh : K.2.2.1 = tm_h (tm_choose g ρ).2) : tc_V (cMO_choose, 3, yMO_choose.cls, some .int, 7, yMO_choose.name) K 0 0 (tm_h ρ) 5 [some (.inr (some 0)), some (.inl (nI g)), none] [] := by
  obtain ⟨iP, iT, iN, iA, iR, iK, iO, iQ, iF, iB, iW⟩ := id hI
  have hI2 : tm_I (tc_s4 ρ 4 0) := ⟨iP, iT, iN, iA, Nat.zero_le _, iK, iO, iQ, iF, iB, iW⟩
  have hb := tm_build_sb hI2
  have hsm : ∀ n i, tm_sm (tm_build (tc_s4 ρ 4 0)) n i = tm_sm ρ n i := by
    intro n
    induction n with
    | zero => intro i; rfl
    | succ n ih => intro i; unfold tm_sm; rw [ih, hb.2.1, hb.2.2.2]; rfl
  refine tv_aload_n dMO_choose_5 rfl rfl ?_
  refine tv_iload_n dMO_choose_6 rfl rfl ?_
  refine tv_callV1r kMO_118 (by decide) (Nat.le_of_ble_eq_true rfl) ⟨rfl, rfl⟩ rfl (mm_isPlatform ρ _) ⟨Nat.zero_le _, Nat.zero_le _⟩ dMO_choose_7 ?_
  refine tv_if_ne (tgt := 15) dMO_choose_10 (by decide) (fun c10 => ?_) (fun c10 => absurd (tc_b2_0.mp c10) (by rw [tc_isN_nI hg0 (by omega)]; simp))
  refine tv_aload_n dMO_choose_15 rfl rfl ?_
  refine tv_iconst (v := 0) dMO_choose_16 (by decide) ?_
  refine tv_top (b := .inl (nI 0)) rfl ?_
  refine pMO_124 rfl dMO_choose_17 ?_
  refine tv_aload_n dMO_choose_20 rfl rfl ?_
  refine tv_callV0v kMO_121 (by decide) (Nat.le_of_ble_eq_true rfl) ⟨rfl, rfl⟩ rfl (mm_build (tc_s4 ρ 4 0) hI2) ⟨Nat.zero_le _, Nat.zero_le _⟩ dMO_choose_21 ?_
  refine tv_iconst (v := 0) dMO_choose_24 (by decide) ?_
  refine tv_istN_2 dMO_choose_25 (by decide) ?_
  exact ml_choose_26 (ρ.2.2.2 0) 0 (tm_build (tc_s4 ρ 4 0)) (hb.I hI2) (by rw [hb.2.2.2]; exact hg0) (by rw [hb.2.2.2]; show 0 + _ = ρ.2.2.2 0; omega) (by rw [hsm, hb.2.2.2]; show 0 + ρ.2.2.2 0 * tm_sm ρ (ρ.2.2.2 3) 0 ≤ 200; omega) hr hh
set_option maxHeartbeats 4000000 in
set_option maxRecDepth 100000 in
theorem mm_choose (τ : tcS) (hI : tm_I τ) {g : Nat} (hg0 : g < (tc_s4 τ 5 0).2.2.2 0) (hR : (tc_s4 τ 5 0).2.2.2 0 * tm_sm (tc_s4 τ 5 0) ((tc_s4 τ 5 0).2.2.2 3) 0 ≤ 200) : tc_M yMO_choose cMO_choose 3 (some .int) 7 [.inr (some 0), .inl (nI g)] (tm_h τ, some (.inl (tc_oI (tm_choose g (tc_s4 τ 5 0)).1)), tm_h (tm_choose g (tc_s4 τ 5 0)).2, 0, 0) := by
  refine tc_met (by decide) (Nat.le_of_ble_eq_true rfl) (Nat.le_of_eq tm_len) rfl ?_
  refine tv_aload_n dMO_choose_0 rfl rfl ?_
  refine tv_iconst (v := 0) dMO_choose_1 (by decide) ?_
  refine tv_top (b := .inl (nI 0)) rfl ?_
  refine pMO_68 rfl dMO_choose_2 ?_
  exact mp_choose (tc_s4 τ 5 0) hI hg0 hR rfl rfl
set_option maxHeartbeats 4000000 in
set_option maxRecDepth 100000 in
theorem mp_choose_no (ρ : tcS) {x : Int32} (hx : tc_isN x (ρ.2.2.2 0) = false) {K : tcK} (hr : K.2.1 = some (.inl (-1))) (hh : K.2.2.1 = tm_h ρ) : tc_V (cMO_choose, 3, yMO_choose.cls, some .int, 7, yMO_choose.name) K 0 0 (tm_h ρ) 5 [some (.inr (some 0)), some (.inl x), none] [] := by
  refine tv_aload_n dMO_choose_5 rfl rfl ?_
  refine tv_iload_n dMO_choose_6 rfl rfl ?_
  refine tv_callV1r kMO_118 (by decide) (Nat.le_of_ble_eq_true rfl) ⟨rfl, rfl⟩ rfl (mm_isPlatform ρ _) ⟨Nat.zero_le _, Nat.zero_le _⟩ dMO_choose_7 ?_
  refine tv_if_ne (tgt := 15) dMO_choose_10 (by decide) (fun c10 => absurd (tc_b2_n.mp c10) (by rw [hx]; simp)) (fun c10 => ?_)
  refine tv_iconst (v := -1) dMO_choose_13 (by decide) ?_
  exact tv_iret dMO_choose_14 rfl rfl hr hh
set_option maxHeartbeats 4000000 in
set_option maxRecDepth 100000 in
theorem mm_choose_no (τ : tcS) {x : Int32} (hx : tc_isN x ((tc_s4 τ 5 0).2.2.2 0) = false) : tc_M yMO_choose cMO_choose 3 (some .int) 7 [.inr (some 0), .inl x] (tm_h τ, some (.inl (-1)), tm_h (tc_s4 τ 5 0), 0, 0) := by
  refine tc_met (by decide) (Nat.le_of_ble_eq_true rfl) (Nat.le_of_eq tm_len) rfl ?_
  refine tv_aload_n dMO_choose_0 rfl rfl ?_
  refine tv_iconst (v := 0) dMO_choose_1 (by decide) ?_
  refine tv_top (b := .inl (nI 0)) rfl ?_
  refine pMO_68 rfl dMO_choose_2 ?_
  exact mp_choose_no (tc_s4 τ 5 0) hx rfl rfl

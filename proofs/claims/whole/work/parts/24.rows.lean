set_option maxHeartbeats 4000000 in
set_option maxRecDepth 100000 in
theorem cc_rl_clear (σ : tcS) : tc_M yRO_clear cRO_clear 1 (none) 0 [.inr (some 14)] (tc_hC σ, none, tc_hC (tc_s4 σ 4 0), 0, 0) := by
  refine tc_met (by decide) (Nat.le_of_ble_eq_true rfl) (Nat.le_of_eq tc_hC_len) rfl ?_
  refine tv_aload_n dRO_clear_0 rfl rfl ?_
  refine tv_iconst (v := 0) dRO_clear_1 (by decide) ?_
  refine tv_top (b := .inl (nI 0)) rfl ?_
  refine pRO_15 rfl dRO_clear_2 ?_
  exact tv_vret dRO_clear_5 rfl rfl rfl
set_option maxHeartbeats 4000000 in
set_option maxRecDepth 100000 in
theorem cc_rl_size (σ : tcS) : tc_M yRO_size cRO_size 1 (some .int) 0 [.inr (some 14)] (tc_hC σ, some (.inl (nI (σ.2.2.2 4))), tc_hC σ, 0, 0) := by
  refine tc_met (by decide) (Nat.le_of_ble_eq_true rfl) (Nat.le_of_eq tc_hC_len) rfl ?_
  refine tv_aload_n dRO_size_0 rfl rfl ?_
  refine gRO_15 rfl dRO_size_1 ?_
  exact tv_iret dRO_size_4 rfl rfl rfl rfl
set_option maxHeartbeats 4000000 in
set_option maxRecDepth 100000 in
theorem cc_rl_add (σ : tcS) (hI : tc_I σ) (h t w : Nat) (k : Option Nat) : tc_M yRO_add cRO_add 6 (none) 0 [.inr (some 14), .inl (nI h), .inl (nI t), .inl (nI w), .inl (tc_oI k)] (tc_hC σ, none, tc_hC (tc_add σ h t w k), 0, 0) := by
  obtain ⟨iP, iT, iN, iA, iR, iK, iO, iQ, iF, iB⟩ := id hI
  refine tc_met (by decide) (Nat.le_of_ble_eq_true rfl) (Nat.le_of_eq tc_hC_len) rfl ?_
  refine tv_aload_n dRO_add_0 rfl rfl ?_
  refine gRO_15 rfl dRO_add_1 ?_
  refine tv_sipush (v := 144) dRO_add_4 (by decide) ?_
  refine tv_icmp_lt (tgt := 11) dRO_add_7 (by decide) (fun c7 => ?_) (fun c7 => ?_)
  · have h7 : σ.2.2.2 4 < 144 := (nI_ltI (by omega) (by omega)).mp c7
    have hh : tc_hC (tc_add σ h t w k) = tc_hC (tc_s4 (tc_w1 (tc_w1 (tc_w1 (tc_w1 σ (σ.2.2.2 4 * 4) (nI h)) (σ.2.2.2 4 * 4 + 1) (nI t)) (σ.2.2.2 4 * 4 + 2) (nI w)) (σ.2.2.2 4 * 4 + 3) (tc_oI k)) 4 (σ.2.2.2 4 + 1)) := by unfold tc_add; rw [if_neg (by omega)]
    refine tv_aload_n dRO_add_11 rfl rfl ?_
    refine gRO_15 rfl dRO_add_12 ?_
    refine tv_iconst (v := 4) dRO_add_15 (by decide) ?_
    refine tv_imul dRO_add_16 ?_
    refine tv_top (b := .inl (nI (σ.2.2.2 4 * 4))) (congrArg Sum.inl (pk_mul _ 4)) ?_
    refine tv_ist_5 dRO_add_17 (by decide) ?_
    refine tv_aload_n dRO_add_19 rfl rfl ?_
    refine gRO_11 rfl dRO_add_20 ?_
    refine tv_iload dRO_add_23 rfl ?_
    refine tv_iload_n dRO_add_25 rfl rfl ?_
    refine stC_15 dRO_add_26 (by omega) ?_
    refine tv_aload_n dRO_add_27 rfl rfl ?_
    refine gRO_11 rfl dRO_add_28 ?_
    refine tv_iload dRO_add_31 rfl ?_
    refine tv_iconst (v := 1) dRO_add_33 (by decide) ?_
    refine tv_iadd dRO_add_34 ?_
    refine tv_top (b := .inl (nI (σ.2.2.2 4 * 4 + 1))) (congrArg Sum.inl (nI_add (σ.2.2.2 4 * 4) 1)) ?_
    refine tv_iload_n dRO_add_35 rfl rfl ?_
    refine stC_15 dRO_add_36 (by omega) ?_
    refine tv_aload_n dRO_add_37 rfl rfl ?_
    refine gRO_11 rfl dRO_add_38 ?_
    refine tv_iload dRO_add_41 rfl ?_
    refine tv_iconst (v := 2) dRO_add_43 (by decide) ?_
    refine tv_iadd dRO_add_44 ?_
    refine tv_top (b := .inl (nI (σ.2.2.2 4 * 4 + 2))) (congrArg Sum.inl (nI_add (σ.2.2.2 4 * 4) 2)) ?_
    refine tv_iload_n dRO_add_45 rfl rfl ?_
    refine stC_15 dRO_add_46 (by omega) ?_
    refine tv_aload_n dRO_add_47 rfl rfl ?_
    refine gRO_11 rfl dRO_add_48 ?_
    refine tv_iload dRO_add_51 rfl ?_
    refine tv_iconst (v := 3) dRO_add_53 (by decide) ?_
    refine tv_iadd dRO_add_54 ?_
    refine tv_top (b := .inl (nI (σ.2.2.2 4 * 4 + 3))) (congrArg Sum.inl (nI_add (σ.2.2.2 4 * 4) 3)) ?_
    refine tv_iload dRO_add_55 rfl ?_
    refine stC_15 dRO_add_57 (by omega) ?_
    refine tv_aload_n dRO_add_58 rfl rfl ?_
    refine tv_dup dRO_add_59 ?_
    refine gRO_15 rfl dRO_add_60 ?_
    refine tv_iconst (v := 1) dRO_add_63 (by decide) ?_
    refine tv_iadd dRO_add_64 ?_
    refine tv_top (b := .inl (nI (σ.2.2.2 4 + 1))) (congrArg Sum.inl (nI_1 _)) ?_
    refine pRO_15 rfl dRO_add_65 ?_
    exact tv_vret dRO_add_68 rfl rfl hh
  · have h7 : 144 ≤ σ.2.2.2 4 := Nat.not_lt.mp (fun q => c7 (nI_lt (b := 144) q (by omega)))
    exact tv_vret dRO_add_10 rfl rfl (by show tc_hC (tc_add σ h t w k) = _; unfold tc_add; rw [if_pos h7])
set_option maxHeartbeats 4000000 in
set_option maxRecDepth 100000 in
theorem cc_rl_cell (σ : tcS) (hI : tc_I σ) (i w : Int32) : tc_M yRO_cell cRO_cell 3 (some .int) 0 [.inr (some 14), .inl i, .inl w] (tc_hC σ, some (.inl (tc_cell σ i w)), tc_hC σ, 0, 0) := by
  obtain ⟨iP, iT, iN, iA, iR, iK, iO, iQ, iF, iB⟩ := id hI
  refine tc_met (by decide) (Nat.le_of_ble_eq_true rfl) (Nat.le_of_eq tc_hC_len) rfl ?_
  refine tv_iload_n dRO_cell_0 rfl rfl ?_
  refine tv_if_lt (tgt := 21) dRO_cell_1 (by decide) (fun c1 => ?_) (fun c1 => ?_)
  · have hr : some (Sum.inl (tc_cell σ i w)) = some (Sum.inl (-1) : tcV) := by unfold tc_cell; rw [if_neg (fun q => by rw [tc_isN_neg c1] at q; simp at q)]
    refine tv_iconst (v := -1) dRO_cell_21 (by decide) ?_
    exact tv_iret dRO_cell_22 rfl rfl hr rfl
  · refine tv_iload_n dRO_cell_4 rfl rfl ?_
    refine tv_aload_n dRO_cell_5 rfl rfl ?_
    refine gRO_15 rfl dRO_cell_6 ?_
    refine tv_icmp_ge (tgt := 21) dRO_cell_9 (by decide) (fun c9 => ?_) (fun c9 => ?_)
    · have hr : some (Sum.inl (tc_cell σ i w)) = some (Sum.inl (-1) : tcV) := by unfold tc_cell; rw [if_neg (fun q => by rw [tc_isN_big c9] at q; simp at q)]
      refine tv_iconst (v := -1) dRO_cell_21 (by decide) ?_
      exact tv_iret dRO_cell_22 rfl rfl hr rfl
    · refine tv_iload_n dRO_cell_12 rfl rfl ?_
      refine tv_if_lt (tgt := 21) dRO_cell_13 (by decide) (fun c13 => ?_) (fun c13 => ?_)
      · have hr : some (Sum.inl (tc_cell σ i w)) = some (Sum.inl (-1) : tcV) := by unfold tc_cell; rw [if_neg (fun q => by rw [tc_isN_neg c13] at q; simp at q)]
        refine tv_iconst (v := -1) dRO_cell_21 (by decide) ?_
        exact tv_iret dRO_cell_22 rfl rfl hr rfl
      · refine tv_iload_n dRO_cell_16 rfl rfl ?_
        refine tv_iconst (v := 4) dRO_cell_17 (by decide) ?_
        refine tv_icmp_lt (tgt := 23) dRO_cell_18 (by decide) (fun c18 => ?_) (fun c18 => ?_)
        · have n1 := tc_isN_in c1 c9
          have n2 : tc_isN w 4 = true := tc_isN_in c13 (fun q => by have q1 := Int32.le_iff_toInt_le.mp q; have q2 := Int32.lt_iff_toInt_lt.mp c18; exact absurd q2 (by have e : (nI 4).toInt = (4 : Int32).toInt := rfl; omega))
          have hr : some (Sum.inl (tc_cell σ i w)) = some (Sum.inl (σ.1 12 (i.toNatClampNeg * 4 + w.toNatClampNeg)) : tcV) := by unfold tc_cell; rw [if_pos ⟨n1, n2⟩]
          obtain ⟨a, ha, ea⟩ := tc_isN_ex (by omega) n1
          obtain ⟨b, hb, eb⟩ := tc_isN_ex (by omega) n2
          subst ea eb
          rw [nI_clamp (by omega), nI_clamp (by omega)] at hr
          refine tv_aload_n dRO_cell_23 rfl rfl ?_
          refine gRO_11 rfl dRO_cell_24 ?_
          refine tv_iload_n dRO_cell_27 rfl rfl ?_
          refine tv_iconst (v := 4) dRO_cell_28 (by decide) ?_
          refine tv_imul dRO_cell_29 ?_
          refine tv_top (b := .inl (nI (a * 4))) (congrArg Sum.inl (pk_mul a 4)) ?_
          refine tv_iload_n dRO_cell_30 rfl rfl ?_
          refine tv_iadd dRO_cell_31 ?_
          refine tv_top (b := .inl (nI (a * 4 + b))) (congrArg Sum.inl (nI_add (a * 4) b)) ?_
          refine ldC_15 dRO_cell_32 (by omega) ?_
          exact tv_iret dRO_cell_33 rfl rfl hr rfl
        · have hr : some (Sum.inl (tc_cell σ i w)) = some (Sum.inl (-1) : tcV) := by unfold tc_cell; rw [if_neg (fun q => by have q2 := (of_decide_eq_true q.2).2; exact c18 q2)]
          refine tv_iconst (v := -1) dRO_cell_21 (by decide) ?_
          exact tv_iret dRO_cell_22 rfl rfl hr rfl

set_option maxHeartbeats 4000000 in
set_option maxRecDepth 100000 in
theorem cl_stepsFrom_4 (σ : tcS) (hI : tc_I σ) {t : Nat} (ht : t < 24) {K : tcK} : ∀ (n : Nat) (x : Nat), x + n = σ.2.2.2 1 → K.2.1 = some (.inl (tc_steps σ t)) → K.2.2.1 = tc_hC σ → tc_V (cTC_stepsFrom, 6, yTC_stepsFrom.cls, some .int, 1, yTC_stepsFrom.name) K 0 0 (tc_hC σ) 4 [some (.inr (some 0)), some (.inl (nI t)), some (.inl (tc_mk (fun n => bt (σ.1 4 t) (σ.2.1 0 n) && (!decide (σ.1 6 n &&& tc_unb σ t = 0) && !decide (tc_unb σ n = 0))) x)), some (.inl (nI x)), none, none] [] := by
  intro n
  induction n with
  | zero =>
    intro x hx hr hh
    obtain ⟨iP, iT, iN, iA, iR, iK, iO, iQ, iF, iB⟩ := id hI
    refine tv_iload_n dTC_stepsFrom_4 rfl rfl ?_
    refine tv_aload_n dTC_stepsFrom_5 rfl rfl ?_
    refine gTC_35 rfl dTC_stepsFrom_6 ?_
    refine tv_icmp_ge (tgt := 81) dTC_stepsFrom_9 (by decide) (fun c9 => ?_) (fun c9 => absurd (nI_le (by omega) (by omega)) c9)
    refine tv_iload_n dTC_stepsFrom_81 rfl rfl ?_
    exact tv_iret dTC_stepsFrom_82 rfl rfl (by rw [hr, tc_steps, show σ.2.2.2 1 = x by omega]) hh
  | succ n ih =>
    intro x hx hr hh
    obtain ⟨iP, iT, iN, iA, iR, iK, iO, iQ, iF, iB⟩ := id hI
    refine tv_iload_n dTC_stepsFrom_4 rfl rfl ?_
    refine tv_aload_n dTC_stepsFrom_5 rfl rfl ?_
    refine gTC_35 rfl dTC_stepsFrom_6 ?_
    refine tv_icmp_ge (tgt := 81) dTC_stepsFrom_9 (by decide) (fun c9 => absurd c9 (nI_ge (by omega) (by omega))) (fun c9 => ?_)
    refine tv_aload_n dTC_stepsFrom_12 rfl rfl ?_
    refine gTC_29 rfl dTC_stepsFrom_13 ?_
    refine tv_iload_n dTC_stepsFrom_16 rfl rfl ?_
    refine ldC_6 dTC_stepsFrom_17 ht ?_
    refine tv_aload_n dTC_stepsFrom_18 rfl rfl ?_
    refine gTC_17 rfl dTC_stepsFrom_19 ?_
    refine tv_iload_n dTC_stepsFrom_22 rfl rfl ?_
    refine ldC_2 dTC_stepsFrom_23 (by omega) ?_
    refine tv_callS2r kTC_93 (by decide) (Nat.le_of_ble_eq_true rfl) ⟨rfl, rfl⟩ (cc_hasBit _ _ (by have := iK x (by omega); omega)) ⟨Nat.zero_le _, Nat.zero_le _⟩ dTC_stepsFrom_24 ?_
    refine tv_ist_4 dTC_stepsFrom_27 (by decide) ?_
    refine tv_aload_n dTC_stepsFrom_29 rfl rfl ?_
    refine gTC_64 rfl dTC_stepsFrom_30 ?_
    refine tv_iload_n dTC_stepsFrom_33 rfl rfl ?_
    refine ldC_17 dTC_stepsFrom_34 (by omega) ?_
    refine tv_aload_n dTC_stepsFrom_35 rfl rfl ?_
    refine tv_iload_n dTC_stepsFrom_36 rfl rfl ?_
    refine tv_callV1r kTC_171 (by decide) (Nat.le_of_ble_eq_true rfl) ⟨rfl, rfl⟩ rfl (cc_unbuiltOn σ ht) ⟨Nat.zero_le _, Nat.zero_le _⟩ dTC_stepsFrom_37 ?_
    refine tv_iand dTC_stepsFrom_40 ?_
    refine tv_if_eq (tgt := 48) dTC_stepsFrom_41 (by decide) (fun c41 => ?_) (fun c41 => ?_)
    · have d41 : (σ.1 6 x &&& tc_unb σ t) = 0 := c41
      refine tv_iconst (v := 0) dTC_stepsFrom_48 (by decide) ?_
      refine tv_ist_5 dTC_stepsFrom_49 (by decide) ?_
      refine tv_iload dTC_stepsFrom_51 rfl ?_
      refine tv_if_eq (tgt := 75) dTC_stepsFrom_53 (by decide) (fun c53 => ?_) (fun c53 => ?_)
      · have e75 := tc_mk_no (f := (fun n => bt (σ.1 4 t) (σ.2.1 0 n) && (!decide (σ.1 6 n &&& tc_unb σ t = 0) && !decide (tc_unb σ n = 0)))) (n := x) (by simp [tc_b2_0.mp c53])
        have h9 := ih (x + 1) (by omega) hr hh
        refine tv_iinc_3 dTC_stepsFrom_75 (by decide) (nI_1 x) ?_
        refine tv_goto (tgt := 4) dTC_stepsFrom_78 (by decide) ?_
        refine tv_fg_4 ?_
        refine tv_fg_5 ?_
        rw [e75] at h9
        exact h9
      · have d53 := tc_b2_n.mp c53
        refine tv_iload dTC_stepsFrom_56 rfl ?_
        refine tv_if_eq (tgt := 75) dTC_stepsFrom_58 (by decide) (fun c58 => ?_) (fun c58 => absurd rfl c58)
        have e75 := tc_mk_no (f := (fun n => bt (σ.1 4 t) (σ.2.1 0 n) && (!decide (σ.1 6 n &&& tc_unb σ t = 0) && !decide (tc_unb σ n = 0)))) (n := x) (by simp [d41])
        have h9 := ih (x + 1) (by omega) hr hh
        refine tv_iinc_3 dTC_stepsFrom_75 (by decide) (nI_1 x) ?_
        refine tv_goto (tgt := 4) dTC_stepsFrom_78 (by decide) ?_
        refine tv_fg_4 ?_
        refine tv_fg_5 ?_
        rw [e75] at h9
        exact h9
    · have d41 : ¬ (σ.1 6 x &&& tc_unb σ t) = 0 := c41
      refine tv_iconst (v := 1) dTC_stepsFrom_44 (by decide) ?_
      refine tv_goto (tgt := 49) dTC_stepsFrom_45 (by decide) ?_
      refine tv_ist_5 dTC_stepsFrom_49 (by decide) ?_
      refine tv_iload dTC_stepsFrom_51 rfl ?_
      refine tv_if_eq (tgt := 75) dTC_stepsFrom_53 (by decide) (fun c53 => ?_) (fun c53 => ?_)
      · have e75 := tc_mk_no (f := (fun n => bt (σ.1 4 t) (σ.2.1 0 n) && (!decide (σ.1 6 n &&& tc_unb σ t = 0) && !decide (tc_unb σ n = 0)))) (n := x) (by simp [tc_b2_0.mp c53])
        have h9 := ih (x + 1) (by omega) hr hh
        refine tv_iinc_3 dTC_stepsFrom_75 (by decide) (nI_1 x) ?_
        refine tv_goto (tgt := 4) dTC_stepsFrom_78 (by decide) ?_
        refine tv_fg_4 ?_
        refine tv_fg_5 ?_
        rw [e75] at h9
        exact h9
      · have d53 := tc_b2_n.mp c53
        refine tv_iload dTC_stepsFrom_56 rfl ?_
        refine tv_if_eq (tgt := 75) dTC_stepsFrom_58 (by decide) (fun c58 => absurd c58 (by decide)) (fun c58 => ?_)
        refine tv_aload_n dTC_stepsFrom_61 rfl rfl ?_
        refine tv_iload_n dTC_stepsFrom_62 rfl rfl ?_
        refine tv_callV1r kTC_171 (by decide) (Nat.le_of_ble_eq_true rfl) ⟨rfl, rfl⟩ rfl (cc_unbuiltOn σ (by omega)) ⟨Nat.zero_le _, Nat.zero_le _⟩ dTC_stepsFrom_63 ?_
        refine tv_if_eq (tgt := 75) dTC_stepsFrom_66 (by decide) (fun c66 => ?_) (fun c66 => ?_)
        · have e75 := tc_mk_no (f := (fun n => bt (σ.1 4 t) (σ.2.1 0 n) && (!decide (σ.1 6 n &&& tc_unb σ t = 0) && !decide (tc_unb σ n = 0)))) (n := x) (by simp [c66])
          have h9 := ih (x + 1) (by omega) hr hh
          refine tv_iinc_3 dTC_stepsFrom_75 (by decide) (nI_1 x) ?_
          refine tv_goto (tgt := 4) dTC_stepsFrom_78 (by decide) ?_
          refine tv_fg_4 ?_
          refine tv_fg_5 ?_
          rw [e75] at h9
          exact h9
        · have e75 := tc_mk_yes (f := (fun n => bt (σ.1 4 t) (σ.2.1 0 n) && (!decide (σ.1 6 n &&& tc_unb σ t = 0) && !decide (tc_unb σ n = 0)))) (n := x) (by simp [d53, d41, c66])
          have h9 := ih (x + 1) (by omega) hr hh
          refine tv_iload_n dTC_stepsFrom_69 rfl rfl ?_
          refine tv_iconst (v := 1) dTC_stepsFrom_70 (by decide) ?_
          refine tv_iload_n dTC_stepsFrom_71 rfl rfl ?_
          refine tv_ishl dTC_stepsFrom_72 ?_
          refine tv_ior dTC_stepsFrom_73 ?_
          refine tv_istN_2 dTC_stepsFrom_74 (by decide) ?_
          refine tv_iinc_3 dTC_stepsFrom_75 (by decide) (nI_1 x) ?_
          refine tv_goto (tgt := 4) dTC_stepsFrom_78 (by decide) ?_
          refine tv_fg_4 ?_
          refine tv_fg_5 ?_
          rw [e75] at h9
          exact h9
set_option maxHeartbeats 4000000 in
set_option maxRecDepth 100000 in
theorem cc_stepsFrom (σ : tcS) (hI : tc_I σ) {t : Nat} (ht : t < 24) : tc_M yTC_stepsFrom cTC_stepsFrom 6 (some .int) 1 [.inr (some 0), .inl (nI t)] (tc_hC σ, some (.inl (tc_steps σ t)), tc_hC σ, 0, 0) := by
  refine tc_met (by decide) (Nat.le_of_ble_eq_true rfl) (Nat.le_of_eq tc_hC_len) rfl ?_
  refine tv_iconst (v := 0) dTC_stepsFrom_0 (by decide) ?_
  refine tv_istN_2 dTC_stepsFrom_1 (by decide) ?_
  refine tv_iconst (v := 0) dTC_stepsFrom_2 (by decide) ?_
  refine tv_istN_3 dTC_stepsFrom_3 (by decide) ?_
  exact cl_stepsFrom_4 σ hI ht (σ.2.2.2 1) 0 (by omega) rfl rfl
theorem tc_l0_k (t : Nat) (σ : tcS) : (tc_l0 t σ).2 = σ.2 ∧ (tc_l0 t σ).1 11 = σ.1 11 := ⟨rfl, rfl⟩
theorem tc_l1_k (m t : Nat) (σ : tcS) : (tc_l1 m t σ).2 = σ.2 ∧ (tc_l1 m t σ).1 11 = σ.1 11 := by
  unfold tc_l1
  split <;> exact ⟨rfl, rfl⟩
theorem tc_l2_k (m : Nat) (σ : tcS) : (tc_l2 m σ).2 = σ.2 ∧ (tc_l2 m σ).1 11 = σ.1 11 := tc_up_k1 (tc_l1_k m) _ _ _
theorem tc_leads_k (σ : tcS) : (tc_leads σ).2 = σ.2 ∧ (tc_leads σ).1 11 = σ.1 11 := by
  have h1 := tc_up_k1 tc_l2_k (σ.2.2.2 1) 0 (tc_up tc_l0 (σ.2.2.2 1) 0 σ)
  have h2 := tc_up_k1 tc_l0_k (σ.2.2.2 1) 0 σ
  exact ⟨h1.1.trans h2.1, h1.2.trans h2.2⟩
set_option maxHeartbeats 4000000 in
set_option maxRecDepth 100000 in
theorem cl_settleLeads_2  {K : tcK} : ∀ (n : Nat) (t : Nat) (ρ : tcS), tc_I ρ → t + n = ρ.2.2.2 1 → tc_V (cTC_settleLeads, 3, yTC_settleLeads.cls, none, 2, yTC_settleLeads.name) K 0 0 (tc_hC (tc_up tc_l0 n t ρ)) 27 [some (.inr (some 0)), none, none] [] → tc_V (cTC_settleLeads, 3, yTC_settleLeads.cls, none, 2, yTC_settleLeads.name) K 0 0 (tc_hC ρ) 2 [some (.inr (some 0)), some (.inl (nI t)), none] [] := by
  intro n
  induction n with
  | zero =>
    intro t ρ hI ht hx
    obtain ⟨iP, iT, iN, iA, iR, iK, iO, iQ, iF, iB⟩ := id hI
    refine tv_iload_n dTC_settleLeads_2 rfl rfl ?_
    refine tv_aload_n dTC_settleLeads_3 rfl rfl ?_
    refine gTC_35 rfl dTC_settleLeads_4 ?_
    refine tv_icmp_ge (tgt := 27) dTC_settleLeads_7 (by decide) (fun c7 => ?_) (fun c7 => absurd (nI_le (by omega) (by omega)) c7)
    refine tv_fg_1 ?_
    exact hx
  | succ n ih =>
    intro t ρ hI ht hx
    obtain ⟨iP, iT, iN, iA, iR, iK, iO, iQ, iF, iB⟩ := id hI
    refine tv_iload_n dTC_settleLeads_2 rfl rfl ?_
    refine tv_aload_n dTC_settleLeads_3 rfl rfl ?_
    refine gTC_35 rfl dTC_settleLeads_4 ?_
    refine tv_icmp_ge (tgt := 27) dTC_settleLeads_7 (by decide) (fun c7 => absurd c7 (nI_ge (by omega) (by omega))) (fun c7 => ?_)
    refine tv_aload_n dTC_settleLeads_10 rfl rfl ?_
    refine gTC_73 rfl dTC_settleLeads_11 ?_
    refine tv_iload_n dTC_settleLeads_14 rfl rfl ?_
    refine tv_aload_n dTC_settleLeads_15 rfl rfl ?_
    refine tv_iload_n dTC_settleLeads_16 rfl rfl ?_
    refine tv_callV1r kTC_168 (by decide) (Nat.le_of_ble_eq_true rfl) ⟨rfl, rfl⟩ rfl (cc_stepsFrom ρ hI (by omega)) ⟨Nat.zero_le _, Nat.zero_le _⟩ dTC_settleLeads_17 ?_
    refine stC_20 dTC_settleLeads_20 (by omega) ?_
    refine tv_iinc_1 dTC_settleLeads_21 (by decide) (nI_1 t) ?_
    refine tv_goto (tgt := 2) dTC_settleLeads_24 (by decide) ?_
    exact ih (t + 1) (tc_l0 t ρ) (tc_I_of hI rfl rfl) (by show t + 1 + n = ρ.2.2.2 1; omega) hx
set_option maxHeartbeats 4000000 in
set_option maxRecDepth 100000 in
theorem cl_settleLeads_39 {m : Nat} {K : tcK} : ∀ (n : Nat) (t : Nat) (ρ : tcS), tc_I ρ → m < ρ.2.2.2 1 → t + n = ρ.2.2.2 1 → tc_V (cTC_settleLeads, 3, yTC_settleLeads.cls, none, 2, yTC_settleLeads.name) K 0 0 (tc_hC (tc_up (tc_l1 m) n t ρ)) 81 [some (.inr (some 0)), some (.inl (nI m)), none] [] → tc_V (cTC_settleLeads, 3, yTC_settleLeads.cls, none, 2, yTC_settleLeads.name) K 0 0 (tc_hC ρ) 39 [some (.inr (some 0)), some (.inl (nI m)), some (.inl (nI t))] [] := by
  intro n
  induction n with
  | zero =>
    intro t ρ hI hm ht hx
    obtain ⟨iP, iT, iN, iA, iR, iK, iO, iQ, iF, iB⟩ := id hI
    refine tv_iload_n dTC_settleLeads_39 rfl rfl ?_
    refine tv_aload_n dTC_settleLeads_40 rfl rfl ?_
    refine gTC_35 rfl dTC_settleLeads_41 ?_
    refine tv_icmp_ge (tgt := 81) dTC_settleLeads_44 (by decide) (fun c44 => ?_) (fun c44 => absurd (nI_le (by omega) (by omega)) c44)
    refine tv_fg_2 ?_
    exact hx
  | succ n ih =>
    intro t ρ hI hm ht hx
    obtain ⟨iP, iT, iN, iA, iR, iK, iO, iQ, iF, iB⟩ := id hI
    refine tv_iload_n dTC_settleLeads_39 rfl rfl ?_
    refine tv_aload_n dTC_settleLeads_40 rfl rfl ?_
    refine gTC_35 rfl dTC_settleLeads_41 ?_
    refine tv_icmp_ge (tgt := 81) dTC_settleLeads_44 (by decide) (fun c44 => absurd c44 (nI_ge (by omega) (by omega))) (fun c44 => ?_)
    refine tv_aload_n dTC_settleLeads_47 rfl rfl ?_
    refine gTC_73 rfl dTC_settleLeads_48 ?_
    refine tv_iload_n dTC_settleLeads_51 rfl rfl ?_
    refine ldC_20 dTC_settleLeads_52 (by omega) ?_
    refine tv_iload_n dTC_settleLeads_53 rfl rfl ?_
    refine tv_callS2r kTC_93 (by decide) (Nat.le_of_ble_eq_true rfl) ⟨rfl, rfl⟩ (cc_hasBit _ _ (by omega)) ⟨Nat.zero_le _, Nat.zero_le _⟩ dTC_settleLeads_54 ?_
    refine tv_if_eq (tgt := 75) dTC_settleLeads_57 (by decide) (fun c57 => ?_) (fun c57 => ?_)
    · have e57 : tc_l1 m t ρ = ρ := by unfold tc_l1; rw [if_neg (by rw [tc_b2_0.mp c57]; simp)]
      refine tv_iinc_2 dTC_settleLeads_75 (by decide) (nI_1 t) ?_
      refine tv_goto (tgt := 39) dTC_settleLeads_78 (by decide) ?_
      have h9 := ih (t + 1) (tc_l1 m t ρ) (tc_I_of hI (tc_l1_k m t ρ).1 (tc_l1_k m t ρ).2) (by rw [(tc_l1_k m t ρ).1]; exact hm) (by rw [(tc_l1_k m t ρ).1]; omega) hx
      rw [e57] at h9
      exact h9
    · have e57 : tc_l1 m t ρ = tc_s1 ρ 9 (upd (ρ.1 9) t (ρ.1 9 t ||| ρ.1 9 m)) := by unfold tc_l1; rw [if_pos (tc_b2_n.mp c57)]
      refine tv_aload_n dTC_settleLeads_60 rfl rfl ?_
      refine gTC_73 rfl dTC_settleLeads_61 ?_
      refine tv_iload_n dTC_settleLeads_64 rfl rfl ?_
      refine tv_dup2 dTC_settleLeads_65 ?_
      refine ldC_20 dTC_settleLeads_66 (by omega) ?_
      refine tv_aload_n dTC_settleLeads_67 rfl rfl ?_
      refine gTC_73 rfl dTC_settleLeads_68 ?_
      refine tv_iload_n dTC_settleLeads_71 rfl rfl ?_
      refine ldC_20 dTC_settleLeads_72 (by omega) ?_
      refine tv_ior dTC_settleLeads_73 ?_
      refine stC_20 dTC_settleLeads_74 (by omega) ?_
      refine tv_iinc_2 dTC_settleLeads_75 (by decide) (nI_1 t) ?_
      refine tv_goto (tgt := 39) dTC_settleLeads_78 (by decide) ?_
      have h9 := ih (t + 1) (tc_l1 m t ρ) (tc_I_of hI (tc_l1_k m t ρ).1 (tc_l1_k m t ρ).2) (by rw [(tc_l1_k m t ρ).1]; exact hm) (by rw [(tc_l1_k m t ρ).1]; omega) hx
      rw [e57] at h9
      exact h9
set_option maxHeartbeats 4000000 in
set_option maxRecDepth 100000 in
theorem cl_settleLeads_29  {K : tcK} : ∀ (n : Nat) (m : Nat) (ρ : tcS), tc_I ρ → m + n = ρ.2.2.2 1 → K.2.1 = none → K.2.2.1 = tc_hC (tc_up tc_l2 n m ρ) → tc_V (cTC_settleLeads, 3, yTC_settleLeads.cls, none, 2, yTC_settleLeads.name) K 0 0 (tc_hC ρ) 29 [some (.inr (some 0)), some (.inl (nI m)), none] [] := by
  intro n
  induction n with
  | zero =>
    intro m ρ hI hm hr hh
    obtain ⟨iP, iT, iN, iA, iR, iK, iO, iQ, iF, iB⟩ := id hI
    refine tv_iload_n dTC_settleLeads_29 rfl rfl ?_
    refine tv_aload_n dTC_settleLeads_30 rfl rfl ?_
    refine gTC_35 rfl dTC_settleLeads_31 ?_
    refine tv_icmp_ge (tgt := 87) dTC_settleLeads_34 (by decide) (fun c34 => ?_) (fun c34 => absurd (nI_le (by omega) (by omega)) c34)
    exact tv_vret dTC_settleLeads_87 rfl hr hh
  | succ n ih =>
    intro m ρ hI hm hr hh
    obtain ⟨iP, iT, iN, iA, iR, iK, iO, iQ, iF, iB⟩ := id hI
    refine tv_iload_n dTC_settleLeads_29 rfl rfl ?_
    refine tv_aload_n dTC_settleLeads_30 rfl rfl ?_
    refine gTC_35 rfl dTC_settleLeads_31 ?_
    refine tv_icmp_ge (tgt := 87) dTC_settleLeads_34 (by decide) (fun c34 => absurd c34 (nI_ge (by omega) (by omega))) (fun c34 => ?_)
    refine tv_iconst (v := 0) dTC_settleLeads_37 (by decide) ?_
    refine tv_istN_2 dTC_settleLeads_38 (by decide) ?_
    refine cl_settleLeads_39 (ρ.2.2.2 1) 0 ρ hI (by omega) (by omega) ?_
    refine tv_iinc_1 dTC_settleLeads_81 (by decide) (nI_1 m) ?_
    refine tv_goto (tgt := 29) dTC_settleLeads_84 (by decide) ?_
    exact ih (m + 1) (tc_l2 m ρ) (tc_I_of hI (tc_l2_k m ρ).1 (tc_l2_k m ρ).2) (by rw [(tc_l2_k m ρ).1]; omega) hr hh
set_option maxHeartbeats 4000000 in
set_option maxRecDepth 100000 in
theorem cc_settleLeads (σ : tcS) (hI : tc_I σ) : tc_M yTC_settleLeads cTC_settleLeads 3 (none) 2 [.inr (some 0)] (tc_hC σ, none, tc_hC (tc_leads σ), 0, 0) := by
  refine tc_met (by decide) (Nat.le_of_ble_eq_true rfl) (Nat.le_of_eq tc_hC_len) rfl ?_
  refine tv_iconst (v := 0) dTC_settleLeads_0 (by decide) ?_
  refine tv_istN_1 dTC_settleLeads_1 (by decide) ?_
  refine cl_settleLeads_2 (σ.2.2.2 1) 0 σ hI (by omega) ?_
  have hk := tc_up_k1 tc_l0_k (σ.2.2.2 1) 0 σ
  refine tv_iconst (v := 0) dTC_settleLeads_27 (by decide) ?_
  refine tv_istN_1 dTC_settleLeads_28 (by decide) ?_
  exact cl_settleLeads_29 (σ.2.2.2 1) 0 (tc_up tc_l0 (σ.2.2.2 1) 0 σ) (tc_I_of hI hk.1 hk.2) (by rw [hk.1]; omega) rfl rfl

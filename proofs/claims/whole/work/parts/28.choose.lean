set_option maxHeartbeats 4000000 in
set_option maxRecDepth 100000 in
theorem cl_lowestUnsupplied_2 (σ : tcS) {t h : Nat} (ht : t < 24) (hh0 : h < 32) {K : tcK} : ∀ (n : Nat) (k : Nat), k + n = 8 → K.2.1 = some (.inl (tc_oI (tc_ff (fun k => bt (σ.1 4 t) k && !bt (σ.1 8 k) h) n k))) → K.2.2.1 = tc_hC σ → tc_V (cTC_lowestUnsupplied, 4, yTC_lowestUnsupplied.cls, some .int, 1, yTC_lowestUnsupplied.name) K 0 0 (tc_hC σ) 2 [some (.inr (some 0)), some (.inl (nI t)), some (.inl (nI h)), some (.inl (nI k))] [] := by
  intro n
  induction n with
  | zero =>
    intro k hk hr hh
    refine tv_iload_n dTC_lowestUnsupplied_2 rfl rfl ?_
    refine tv_bipush (v := 8) dTC_lowestUnsupplied_3 (by decide) ?_
    refine tv_icmp_ge (tgt := 42) dTC_lowestUnsupplied_5 (by decide) (fun c5 => ?_) (fun c5 => absurd (nI_le (a := 8) (b := k) (by omega) (by omega)) c5)
    refine tv_iconst (v := -1) dTC_lowestUnsupplied_42 (by decide) ?_
    exact tv_iret dTC_lowestUnsupplied_43 rfl rfl hr hh
  | succ n ih =>
    intro k hk hr hh
    refine tv_iload_n dTC_lowestUnsupplied_2 rfl rfl ?_
    refine tv_bipush (v := 8) dTC_lowestUnsupplied_3 (by decide) ?_
    refine tv_icmp_ge (tgt := 42) dTC_lowestUnsupplied_5 (by decide) (fun c5 => absurd c5 (nI_ge (a := k) (b := 8) (by omega) (by omega))) (fun c5 => ?_)
    refine tv_aload_n dTC_lowestUnsupplied_8 rfl rfl ?_
    refine gTC_29 rfl dTC_lowestUnsupplied_9 ?_
    refine tv_iload_n dTC_lowestUnsupplied_12 rfl rfl ?_
    refine ldC_6 dTC_lowestUnsupplied_13 ht ?_
    refine tv_iload_n dTC_lowestUnsupplied_14 rfl rfl ?_
    refine tv_callS2r kTC_93 (by decide) (Nat.le_of_ble_eq_true rfl) ⟨rfl, rfl⟩ (cc_hasBit _ _ (by omega)) ⟨Nat.zero_le _, Nat.zero_le _⟩ dTC_lowestUnsupplied_15 ?_
    refine tv_if_eq (tgt := 36) dTC_lowestUnsupplied_18 (by decide) (fun c18 => ?_) (fun c18 => ?_)
    · have e36 : (fun k => bt (σ.1 4 t) k && !bt (σ.1 8 k) h) k = false := by simp [tc_b2_0.mp c18]
      refine tv_iinc_3 dTC_lowestUnsupplied_36 (by decide) (nI_1 k) ?_
      refine tv_goto (tgt := 2) dTC_lowestUnsupplied_39 (by decide) ?_
      exact ih (k + 1) (by omega) (by rw [hr, tc_ff_no e36]) hh
    · have d18 := tc_b2_n.mp c18
      refine tv_aload_n dTC_lowestUnsupplied_21 rfl rfl ?_
      refine gTC_70 rfl dTC_lowestUnsupplied_22 ?_
      refine tv_iload_n dTC_lowestUnsupplied_25 rfl rfl ?_
      refine ldC_19 dTC_lowestUnsupplied_26 (by omega) ?_
      refine tv_iload_n dTC_lowestUnsupplied_27 rfl rfl ?_
      refine tv_callS2r kTC_93 (by decide) (Nat.le_of_ble_eq_true rfl) ⟨rfl, rfl⟩ (cc_hasBit _ _ hh0) ⟨Nat.zero_le _, Nat.zero_le _⟩ dTC_lowestUnsupplied_28 ?_
      refine tv_if_ne (tgt := 36) dTC_lowestUnsupplied_31 (by decide) (fun c31 => ?_) (fun c31 => ?_)
      · have e36 : (fun k => bt (σ.1 4 t) k && !bt (σ.1 8 k) h) k = false := by simp [tc_b2_n.mp c31]
        refine tv_iinc_3 dTC_lowestUnsupplied_36 (by decide) (nI_1 k) ?_
        refine tv_goto (tgt := 2) dTC_lowestUnsupplied_39 (by decide) ?_
        exact ih (k + 1) (by omega) (by rw [hr, tc_ff_no e36]) hh
      · have e36 : (fun k => bt (σ.1 4 t) k && !bt (σ.1 8 k) h) k = true := by simp [d18, tc_b2_0.mp c31]
        refine tv_iload_n dTC_lowestUnsupplied_34 rfl rfl ?_
        exact tv_iret dTC_lowestUnsupplied_35 rfl rfl (by rw [hr, tc_ff_yes e36]; rfl) hh
set_option maxHeartbeats 4000000 in
set_option maxRecDepth 100000 in
theorem cc_lowestUnsupplied (σ : tcS) {t h : Nat} (ht : t < 24) (hh0 : h < 32) : tc_M yTC_lowestUnsupplied cTC_lowestUnsupplied 4 (some .int) 1 [.inr (some 0), .inl (nI t), .inl (nI h)] (tc_hC σ, some (.inl (tc_oI (tc_ff (fun k => bt (σ.1 4 t) k && !bt (σ.1 8 k) h) 8 0))), tc_hC σ, 0, 0) := by
  refine tc_met (by decide) (Nat.le_of_ble_eq_true rfl) (Nat.le_of_eq tc_hC_len) rfl ?_
  refine tv_iconst (v := 0) dTC_lowestUnsupplied_0 (by decide) ?_
  refine tv_istN_3 dTC_lowestUnsupplied_1 (by decide) ?_
  exact cl_lowestUnsupplied_2 σ ht hh0 8 0 rfl rfl rfl
set_option maxHeartbeats 4000000 in
set_option maxRecDepth 100000 in
theorem cc_whyNot (σ : tcS) (hI : tc_I σ) {t h g : Nat} (ht : t < σ.2.2.2 1) (hh0 : h < σ.2.2.2 0) (hg0 : g < σ.2.2.2 0) : tc_M yTC_whyNot cTC_whyNot 5 (some .int) 1 [.inr (some 0), .inl (nI t), .inl (nI h), .inl (nI g)] (tc_hC σ, some (.inl (nI (tc_why σ t h g))), tc_hC σ, 0, 0) := by
  obtain ⟨iP, iT, iN, iA, iR, iK, iO, iQ, iF, iB⟩ := id hI
  have hk := iK t ht
  refine tc_met (by decide) (Nat.le_of_ble_eq_true rfl) (Nat.le_of_eq tc_hC_len) rfl ?_
  refine tv_aload_n dTC_whyNot_0 rfl rfl ?_
  refine gTC_17 rfl dTC_whyNot_1 ?_
  refine tv_iload_n dTC_whyNot_4 rfl rfl ?_
  refine ldC_2 dTC_whyNot_5 (by omega) ?_
  refine tv_ist_4 dTC_whyNot_6 (by decide) ?_
  refine tv_aload_n dTC_whyNot_8 rfl rfl ?_
  refine gTC_48 rfl dTC_whyNot_9 ?_
  refine tv_iload dTC_whyNot_12 rfl ?_
  refine ldC_12 dTC_whyNot_14 hk ?_
  refine tv_iconst (v := -1) dTC_whyNot_15 (by decide) ?_
  refine tv_icmp_eq (tgt := 32) dTC_whyNot_16 (by decide) (fun c16 => ?_) (fun c16 => ?_)
  · have d32 : ¬ (¬ σ.2.2.1 0 (σ.2.1 0 t) = none ∧ ¬ σ.2.2.1 0 (σ.2.1 0 t) = some t) := fun q => q.1 ((tc_oI_m1 (o := σ.2.2.1 0 (σ.2.1 0 t)) (fun a q => by have := iF _ _ q; omega)).mp c16)
    refine tv_aload_n dTC_whyNot_32 rfl rfl ?_
    refine gTC_26 rfl dTC_whyNot_33 ?_
    refine tv_iload_n dTC_whyNot_36 rfl rfl ?_
    refine ldC_5 dTC_whyNot_37 (by omega) ?_
    refine tv_aload_n dTC_whyNot_38 rfl rfl ?_
    refine gTC_44 rfl dTC_whyNot_39 ?_
    refine tv_iload dTC_whyNot_42 rfl ?_
    refine tv_callN1r kTC_149 (by decide) (Nat.le_of_ble_eq_true rfl) ⟨rfl, rfl⟩ rfl (cc_ak_leastVersion σ hk) ⟨Nat.zero_le _, Nat.zero_le _⟩ dTC_whyNot_44 ?_
    refine tv_icmp_ge (tgt := 52) dTC_whyNot_47 (by decide) (fun c47 => ?_) (fun c47 => ?_)
    · have d47 : ¬ σ.1 3 t < σ.1 10 (σ.2.1 0 t) := fun q => by rw [Int32.lt_iff_toInt_lt] at q; rw [Int32.le_iff_toInt_le] at c47; omega
      refine tv_aload_n dTC_whyNot_52 rfl rfl ?_
      refine gTC_61 rfl dTC_whyNot_53 ?_
      refine tv_iload_n dTC_whyNot_56 rfl rfl ?_
      refine ldC_16 dTC_whyNot_57 (by omega) ?_
      refine tv_iload_n dTC_whyNot_58 rfl rfl ?_
      refine tv_callS2r kTC_93 (by decide) (Nat.le_of_ble_eq_true rfl) ⟨rfl, rfl⟩ (cc_hasBit _ _ (by omega)) ⟨Nat.zero_le _, Nat.zero_le _⟩ dTC_whyNot_59 ?_
      refine tv_if_ne (tgt := 67) dTC_whyNot_62 (by decide) (fun c62 => ?_) (fun c62 => ?_)
      · have d62 := tc_b2_n.mp c62
        refine tv_aload_n dTC_whyNot_67 rfl rfl ?_
        refine gTC_64 rfl dTC_whyNot_68 ?_
        refine tv_iload_n dTC_whyNot_71 rfl rfl ?_
        refine ldC_17 dTC_whyNot_72 (by omega) ?_
        refine tv_iload_n dTC_whyNot_73 rfl rfl ?_
        refine tv_callS2r kTC_93 (by decide) (Nat.le_of_ble_eq_true rfl) ⟨rfl, rfl⟩ (cc_hasBit _ _ (by omega)) ⟨Nat.zero_le _, Nat.zero_le _⟩ dTC_whyNot_74 ?_
        refine tv_if_ne (tgt := 82) dTC_whyNot_77 (by decide) (fun c77 => ?_) (fun c77 => ?_)
        · have d77 := tc_b2_n.mp c77
          refine tv_aload_n dTC_whyNot_82 rfl rfl ?_
          refine gTC_67 rfl dTC_whyNot_83 ?_
          refine tv_iload_n dTC_whyNot_86 rfl rfl ?_
          refine ldC_18 dTC_whyNot_87 (by omega) ?_
          refine tv_iload_n dTC_whyNot_88 rfl rfl ?_
          refine tv_callS2r kTC_93 (by decide) (Nat.le_of_ble_eq_true rfl) ⟨rfl, rfl⟩ (cc_hasBit _ _ (by omega)) ⟨Nat.zero_le _, Nat.zero_le _⟩ dTC_whyNot_89 ?_
          refine tv_if_eq (tgt := 99) dTC_whyNot_92 (by decide) (fun c92 => ?_) (fun c92 => ?_)
          · have hr : (some (Sum.inl (nI (tc_why σ t h g))) : Option tcV) = some (Sum.inl 5) := by
              unfold tc_why
              rw [if_neg d32, if_neg d47, if_neg (by rw [d62]; simp), if_neg (by rw [d77]; simp), if_neg (by rw [tc_b2_0.mp c92]; simp)]
              rfl
            refine tv_iconst (v := 5) dTC_whyNot_99 (by decide) ?_
            exact tv_iret dTC_whyNot_100 rfl rfl hr rfl
          · have hr : (some (Sum.inl (nI (tc_why σ t h g))) : Option tcV) = some (Sum.inl 0) := by
              unfold tc_why
              rw [if_neg d32, if_neg d47, if_neg (by rw [d62]; simp), if_neg (by rw [d77]; simp), if_pos (tc_b2_n.mp c92)]
              rfl
            refine tv_iconst (v := 0) dTC_whyNot_95 (by decide) ?_
            refine tv_goto (tgt := 100) dTC_whyNot_96 (by decide) ?_
            exact tv_iret dTC_whyNot_100 rfl rfl hr rfl
        · have hr : (some (Sum.inl (nI (tc_why σ t h g))) : Option tcV) = some (Sum.inl 4) := by
            unfold tc_why
            rw [if_neg d32, if_neg d47, if_neg (by rw [d62]; simp), if_pos (tc_b2_0.mp c77)]
            rfl
          refine tv_iconst (v := 4) dTC_whyNot_80 (by decide) ?_
          exact tv_iret dTC_whyNot_81 rfl rfl hr rfl
      · have hr : (some (Sum.inl (nI (tc_why σ t h g))) : Option tcV) = some (Sum.inl 3) := by
          unfold tc_why
          rw [if_neg d32, if_neg d47, if_pos (tc_b2_0.mp c62)]
          rfl
        refine tv_iconst (v := 3) dTC_whyNot_65 (by decide) ?_
        exact tv_iret dTC_whyNot_66 rfl rfl hr rfl
    · have d47 : σ.1 3 t < σ.1 10 (σ.2.1 0 t) := by rw [Int32.lt_iff_toInt_lt]; rw [Int32.le_iff_toInt_le] at c47; omega
      have hr : (some (Sum.inl (nI (tc_why σ t h g))) : Option tcV) = some (Sum.inl 2) := by
        unfold tc_why
        rw [if_neg d32, if_pos d47]
        rfl
      refine tv_iconst (v := 2) dTC_whyNot_50 (by decide) ?_
      exact tv_iret dTC_whyNot_51 rfl rfl hr rfl
  · have d16 : ¬ σ.2.2.1 0 (σ.2.1 0 t) = none := fun q => c16 ((tc_oI_m1 (o := σ.2.2.1 0 (σ.2.1 0 t)) (fun a q => by have := iF _ _ q; omega)).mpr q)
    refine tv_aload_n dTC_whyNot_19 rfl rfl ?_
    refine gTC_48 rfl dTC_whyNot_20 ?_
    refine tv_iload dTC_whyNot_23 rfl ?_
    refine ldC_12 dTC_whyNot_25 hk ?_
    refine tv_iload_n dTC_whyNot_26 rfl rfl ?_
    refine tv_icmp_eq (tgt := 32) dTC_whyNot_27 (by decide) (fun c27 => ?_) (fun c27 => ?_)
    · have d32 : ¬ (¬ σ.2.2.1 0 (σ.2.1 0 t) = none ∧ ¬ σ.2.2.1 0 (σ.2.1 0 t) = some t) := fun q => q.2 ((tc_oI_some (o := σ.2.2.1 0 (σ.2.1 0 t)) (fun a q => by have := iF _ _ q; omega) (by omega)).mp c27)
      refine tv_aload_n dTC_whyNot_32 rfl rfl ?_
      refine gTC_26 rfl dTC_whyNot_33 ?_
      refine tv_iload_n dTC_whyNot_36 rfl rfl ?_
      refine ldC_5 dTC_whyNot_37 (by omega) ?_
      refine tv_aload_n dTC_whyNot_38 rfl rfl ?_
      refine gTC_44 rfl dTC_whyNot_39 ?_
      refine tv_iload dTC_whyNot_42 rfl ?_
      refine tv_callN1r kTC_149 (by decide) (Nat.le_of_ble_eq_true rfl) ⟨rfl, rfl⟩ rfl (cc_ak_leastVersion σ hk) ⟨Nat.zero_le _, Nat.zero_le _⟩ dTC_whyNot_44 ?_
      refine tv_icmp_ge (tgt := 52) dTC_whyNot_47 (by decide) (fun c47 => ?_) (fun c47 => ?_)
      · have d47 : ¬ σ.1 3 t < σ.1 10 (σ.2.1 0 t) := fun q => by rw [Int32.lt_iff_toInt_lt] at q; rw [Int32.le_iff_toInt_le] at c47; omega
        refine tv_aload_n dTC_whyNot_52 rfl rfl ?_
        refine gTC_61 rfl dTC_whyNot_53 ?_
        refine tv_iload_n dTC_whyNot_56 rfl rfl ?_
        refine ldC_16 dTC_whyNot_57 (by omega) ?_
        refine tv_iload_n dTC_whyNot_58 rfl rfl ?_
        refine tv_callS2r kTC_93 (by decide) (Nat.le_of_ble_eq_true rfl) ⟨rfl, rfl⟩ (cc_hasBit _ _ (by omega)) ⟨Nat.zero_le _, Nat.zero_le _⟩ dTC_whyNot_59 ?_
        refine tv_if_ne (tgt := 67) dTC_whyNot_62 (by decide) (fun c62 => ?_) (fun c62 => ?_)
        · have d62 := tc_b2_n.mp c62
          refine tv_aload_n dTC_whyNot_67 rfl rfl ?_
          refine gTC_64 rfl dTC_whyNot_68 ?_
          refine tv_iload_n dTC_whyNot_71 rfl rfl ?_
          refine ldC_17 dTC_whyNot_72 (by omega) ?_
          refine tv_iload_n dTC_whyNot_73 rfl rfl ?_
          refine tv_callS2r kTC_93 (by decide) (Nat.le_of_ble_eq_true rfl) ⟨rfl, rfl⟩ (cc_hasBit _ _ (by omega)) ⟨Nat.zero_le _, Nat.zero_le _⟩ dTC_whyNot_74 ?_
          refine tv_if_ne (tgt := 82) dTC_whyNot_77 (by decide) (fun c77 => ?_) (fun c77 => ?_)
          · have d77 := tc_b2_n.mp c77
            refine tv_aload_n dTC_whyNot_82 rfl rfl ?_
            refine gTC_67 rfl dTC_whyNot_83 ?_
            refine tv_iload_n dTC_whyNot_86 rfl rfl ?_
            refine ldC_18 dTC_whyNot_87 (by omega) ?_
            refine tv_iload_n dTC_whyNot_88 rfl rfl ?_
            refine tv_callS2r kTC_93 (by decide) (Nat.le_of_ble_eq_true rfl) ⟨rfl, rfl⟩ (cc_hasBit _ _ (by omega)) ⟨Nat.zero_le _, Nat.zero_le _⟩ dTC_whyNot_89 ?_
            refine tv_if_eq (tgt := 99) dTC_whyNot_92 (by decide) (fun c92 => ?_) (fun c92 => ?_)
            · have hr : (some (Sum.inl (nI (tc_why σ t h g))) : Option tcV) = some (Sum.inl 5) := by
                unfold tc_why
                rw [if_neg d32, if_neg d47, if_neg (by rw [d62]; simp), if_neg (by rw [d77]; simp), if_neg (by rw [tc_b2_0.mp c92]; simp)]
                rfl
              refine tv_iconst (v := 5) dTC_whyNot_99 (by decide) ?_
              exact tv_iret dTC_whyNot_100 rfl rfl hr rfl
            · have hr : (some (Sum.inl (nI (tc_why σ t h g))) : Option tcV) = some (Sum.inl 0) := by
                unfold tc_why
                rw [if_neg d32, if_neg d47, if_neg (by rw [d62]; simp), if_neg (by rw [d77]; simp), if_pos (tc_b2_n.mp c92)]
                rfl
              refine tv_iconst (v := 0) dTC_whyNot_95 (by decide) ?_
              refine tv_goto (tgt := 100) dTC_whyNot_96 (by decide) ?_
              exact tv_iret dTC_whyNot_100 rfl rfl hr rfl
          · have hr : (some (Sum.inl (nI (tc_why σ t h g))) : Option tcV) = some (Sum.inl 4) := by
              unfold tc_why
              rw [if_neg d32, if_neg d47, if_neg (by rw [d62]; simp), if_pos (tc_b2_0.mp c77)]
              rfl
            refine tv_iconst (v := 4) dTC_whyNot_80 (by decide) ?_
            exact tv_iret dTC_whyNot_81 rfl rfl hr rfl
        · have hr : (some (Sum.inl (nI (tc_why σ t h g))) : Option tcV) = some (Sum.inl 3) := by
            unfold tc_why
            rw [if_neg d32, if_neg d47, if_pos (tc_b2_0.mp c62)]
            rfl
          refine tv_iconst (v := 3) dTC_whyNot_65 (by decide) ?_
          exact tv_iret dTC_whyNot_66 rfl rfl hr rfl
      · have d47 : σ.1 3 t < σ.1 10 (σ.2.1 0 t) := by rw [Int32.lt_iff_toInt_lt]; rw [Int32.le_iff_toInt_le] at c47; omega
        have hr : (some (Sum.inl (nI (tc_why σ t h g))) : Option tcV) = some (Sum.inl 2) := by
          unfold tc_why
          rw [if_neg d32, if_pos d47]
          rfl
        refine tv_iconst (v := 2) dTC_whyNot_50 (by decide) ?_
        exact tv_iret dTC_whyNot_51 rfl rfl hr rfl
    · have d27 : ¬ σ.2.2.1 0 (σ.2.1 0 t) = some t := fun q => c27 ((tc_oI_some (o := σ.2.2.1 0 (σ.2.1 0 t)) (fun a q => by have := iF _ _ q; omega) (by omega)).mpr q)
      have hr : (some (Sum.inl (nI (tc_why σ t h g))) : Option tcV) = some (Sum.inl 1) := by
        unfold tc_why
        rw [if_pos ⟨d16, d27⟩]
        rfl
      refine tv_iconst (v := 1) dTC_whyNot_30 (by decide) ?_
      exact tv_iret dTC_whyNot_31 rfl rfl hr rfl
set_option maxHeartbeats 4000000 in
set_option maxRecDepth 100000 in
theorem cc_lackOf (w : Nat) (hw : w < 6) (σ : tcS) (hI : tc_I σ) {t h g : Nat} (ht : t < σ.2.2.2 1) (hh0 : h < σ.2.2.2 0) (hg0 : g < σ.2.2.2 0) : tc_M yTC_lackOf cTC_lackOf 5 (some .int) 2 [.inr (some 0), .inl (nI w), .inl (nI t), .inl (nI h), .inl (nI g)] (tc_hC σ, some (.inl (tc_oI (tc_lack σ w t h g))), tc_hC σ, 0, 0) := by
  obtain ⟨iP, iT, iN, iA, iR, iK, iO, iQ, iF, iB⟩ := id hI
  rcases (show w = 0 ∨ w = 1 ∨ w = 2 ∨ w = 3 ∨ w = 4 ∨ w = 5 by omega) with rfl | rfl | rfl | rfl | rfl | rfl
  · refine tc_met (by decide) (Nat.le_of_ble_eq_true rfl) (Nat.le_refl _) rfl ?_
    refine tv_iload_n dTC_lackOf_0 rfl rfl ?_
    refine tv_tabOut (tgt := 74) dTC_lackOf_1 (by decide) (by decide) ?_
    refine tv_iconst (v := -1) dTC_lackOf_74 (by decide) ?_
    exact tv_iret dTC_lackOf_75 rfl rfl rfl rfl
  · refine tc_met (by decide) (Nat.le_of_ble_eq_true rfl) (Nat.le_refl _) rfl ?_
    refine tv_iload_n dTC_lackOf_0 rfl rfl ?_
    refine tv_tabOut (tgt := 74) dTC_lackOf_1 (by decide) (by decide) ?_
    refine tv_iconst (v := -1) dTC_lackOf_74 (by decide) ?_
    exact tv_iret dTC_lackOf_75 rfl rfl rfl rfl
  · refine tc_met (by decide) (Nat.le_of_ble_eq_true rfl) (Nat.le_refl _) rfl ?_
    refine tv_iload_n dTC_lackOf_0 rfl rfl ?_
    refine tv_tabOut (tgt := 74) dTC_lackOf_1 (by decide) (by decide) ?_
    refine tv_iconst (v := -1) dTC_lackOf_74 (by decide) ?_
    exact tv_iret dTC_lackOf_75 rfl rfl rfl rfl
  · refine tc_met (by decide) (Nat.le_of_ble_eq_true rfl) (Nat.le_refl _) rfl ?_
    refine tv_iload_n dTC_lackOf_0 rfl rfl ?_
    refine tv_tabIn (tgt := 28) dTC_lackOf_1 (by decide) (by decide) rfl (by decide) ?_
    refine tv_aload_n dTC_lackOf_28 rfl rfl ?_
    refine gTC_20 rfl dTC_lackOf_29 ?_
    refine tv_iload_n dTC_lackOf_32 rfl rfl ?_
    refine ldC_3 dTC_lackOf_33 (by omega) ?_
    refine tv_aload_n dTC_lackOf_34 rfl rfl ?_
    refine gTC_9 rfl dTC_lackOf_35 ?_
    refine tv_iload_n dTC_lackOf_38 rfl rfl ?_
    refine ldC_1 dTC_lackOf_39 (by omega) ?_
    refine tv_iconst (v := -1) dTC_lackOf_40 (by decide) ?_
    refine tv_ixor dTC_lackOf_41 ?_
    refine tv_iand dTC_lackOf_42 ?_
    refine tv_callS1r kTC_152 (by decide) (Nat.le_of_ble_eq_true rfl) ⟨rfl, rfl⟩ (cc_lowestBit _ _) ⟨Nat.zero_le _, Nat.zero_le _⟩ dTC_lackOf_43 ?_
    exact tv_iret dTC_lackOf_46 rfl rfl rfl rfl
  · refine tc_met (by decide) (Nat.le_of_ble_eq_true rfl) (Nat.le_refl _) rfl ?_
    refine tv_iload_n dTC_lackOf_0 rfl rfl ?_
    refine tv_tabIn (tgt := 47) dTC_lackOf_1 (by decide) (by decide) rfl (by decide) ?_
    refine tv_aload_n dTC_lackOf_47 rfl rfl ?_
    refine gTC_23 rfl dTC_lackOf_48 ?_
    refine tv_iload_n dTC_lackOf_51 rfl rfl ?_
    refine ldC_4 dTC_lackOf_52 (by omega) ?_
    refine tv_aload_n dTC_lackOf_53 rfl rfl ?_
    refine gTC_9 rfl dTC_lackOf_54 ?_
    refine tv_iload dTC_lackOf_57 rfl ?_
    refine ldC_1 dTC_lackOf_59 (by omega) ?_
    refine tv_iconst (v := -1) dTC_lackOf_60 (by decide) ?_
    refine tv_ixor dTC_lackOf_61 ?_
    refine tv_iand dTC_lackOf_62 ?_
    refine tv_callS1r kTC_152 (by decide) (Nat.le_of_ble_eq_true rfl) ⟨rfl, rfl⟩ (cc_lowestBit _ _) ⟨Nat.zero_le _, Nat.zero_le _⟩ dTC_lackOf_63 ?_
    exact tv_iret dTC_lackOf_66 rfl rfl rfl rfl
  · refine tc_met (by decide) (Nat.le_of_ble_eq_true rfl) (Nat.le_refl _) rfl ?_
    refine tv_iload_n dTC_lackOf_0 rfl rfl ?_
    refine tv_tabIn (tgt := 67) dTC_lackOf_1 (by decide) (by decide) rfl (by decide) ?_
    refine tv_aload_n dTC_lackOf_67 rfl rfl ?_
    refine tv_iload_n dTC_lackOf_68 rfl rfl ?_
    refine tv_iload_n dTC_lackOf_69 rfl rfl ?_
    refine tv_callV2r kTC_155 (by decide) (Nat.le_of_ble_eq_true rfl) ⟨rfl, rfl⟩ rfl (cc_lowestUnsupplied σ (by omega) (by omega)) ⟨Nat.zero_le _, Nat.zero_le _⟩ dTC_lackOf_70 ?_
    exact tv_iret dTC_lackOf_73 rfl rfl rfl rfl
theorem tc_why_lt (σ : tcS) (t h g : Nat) : tc_why σ t h g < 6 := by
  unfold tc_why
  repeat' split
  all_goals omega
theorem tc_add_I {σ : tcS} (hI : tc_I σ) (h t w : Nat) (k : Option Nat) : tc_I (tc_add σ h t w k) := by
  obtain ⟨iP, iT, iN, iA, iR, iK, iO, iQ, iF, iB⟩ := hI
  unfold tc_add
  split
  · exact ⟨iP, iT, iN, iA, iR, iK, iO, iQ, iF, iB⟩
  · rename_i hn
    exact ⟨iP, iT, iN, iA, by show σ.2.2.2 4 + 1 ≤ 144; omega, iK, iO, iQ, iF, iB⟩
/-- what firstGood and the rows leave as it was -/
def tc_same (σ τ : tcS) : Prop := τ.2.1 = σ.2.1 ∧ τ.2.2.1 = σ.2.2.1 ∧ τ.2.2.2 0 = σ.2.2.2 0 ∧ τ.2.2.2 1 = σ.2.2.2 1 ∧ τ.2.2.2 2 = σ.2.2.2 2 ∧ τ.2.2.2 3 = σ.2.2.2 3 ∧ ∀ k, k ≠ 12 → τ.1 k = σ.1 k
theorem tc_same.rf {σ : tcS} : tc_same σ σ := ⟨rfl, rfl, rfl, rfl, rfl, rfl, fun _ _ => rfl⟩
theorem tc_same.tr {σ τ ρ : tcS} (h : tc_same σ τ) (k : tc_same τ ρ) : tc_same σ ρ := ⟨k.1.trans h.1, k.2.1.trans h.2.1, k.2.2.1.trans h.2.2.1, k.2.2.2.1.trans h.2.2.2.1, k.2.2.2.2.1.trans h.2.2.2.2.1, k.2.2.2.2.2.1.trans h.2.2.2.2.2.1, fun j hj => (k.2.2.2.2.2.2 j hj).trans (h.2.2.2.2.2.2 j hj)⟩
theorem tc_add_same (σ : tcS) (h t w : Nat) (k : Option Nat) : tc_same σ (tc_add σ h t w k) := by
  unfold tc_add
  split
  · exact tc_same.rf
  · refine ⟨rfl, rfl, rfl, rfl, rfl, rfl, fun j hj => ?_⟩
    simp [tc_s4, tc_w1, tc_s1, va_up, hj]
theorem tc_fg_I {k h g : Nat} : ∀ (n i : Nat) {σ : tcS}, tc_I σ → tc_I (tc_fg k h g n i σ).2
  | 0, _, _, hI => hI
  | n + 1, i, σ, hI => by
    unfold tc_fg
    split
    · split
      · exact tc_add_I hI _ _ _ _
      · exact tc_fg_I n (i + 1) (tc_add_I hI _ _ _ _)
    · exact tc_fg_I n (i + 1) hI
theorem tc_fg_same {k h g : Nat} : ∀ (n i : Nat) (σ : tcS), tc_same σ (tc_fg k h g n i σ).2
  | 0, _, _ => tc_same.rf
  | n + 1, i, σ => by
    unfold tc_fg
    split
    · split
      · exact tc_add_same _ _ _ _ _
      · exact (tc_add_same _ _ _ _ _).tr (tc_fg_same n (i + 1) _)
    · exact tc_fg_same n (i + 1) σ
theorem tc_fg_lt {k h g : Nat} : ∀ (n i : Nat) {σ : tcS} {t : Nat}, tc_I σ → i + n ≤ σ.2.2.2 1 → (tc_fg k h g n i σ).1 = some t → t < σ.2.2.2 1
  | 0, _, _, _, _, _, h => by simp [tc_fg] at h
  | n + 1, i, σ, t, hI, hn, h => by
    have hO := hI.2.2.2.2.2.2.1 i (by omega)
    unfold tc_fg at h
    split at h
    · split at h
      · simp at h
        omega
      · have := tc_fg_lt n (i + 1) (tc_add_I hI _ _ _ _) (by rw [(tc_add_same _ _ _ _ _).2.2.2.1]; omega) h
        rw [(tc_add_same _ _ _ _ _).2.2.2.1] at this
        exact this
    · exact tc_fg_lt n (i + 1) hI (by omega) h
set_option maxHeartbeats 4000000 in
set_option maxRecDepth 100000 in
theorem cl_firstGood_3 {k h g : Nat} (hk : k < 8) {K : tcK} : ∀ (n : Nat) (i : Nat) (ρ : tcS), tc_I ρ → h < ρ.2.2.2 0 → g < ρ.2.2.2 0 → i + n = ρ.2.2.2 1 → K.2.1 = some (.inl (tc_oI (tc_fg k h g n i ρ).1)) → K.2.2.1 = tc_hC (tc_fg k h g n i ρ).2 → tc_V (cTC_firstGood, 7, yTC_firstGood.cls, some .int, 3, yTC_firstGood.name) K 0 0 (tc_hC ρ) 3 [some (.inr (some 0)), some (.inl (nI k)), some (.inl (nI h)), some (.inl (nI g)), some (.inl (nI i)), none, none] [] := by
  intro n
  induction n with
  | zero =>
    intro i ρ hI hh0 hg0 hi hr hh
    obtain ⟨iP, iT, iN, iA, iR, iK, iO, iQ, iF, iB⟩ := id hI
    refine tv_iload dTC_firstGood_3 rfl ?_
    refine tv_aload_n dTC_firstGood_5 rfl rfl ?_
    refine gTC_35 rfl dTC_firstGood_6 ?_
    refine tv_icmp_ge (tgt := 78) dTC_firstGood_9 (by decide) (fun c9 => ?_) (fun c9 => absurd (nI_le (by omega) (by omega)) c9)
    refine tv_iconst (v := -1) dTC_firstGood_78 (by decide) ?_
    exact tv_iret dTC_firstGood_79 rfl rfl hr hh
  | succ n ih =>
    intro i ρ hI hh0 hg0 hi hr hh
    obtain ⟨iP, iT, iN, iA, iR, iK, iO, iQ, iF, iB⟩ := id hI
    have hO := iO i (by omega)
    refine tv_iload dTC_firstGood_3 rfl ?_
    refine tv_aload_n dTC_firstGood_5 rfl rfl ?_
    refine gTC_35 rfl dTC_firstGood_6 ?_
    refine tv_icmp_ge (tgt := 78) dTC_firstGood_9 (by decide) (fun c9 => absurd c9 (nI_ge (by omega) (by omega))) (fun c9 => ?_)
    refine tv_aload_n dTC_firstGood_12 rfl rfl ?_
    refine gTC_32 rfl dTC_firstGood_13 ?_
    refine tv_iload dTC_firstGood_16 rfl ?_
    refine ldC_7 dTC_firstGood_18 (by omega) ?_
    refine tv_ist_5 dTC_firstGood_19 (by decide) ?_
    refine tv_aload_n dTC_firstGood_21 rfl rfl ?_
    refine gTC_17 rfl dTC_firstGood_22 ?_
    refine tv_iload dTC_firstGood_25 rfl ?_
    refine ldC_2 dTC_firstGood_27 (by omega) ?_
    refine tv_iload_n dTC_firstGood_28 rfl rfl ?_
    refine tv_icmp_ne (tgt := 72) dTC_firstGood_29 (by decide) (fun c29 => ?_) (fun c29 => ?_)
    · have d29 : ¬ ρ.2.1 0 (ρ.2.1 1 i) = k := fun q => c29 (by rw [q])
      have e29 : tc_fg k h g (n + 1) i ρ = tc_fg k h g n (i + 1) ρ := by rw [tc_fg, if_neg d29]
      have h9 := ih (i + 1) ρ hI hh0 hg0 (by omega) (by rw [hr, e29]) (by rw [hh, e29])
      refine tv_iinc_4 dTC_firstGood_72 (by decide) (nI_1 i) ?_
      refine tv_goto (tgt := 3) dTC_firstGood_75 (by decide) ?_
      refine tv_fg_5 ?_
      refine tv_fg_6 ?_
      exact h9
    · have d29 : ρ.2.1 0 (ρ.2.1 1 i) = k := (nI_eq (by have := iK _ hO; omega) (by omega)).mp c29
      refine tv_aload_n dTC_firstGood_32 rfl rfl ?_
      refine tv_iload dTC_firstGood_33 rfl ?_
      refine tv_iload_n dTC_firstGood_35 rfl rfl ?_
      refine tv_iload_n dTC_firstGood_36 rfl rfl ?_
      refine tv_callV3r kTC_138 (by decide) (Nat.le_of_ble_eq_true rfl) ⟨rfl, rfl⟩ rfl (cc_whyNot ρ hI hO hh0 hg0) ⟨Nat.zero_le _, Nat.zero_le _⟩ dTC_firstGood_37 ?_
      refine tv_ist_6 dTC_firstGood_40 (by decide) ?_
      refine tv_aload_n dTC_firstGood_42 rfl rfl ?_
      refine gTC_57 rfl dTC_firstGood_43 ?_
      refine tv_iload_n dTC_firstGood_46 rfl rfl ?_
      refine tv_iload dTC_firstGood_47 rfl ?_
      refine tv_iload dTC_firstGood_49 rfl ?_
      refine tv_aload_n dTC_firstGood_51 rfl rfl ?_
      refine tv_iload dTC_firstGood_52 rfl ?_
      refine tv_iload dTC_firstGood_54 rfl ?_
      refine tv_iload_n dTC_firstGood_56 rfl rfl ?_
      refine tv_iload_n dTC_firstGood_57 rfl rfl ?_
      refine tv_callV4r kTC_141 (by decide) (Nat.le_of_ble_eq_true rfl) ⟨rfl, rfl⟩ rfl (cc_lackOf _ (tc_why_lt _ _ _ _) ρ hI hO hh0 hg0) ⟨Nat.zero_le _, Nat.zero_le _⟩ dTC_firstGood_58 ?_
      refine tv_callN4v kTC_145 (by decide) (Nat.le_of_ble_eq_true rfl) ⟨rfl, rfl⟩ rfl (cc_rl_add ρ hI _ _ _ _) ⟨Nat.zero_le _, Nat.zero_le _⟩ dTC_firstGood_61 ?_
      refine tv_iload dTC_firstGood_64 rfl ?_
      refine tv_if_ne (tgt := 72) dTC_firstGood_66 (by decide) (fun c66 => ?_) (fun c66 => ?_)
      · have d66 : ¬ tc_why ρ (ρ.2.1 1 i) h g = 0 := fun q => c66 (by rw [q]; rfl)
        have e29 : tc_fg k h g (n + 1) i ρ = tc_fg k h g n (i + 1) (tc_add ρ h (ρ.2.1 1 i) (tc_why ρ (ρ.2.1 1 i) h g) (tc_lack ρ (tc_why ρ (ρ.2.1 1 i) h g) (ρ.2.1 1 i) h g)) := by rw [tc_fg, if_pos d29, if_neg d66]
        have hs := tc_add_same ρ h (ρ.2.1 1 i) (tc_why ρ (ρ.2.1 1 i) h g) (tc_lack ρ (tc_why ρ (ρ.2.1 1 i) h g) (ρ.2.1 1 i) h g)
        have h9 := ih (i + 1) (tc_add ρ h (ρ.2.1 1 i) (tc_why ρ (ρ.2.1 1 i) h g) (tc_lack ρ (tc_why ρ (ρ.2.1 1 i) h g) (ρ.2.1 1 i) h g)) (tc_add_I hI _ _ _ _) (by rw [hs.2.2.1]; exact hh0) (by rw [hs.2.2.1]; exact hg0) (by rw [hs.2.2.2.1]; omega) (by rw [hr, e29]) (by rw [hh, e29])
        refine tv_iinc_4 dTC_firstGood_72 (by decide) (nI_1 i) ?_
        refine tv_goto (tgt := 3) dTC_firstGood_75 (by decide) ?_
        refine tv_fg_5 ?_
        refine tv_fg_6 ?_
        exact h9
      · have d66 : tc_why ρ (ρ.2.1 1 i) h g = 0 := (nI_eq (by have := tc_why_lt ρ (ρ.2.1 1 i) h g; omega) (by omega)).mp c66
        have e29 : tc_fg k h g (n + 1) i ρ = (some (ρ.2.1 1 i), tc_add ρ h (ρ.2.1 1 i) (tc_why ρ (ρ.2.1 1 i) h g) (tc_lack ρ (tc_why ρ (ρ.2.1 1 i) h g) (ρ.2.1 1 i) h g)) := by rw [tc_fg, if_pos d29, if_pos d66]
        refine tv_iload dTC_firstGood_69 rfl ?_
        exact tv_iret dTC_firstGood_71 rfl rfl (by rw [hr, e29]; rfl) (by rw [hh, e29])
set_option maxHeartbeats 4000000 in
set_option maxRecDepth 100000 in
theorem cc_firstGood (σ : tcS) (hI : tc_I σ) {k h g : Nat} (hk : k < 8) (hh0 : h < σ.2.2.2 0) (hg0 : g < σ.2.2.2 0) : tc_M yTC_firstGood cTC_firstGood 7 (some .int) 3 [.inr (some 0), .inl (nI k), .inl (nI h), .inl (nI g)] (tc_hC σ, some (.inl (tc_oI (tc_fg k h g (σ.2.2.2 1) 0 σ).1)), tc_hC (tc_fg k h g (σ.2.2.2 1) 0 σ).2, 0, 0) := by
  refine tc_met (by decide) (Nat.le_of_ble_eq_true rfl) (Nat.le_of_eq tc_hC_len) rfl ?_
  refine tv_iconst (v := 0) dTC_firstGood_0 (by decide) ?_
  refine tv_ist_4 dTC_firstGood_1 (by decide) ?_
  exact cl_firstGood_3 hk (σ.2.2.2 1) 0 σ hI hh0 hg0 (by omega) rfl rfl
theorem tc_ts_I {h g k : Nat} {σ : tcS} (hI : tc_I σ) : tc_I (tc_ts h g k σ) := tc_fg_I (k := k) (h := h) (g := g) (σ.2.2.2 1) 0 hI
theorem tc_ts_c {h g k : Nat} {σ : tcS} : (tc_ts h g k σ).2.2.2 0 = σ.2.2.2 0 ∧ (tc_ts h g k σ).2.2.2 3 = σ.2.2.2 3 := by
  have hs := tc_fg_same (k := k) (h := h) (g := g) (σ.2.2.2 1) 0 σ
  exact ⟨hs.2.2.1, hs.2.2.2.2.2.1⟩
theorem tc_tt_k {h g : Nat} : ∀ (n i : Nat) {σ : tcS}, tc_I σ → tc_I (tc_tt h g n i σ).2 ∧ (tc_tt h g n i σ).2.2.2.2 0 = σ.2.2.2 0
  | 0, _, _, hI => ⟨hI, rfl⟩
  | n + 1, i, σ, hI => by
    unfold tc_tt
    split
    · exact ⟨tc_ts_I hI, tc_ts_c.1⟩
    · have h1 := tc_tt_k (h := h) (g := g) n (i + 1) (tc_ts_I (h := h) (g := g) (k := σ.2.1 2 i) hI)
      exact ⟨h1.1, h1.2.trans tc_ts_c.1⟩
theorem tc_take_k {h g : Nat} {σ : tcS} (hI : tc_I σ) : tc_I (tc_take h g σ).2 ∧ (tc_take h g σ).2.2.2.2 0 = σ.2.2.2 0 := tc_tt_k (σ := tc_t0 σ) _ _ hI
theorem tc_hC_t0 {σ : tcS} : (tc_hC σ).set 13 (.inl (0, 8, .inl (tc_fill 8 (-1) (fun j => tc_oI (σ.2.2.1 1 j))))) = tc_hC (tc_t0 σ) := by
  have e : tc_fill 8 (-1) (fun j => tc_oI (σ.2.2.1 1 j)) = fun j => tc_oI (tc_fill 8 none (σ.2.2.1 1) j) := tc_fill_o (v := none)
  rw [e]
  rfl
set_option maxHeartbeats 4000000 in
set_option maxRecDepth 100000 in
theorem cl_takeTools_10 {h g : Nat} {K : tcK} : ∀ (n : Nat) (i : Nat) (ρ : tcS), tc_I ρ → h < ρ.2.2.2 0 → g < ρ.2.2.2 0 → i + n = ρ.2.2.2 3 → K.2.1 = some (.inl (tc_b2 (tc_tt h g n i ρ).1)) → K.2.2.1 = tc_hC (tc_tt h g n i ρ).2 → tc_V (cTC_takeTools, 5, yTC_takeTools.cls, some .boolean, 4, yTC_takeTools.name) K 0 0 (tc_hC ρ) 10 [some (.inr (some 0)), some (.inl (nI h)), some (.inl (nI g)), some (.inl (nI i)), none] [] := by
  intro n
  induction n with
  | zero =>
    intro i ρ hI hh0 hg0 hi hr hh
    obtain ⟨iP, iT, iN, iA, iR, iK, iO, iQ, iF, iB⟩ := id hI
    refine tv_iload_n dTC_takeTools_10 rfl rfl ?_
    refine tv_aload_n dTC_takeTools_11 rfl rfl ?_
    refine gTC_44 rfl dTC_takeTools_12 ?_
    refine tv_callN0r kTC_127 (by decide) (Nat.le_of_ble_eq_true rfl) ⟨rfl, rfl⟩ rfl (cc_ak_size ρ) ⟨Nat.zero_le _, Nat.zero_le _⟩ dTC_takeTools_15 ?_
    refine tv_icmp_ge (tgt := 77) dTC_takeTools_18 (by decide) (fun c18 => ?_) (fun c18 => absurd (nI_le (by omega) (by omega)) c18)
    refine tv_iconst (v := 1) dTC_takeTools_77 (by decide) ?_
    exact tv_iret dTC_takeTools_78 rfl rfl hr hh
  | succ n ih =>
    intro i ρ hI hh0 hg0 hi hr hh
    obtain ⟨iP, iT, iN, iA, iR, iK, iO, iQ, iF, iB⟩ := id hI
    have hk := iQ i (by omega)
    have hs := tc_fg_same (k := ρ.2.1 2 i) (h := h) (g := g) (ρ.2.2.2 1) 0 ρ
    have hb : ∀ a, (tc_fg (ρ.2.1 2 i) h g (ρ.2.2.2 1) 0 ρ).1 = some a → a < 2 ^ 31 := fun a q => by have := tc_fg_lt (ρ.2.2.2 1) 0 hI (by omega) q; omega
    have iB2 := (tc_ts_I (h := h) (g := g) (k := ρ.2.1 2 i) hI).2.2.2.2.2.2.2.2.2
    refine tv_iload_n dTC_takeTools_10 rfl rfl ?_
    refine tv_aload_n dTC_takeTools_11 rfl rfl ?_
    refine gTC_44 rfl dTC_takeTools_12 ?_
    refine tv_callN0r kTC_127 (by decide) (Nat.le_of_ble_eq_true rfl) ⟨rfl, rfl⟩ rfl (cc_ak_size ρ) ⟨Nat.zero_le _, Nat.zero_le _⟩ dTC_takeTools_15 ?_
    refine tv_icmp_ge (tgt := 77) dTC_takeTools_18 (by decide) (fun c18 => absurd c18 (nI_ge (by omega) (by omega))) (fun c18 => ?_)
    refine tv_aload_n dTC_takeTools_21 rfl rfl ?_
    refine gTC_44 rfl dTC_takeTools_22 ?_
    refine tv_iload_n dTC_takeTools_25 rfl rfl ?_
    refine tv_callN1r kTC_128 (by decide) (Nat.le_of_ble_eq_true rfl) ⟨rfl, rfl⟩ rfl (cc_ak_kindAt ρ (by omega)) ⟨Nat.zero_le _, Nat.zero_le _⟩ dTC_takeTools_26 ?_
    refine tv_ist_4 dTC_takeTools_29 (by decide) ?_
    refine tv_aload_n dTC_takeTools_31 rfl rfl ?_
    refine gTC_51 rfl dTC_takeTools_32 ?_
    refine tv_iload dTC_takeTools_35 rfl ?_
    refine tv_aload_n dTC_takeTools_37 rfl rfl ?_
    refine tv_iload dTC_takeTools_38 rfl ?_
    refine tv_iload_n dTC_takeTools_40 rfl rfl ?_
    refine tv_iload_n dTC_takeTools_41 rfl rfl ?_
    refine tv_callV3r kTC_131 (by decide) (Nat.le_of_ble_eq_true rfl) ⟨rfl, rfl⟩ rfl (cc_firstGood ρ hI hk hh0 hg0) ⟨Nat.zero_le _, Nat.zero_le _⟩ dTC_takeTools_42 ?_
    refine stC_13 (tc_fg (ρ.2.1 2 i) h g (ρ.2.2.2 1) 0 ρ).1 dTC_takeTools_45 hk ?_
    refine tv_aload_n dTC_takeTools_46 rfl rfl ?_
    refine gTC_51 rfl dTC_takeTools_47 ?_
    refine tv_iload dTC_takeTools_50 rfl ?_
    refine ldC_13 dTC_takeTools_52 hk ?_
    refine tv_top (b := .inl (tc_oI (tc_fg (ρ.2.1 2 i) h g (ρ.2.2.2 1) 0 ρ).1)) (by simp [tc_s3, va_up]) ?_
    refine tv_iconst (v := -1) dTC_takeTools_53 (by decide) ?_
    refine tv_icmp_ne (tgt := 71) dTC_takeTools_54 (by decide) (fun c54 => ?_) (fun c54 => ?_)
    · have d71 : ¬ ((tc_fg (ρ.2.1 2 i) h g (ρ.2.2.2 1) 0 ρ).1 = none ∧ ¬ ρ.1 11 (ρ.2.1 2 i) = 0) := fun q => c54 ((tc_oI_m1 hb).mpr q.1)
      refine tv_iinc_3 dTC_takeTools_71 (by decide) (nI_1 i) ?_
      refine tv_goto (tgt := 10) dTC_takeTools_74 (by decide) ?_
      have e71 : tc_tt h g (n + 1) i ρ = tc_tt h g n (i + 1) (tc_ts h g (ρ.2.1 2 i) ρ) := by rw [tc_tt, if_neg d71]
      have h9 := ih (i + 1) (tc_ts h g (ρ.2.1 2 i) ρ) (tc_ts_I hI) (by rw [tc_ts_c.1]; exact hh0) (by rw [tc_ts_c.1]; exact hg0) (by rw [tc_ts_c.2]; omega) (by rw [hr, e71]) (by rw [hh, e71])
      refine tv_fg_4 ?_
      exact h9
    · have d54 := (tc_oI_m1 hb).mp c54
      refine tv_aload_n dTC_takeTools_57 rfl rfl ?_
      refine gTC_44 rfl dTC_takeTools_58 ?_
      refine tv_iload dTC_takeTools_61 rfl ?_
      refine tv_callN1r kTC_135 (by decide) (Nat.le_of_ble_eq_true rfl) ⟨rfl, rfl⟩ rfl (cc_ak_isNeeded (tc_ts h g (ρ.2.1 2 i) ρ) hk (iB2 _)) ⟨Nat.zero_le _, Nat.zero_le _⟩ dTC_takeTools_63 ?_
      refine tv_top (b := .inl (ρ.1 11 (ρ.2.1 2 i))) (congrArg Sum.inl (congrFun (hs.2.2.2.2.2.2 11 (by decide)) _)) ?_
      refine tv_if_eq (tgt := 71) dTC_takeTools_66 (by decide) (fun c66 => ?_) (fun c66 => ?_)
      · have d71 : ¬ ((tc_fg (ρ.2.1 2 i) h g (ρ.2.2.2 1) 0 ρ).1 = none ∧ ¬ ρ.1 11 (ρ.2.1 2 i) = 0) := fun q => q.2 c66
        refine tv_iinc_3 dTC_takeTools_71 (by decide) (nI_1 i) ?_
        refine tv_goto (tgt := 10) dTC_takeTools_74 (by decide) ?_
        have e71 : tc_tt h g (n + 1) i ρ = tc_tt h g n (i + 1) (tc_ts h g (ρ.2.1 2 i) ρ) := by rw [tc_tt, if_neg d71]
        have h9 := ih (i + 1) (tc_ts h g (ρ.2.1 2 i) ρ) (tc_ts_I hI) (by rw [tc_ts_c.1]; exact hh0) (by rw [tc_ts_c.1]; exact hg0) (by rw [tc_ts_c.2]; omega) (by rw [hr, e71]) (by rw [hh, e71])
        refine tv_fg_4 ?_
        exact h9
      · have e69 : tc_tt h g (n + 1) i ρ = (false, tc_ts h g (ρ.2.1 2 i) ρ) := by rw [tc_tt, if_pos ⟨d54, c66⟩]
        refine tv_iconst (v := 0) dTC_takeTools_69 (by decide) ?_
        exact tv_iret dTC_takeTools_70 rfl rfl (by rw [hr, e69]; rfl) (by rw [hh, e69])
set_option maxHeartbeats 4000000 in
set_option maxRecDepth 100000 in
theorem cc_takeTools (σ : tcS) (hI : tc_I σ) {h g : Nat} (hh0 : h < σ.2.2.2 0) (hg0 : g < σ.2.2.2 0) : tc_M yTC_takeTools cTC_takeTools 5 (some .boolean) 4 [.inr (some 0), .inl (nI h), .inl (nI g)] (tc_hC σ, some (.inl (tc_b2 (tc_take h g σ).1)), tc_hC (tc_take h g σ).2, 0, 0) := by
  refine tc_met (by decide) (Nat.le_of_ble_eq_true rfl) (Nat.le_of_eq tc_hC_len) rfl ?_
  refine tv_aload_n dTC_takeTools_0 rfl rfl ?_
  refine gTC_51 rfl dTC_takeTools_1 ?_
  refine tv_iconst (v := -1) dTC_takeTools_4 (by decide) ?_
  refine tv_callS2v kTC_76 (by decide) (Nat.le_of_ble_eq_true rfl) ⟨rfl, rfl⟩ (cc_fill (h0 := tc_hC σ) (q := 13) (m := 8) (f := fun j => tc_oI (σ.2.2.1 1 j)) (v := -1) (by decide) rfl) ⟨Nat.zero_le _, Nat.zero_le _⟩ dTC_takeTools_5 ?_
  refine tv_eq (h' := tc_hC (tc_t0 σ)) ?_ tc_hC_t0 rfl rfl
  refine tv_iconst (v := 0) dTC_takeTools_8 (by decide) ?_
  refine tv_istN_3 dTC_takeTools_9 (by decide) ?_
  exact cl_takeTools_10 (σ.2.2.2 3) 0 (tc_t0 σ) hI hh0 hg0 (by show 0 + _ = σ.2.2.2 3; omega) rfl rfl
set_option maxHeartbeats 4000000 in
set_option maxRecDepth 100000 in
theorem cl_choose_23 {g : Nat} {K : tcK} : ∀ (n : Nat) (h : Nat) (ρ : tcS), tc_I ρ → g < ρ.2.2.2 0 → h + n = ρ.2.2.2 0 → K.2.1 = some (.inl (tc_oI (tc_ch g n h ρ).1)) → K.2.2.1 = tc_hC (tc_ch g n h ρ).2 → tc_V (cTC_choose, 3, yTC_choose.cls, some .int, 5, yTC_choose.name) K 0 0 (tc_hC ρ) 23 [some (.inr (some 0)), some (.inl (nI g)), some (.inl (nI h))] [] := by
  intro n
  induction n with
  | zero =>
    intro h ρ hI hg0 hh0 hr hh
    obtain ⟨iP, iT, iN, iA, iR, iK, iO, iQ, iF, iB⟩ := id hI
    refine tv_iload_n dTC_choose_23 rfl rfl ?_
    refine tv_aload_n dTC_choose_24 rfl rfl ?_
    refine gTC_13 rfl dTC_choose_25 ?_
    refine tv_icmp_ge (tgt := 48) dTC_choose_28 (by decide) (fun c28 => ?_) (fun c28 => absurd (nI_le (by omega) (by omega)) c28)
    refine tv_aload_n dTC_choose_48 rfl rfl ?_
    refine gTC_51 rfl dTC_choose_49 ?_
    refine tv_iconst (v := -1) dTC_choose_52 (by decide) ?_
    refine tv_callS2v kTC_76 (by decide) (Nat.le_of_ble_eq_true rfl) ⟨rfl, rfl⟩ (cc_fill (h0 := tc_hC ρ) (q := 13) (m := 8) (f := fun j => tc_oI (ρ.2.2.1 1 j)) (v := -1) (by decide) rfl) ⟨Nat.zero_le _, Nat.zero_le _⟩ dTC_choose_53 ?_
    refine tv_eq (h' := tc_hC (tc_t0 ρ)) ?_ tc_hC_t0 rfl rfl
    refine tv_iconst (v := -1) dTC_choose_56 (by decide) ?_
    exact tv_iret dTC_choose_57 rfl rfl hr hh
  | succ n ih =>
    intro h ρ hI hg0 hh0 hr hh
    obtain ⟨iP, iT, iN, iA, iR, iK, iO, iQ, iF, iB⟩ := id hI
    refine tv_iload_n dTC_choose_23 rfl rfl ?_
    refine tv_aload_n dTC_choose_24 rfl rfl ?_
    refine gTC_13 rfl dTC_choose_25 ?_
    refine tv_icmp_ge (tgt := 48) dTC_choose_28 (by decide) (fun c28 => absurd c28 (nI_ge (by omega) (by omega))) (fun c28 => ?_)
    refine tv_aload_n dTC_choose_31 rfl rfl ?_
    refine tv_iload_n dTC_choose_32 rfl rfl ?_
    refine tv_iload_n dTC_choose_33 rfl rfl ?_
    refine tv_callV2r kTC_113 (by decide) (Nat.le_of_ble_eq_true rfl) ⟨rfl, rfl⟩ rfl (cc_takeTools ρ hI (by omega) hg0) ⟨Nat.zero_le _, Nat.zero_le _⟩ dTC_choose_34 ?_
    refine tv_if_eq (tgt := 42) dTC_choose_37 (by decide) (fun c37 => ?_) (fun c37 => ?_)
    · refine tv_iinc_2 dTC_choose_42 (by decide) (nI_1 h) ?_
      refine tv_goto (tgt := 23) dTC_choose_45 (by decide) ?_
      have e37 : tc_ch g (n + 1) h ρ = tc_ch g n (h + 1) (tc_take h g ρ).2 := by rw [tc_ch, if_neg (by rw [tc_b2_0.mp c37]; simp)]
      have hk := tc_take_k (h := h) (g := g) hI
      exact ih (h + 1) _ hk.1 (by rw [hk.2]; exact hg0) (by rw [hk.2]; omega) (by rw [hr, e37]) (by rw [hh, e37])
    · have e37 : tc_ch g (n + 1) h ρ = (some h, (tc_take h g ρ).2) := by rw [tc_ch, if_pos (tc_b2_n.mp c37)]
      refine tv_iload_n dTC_choose_40 rfl rfl ?_
      exact tv_iret dTC_choose_41 rfl rfl (by rw [hr, e37]; rfl) (by rw [hh, e37])
set_option maxHeartbeats 4000000 in
set_option maxRecDepth 100000 in
theorem cc_choose (σ : tcS) (hI : tc_I σ) {g : Nat} (hg0 : g < σ.2.2.2 0) : tc_M yTC_choose cTC_choose 3 (some .int) 5 [.inr (some 0), .inl (nI g)] (tc_hC σ, some (.inl (tc_oI (tc_choose g σ).1)), tc_hC (tc_choose g σ).2, 0, 0) := by
  obtain ⟨iP, iT, iN, iA, iR, iK, iO, iQ, iF, iB⟩ := id hI
  have hI2 : tc_I (tc_s4 (tc_settle σ) 4 0) := by
    obtain ⟨jP, jT, jN, jA, jR, jK, jO, jQ, jF, jB⟩ := tc_I_of hI (tc_settle_k σ).1 (tc_settle_k σ).2
    exact ⟨jP, jT, jN, jA, Nat.zero_le _, jK, jO, jQ, jF, jB⟩
  refine tc_met (by decide) (Nat.le_of_ble_eq_true rfl) (Nat.le_of_eq tc_hC_len) rfl ?_
  refine tv_aload_n dTC_choose_0 rfl rfl ?_
  refine tv_iload_n dTC_choose_1 rfl rfl ?_
  refine tv_callV1r kTC_104 (by decide) (Nat.le_of_ble_eq_true rfl) ⟨rfl, rfl⟩ rfl (cc_isPlatform σ _) ⟨Nat.zero_le _, Nat.zero_le _⟩ dTC_choose_2 ?_
  refine tv_if_ne (tgt := 10) dTC_choose_5 (by decide) (fun c5 => ?_) (fun c5 => absurd (tc_b2_0.mp c5) (by rw [tc_isN_nI hg0 (by omega)]; simp))
  refine tv_aload_n dTC_choose_10 rfl rfl ?_
  refine tv_callV0v kTC_107 (by decide) (Nat.le_of_ble_eq_true rfl) ⟨rfl, rfl⟩ rfl (cc_settleBuilt σ hI) ⟨Nat.zero_le _, Nat.zero_le _⟩ dTC_choose_11 ?_
  refine tv_aload_n dTC_choose_14 rfl rfl ?_
  refine gTC_57 rfl dTC_choose_15 ?_
  refine tv_callN0v kTC_110 (by decide) (Nat.le_of_ble_eq_true rfl) ⟨rfl, rfl⟩ rfl (cc_rl_clear (tc_settle σ)) ⟨Nat.zero_le _, Nat.zero_le _⟩ dTC_choose_18 ?_
  refine tv_iconst (v := 0) dTC_choose_21 (by decide) ?_
  refine tv_istN_2 dTC_choose_22 (by decide) ?_
  have hs := tc_settle_k σ
  exact cl_choose_23 (σ.2.2.2 0) 0 (tc_s4 (tc_settle σ) 4 0) hI2 (by show g < (tc_settle σ).2.2.2 0; rw [hs.1]; exact hg0) (by show 0 + _ = (tc_settle σ).2.2.2 0; rw [hs.1]; omega) rfl rfl
set_option maxHeartbeats 4000000 in
set_option maxRecDepth 100000 in
theorem cc_choose_no (σ : tcS) {x : Int32} (hx : tc_isN x (σ.2.2.2 0) = false) : tc_M yTC_choose cTC_choose 3 (some .int) 5 [.inr (some 0), .inl x] (tc_hC σ, some (.inl (-1)), tc_hC σ, 0, 0) := by
  refine tc_met (by decide) (Nat.le_of_ble_eq_true rfl) (Nat.le_refl _) rfl ?_
  refine tv_aload_n dTC_choose_0 rfl rfl ?_
  refine tv_iload_n dTC_choose_1 rfl rfl ?_
  refine tv_callV1r kTC_104 (by decide) (Nat.le_of_ble_eq_true rfl) ⟨rfl, rfl⟩ rfl (cc_isPlatform σ _) ⟨Nat.zero_le _, Nat.zero_le _⟩ dTC_choose_2 ?_
  refine tv_if_ne (tgt := 10) dTC_choose_5 (by decide) (fun c5 => absurd (tc_b2_n.mp c5) (by rw [hx]; simp)) (fun c5 => ?_)
  refine tv_iconst (v := -1) dTC_choose_8 (by decide) ?_
  exact tv_iret dTC_choose_9 rfl rfl rfl rfl

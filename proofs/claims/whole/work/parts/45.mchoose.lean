def tm_why (τ : tcS) (t h g : Nat) : Nat :=
  if ¬ τ.2.2.1 0 (τ.2.1 0 t) = none ∧ ¬ τ.2.2.1 0 (τ.2.1 0 t) = some t then 1
  else if τ.1 3 t < τ.1 10 (τ.2.1 0 t) then 2
  else if tc_fit (τ.1 1 t) (τ.1 0 h) = false then 3
  else if tc_fit (τ.1 2 t) (τ.1 0 g) = false then 4
  else if tm_bl τ t h = true then 0 else 5
theorem tm_why_lt (τ : tcS) (t h g : Nat) : tm_why τ t h g < 6 := by
  unfold tm_why
  repeat' split
  all_goals omega
def tm_lack (τ : tcS) (w t h g : Nat) : Option Nat :=
  if w = 3 then tm_lk (τ.1 1 t) (τ.1 0 h)
  else if w = 4 then tm_lk (τ.1 2 t) (τ.1 0 g)
  else if w = 5 then tm_miss τ t h
  else none
def tm_t1 (τ : tcS) (h : Nat) : tcS := tc_s2 τ 5 (va_up (τ.2.1 5) (τ.2.2.2 4) h)
def tm_t2 (τ : tcS) (h t : Nat) : tcS := tc_s2 (tm_t1 τ h) 6 (va_up (τ.2.1 6) (τ.2.2.2 4) t)
def tm_t3 (τ : tcS) (h t w : Nat) : tcS := tc_s2 (tm_t2 τ h t) 7 (va_up (τ.2.1 7) (τ.2.2.2 4) w)
def tm_tell (τ : tcS) (t h g w : Nat) : tcS := tc_s4 (tc_s3 (tm_t3 τ h t w) 2 (va_up (τ.2.2.1 2) (τ.2.2.2 4) (tm_lack τ w t h g))) 4 (τ.2.2.2 4 + 1)
theorem tm_t3_I {τ : tcS} (hI : tm_I τ) (h t w : Nat) : tm_I (tm_t3 τ h t w) := hI
theorem tm_wants_cg {τ ρ : tcS} (h3 : ρ.2.1 3 = τ.2.1 3) (h4 : ρ.2.1 4 = τ.2.1 4) (hc : ρ.2.2.2 2 = τ.2.2.2 2) (t k : Nat) : tm_wants ρ t k = tm_wants τ t k := by
  refine Bool.eq_iff_iff.mpr ?_
  rw [tm_wants_eq, tm_wants_eq, h3, h4, hc]
theorem tm_there_cg {τ ρ : tcS} (h1 : ρ.1 = τ.1) (h0 : ρ.2.1 0 = τ.2.1 0) (h3 : ρ.2.2.1 3 = τ.2.2.1 3) (hc0 : ρ.2.2.2 0 = τ.2.2.2 0) (hc1 : ρ.2.2.2 1 = τ.2.2.2 1) (k p : Nat) : tm_there ρ k p = tm_there τ k p := by
  refine Bool.eq_iff_iff.mpr ?_
  rw [tm_there_eq, tm_there_eq]
  unfold tm_bl
  rw [h1, h0, h3, hc0, hc1]
theorem tm_miss_cg {τ ρ : tcS} (h1 : ρ.1 = τ.1) (h0 : ρ.2.1 0 = τ.2.1 0) (h3 : ρ.2.1 3 = τ.2.1 3) (h4 : ρ.2.1 4 = τ.2.1 4) (h5 : ρ.2.2.1 3 = τ.2.2.1 3) (hc0 : ρ.2.2.2 0 = τ.2.2.2 0) (hc1 : ρ.2.2.2 1 = τ.2.2.2 1) (hc2 : ρ.2.2.2 2 = τ.2.2.2 2) (t p : Nat) : tm_miss ρ t p = tm_miss τ t p := by
  unfold tm_miss
  have e : (fun k => tm_wants ρ t k && !tm_there ρ k p) = (fun k => tm_wants τ t k && !tm_there τ k p) := by
    funext k
    rw [tm_wants_cg h3 h4 hc2, tm_there_cg h1 h0 h5 hc0 hc1]
  rw [e]
theorem tm_miss_t3 (τ : tcS) (h t w u p : Nat) : tm_miss (tm_t3 τ h t w) u p = tm_miss τ u p := tm_miss_cg (τ := τ) (ρ := tm_t3 τ h t w) rfl rfl rfl rfl rfl rfl rfl rfl u p
set_option maxHeartbeats 4000000 in
set_option maxRecDepth 100000 in
theorem mm_why (τ : tcS) (hI : tm_I τ) {t h g : Nat} (ht : t < τ.2.2.2 1) (hh0 : h < τ.2.2.2 0) (hg0 : g < τ.2.2.2 0) : tc_M yMO_why cMO_why 4 (some .int) 2 [.inr (some 0), .inl (nI t), .inl (nI h), .inl (nI g)] (tm_h τ, some (.inl (nI (tm_why τ t h g))), tm_h τ, 0, 0) := by
  obtain ⟨iP, iT, iN, iA, iR, iK, iO, iQ, iF, iB, iW⟩ := id hI
  have hk := iK t ht
  refine tc_met (by decide) (Nat.le_of_ble_eq_true rfl) (Nat.le_of_eq tm_len) rfl ?_
  refine tv_aload_n dMO_why_0 rfl rfl ?_
  refine gMO_40 rfl dMO_why_1 ?_
  refine tv_aload_n dMO_why_4 rfl rfl ?_
  refine gMO_13 rfl dMO_why_5 ?_
  refine tv_iload_n dMO_why_8 rfl rfl ?_
  refine ldM_2 dMO_why_9 (by omega) ?_
  refine ldM_11 dMO_why_10 hk ?_
  refine tv_iconst (v := -1) dMO_why_11 (by decide) ?_
  refine tv_icmp_eq (tgt := 32) dMO_why_12 (by decide) (fun c12 => ?_) (fun c12 => ?_)
  · have d32 : ¬ (¬ τ.2.2.1 0 (τ.2.1 0 t) = none ∧ ¬ τ.2.2.1 0 (τ.2.1 0 t) = some t) := fun q => q.1 ((tc_oI_m1 (o := τ.2.2.1 0 (τ.2.1 0 t)) (fun a q => by have := iF _ _ q; omega)).mp c12)
    refine tv_aload_n dMO_why_32 rfl rfl ?_
    refine gMO_22 rfl dMO_why_33 ?_
    refine tv_iload_n dMO_why_36 rfl rfl ?_
    refine ldM_5 dMO_why_37 (by omega) ?_
    refine tv_aload_n dMO_why_38 rfl rfl ?_
    refine gMO_37 rfl dMO_why_39 ?_
    refine tv_aload_n dMO_why_42 rfl rfl ?_
    refine gMO_13 rfl dMO_why_43 ?_
    refine tv_iload_n dMO_why_46 rfl rfl ?_
    refine ldM_2 dMO_why_47 (by omega) ?_
    refine ldM_10 dMO_why_48 hk ?_
    refine tv_icmp_ge (tgt := 54) dMO_why_49 (by decide) (fun c49 => ?_) (fun c49 => ?_)
    · have d47 : ¬ τ.1 3 t < τ.1 10 (τ.2.1 0 t) := fun q => by rw [Int32.lt_iff_toInt_lt] at q; rw [Int32.le_iff_toInt_le] at c49; omega
      refine tv_aload_n dMO_why_54 rfl rfl ?_
      refine tv_iload_n dMO_why_55 rfl rfl ?_
      refine tv_iload_n dMO_why_56 rfl rfl ?_
      refine tv_callV2r kMO_112 (by decide) (Nat.le_of_ble_eq_true rfl) ⟨rfl, rfl⟩ rfl (mm_runsOn τ (by omega) (by omega)) ⟨Nat.zero_le _, Nat.zero_le _⟩ dMO_why_57 ?_
      refine tv_if_ne (tgt := 65) dMO_why_60 (by decide) (fun c60 => ?_) (fun c60 => ?_)
      · have d62 := tc_b2_n.mp c60
        refine tv_aload_n dMO_why_65 rfl rfl ?_
        refine tv_iload_n dMO_why_66 rfl rfl ?_
        refine tv_iload_n dMO_why_67 rfl rfl ?_
        refine tv_callV2r kMO_103 (by decide) (Nat.le_of_ble_eq_true rfl) ⟨rfl, rfl⟩ rfl (mm_makesFor τ (by omega) (by omega)) ⟨Nat.zero_le _, Nat.zero_le _⟩ dMO_why_68 ?_
        refine tv_if_ne (tgt := 76) dMO_why_71 (by decide) (fun c71 => ?_) (fun c71 => ?_)
        · have d77 := tc_b2_n.mp c71
          refine tv_aload_n dMO_why_76 rfl rfl ?_
          refine gMO_50 rfl dMO_why_77 ?_
          refine tv_iload_n dMO_why_80 rfl rfl ?_
          refine tv_iload_n dMO_why_81 rfl rfl ?_
          refine tv_callS2r kMO_106 (by decide) (Nat.le_of_ble_eq_true rfl) ⟨rfl, rfl⟩ (mm_at (tm_h τ) t h) ⟨Nat.zero_le _, Nat.zero_le _⟩ dMO_why_82 ?_
          refine ldM_14 dMO_why_85 (by omega) ?_
          refine tv_if_eq (tgt := 93) dMO_why_86 (by decide) (fun c86 => ?_) (fun c86 => ?_)
          · have d86 : tm_bl τ t h = false := tc_b2_0.mp c86
            have hr : (some (Sum.inl (nI (tm_why τ t h g))) : Option tcV) = some (Sum.inl 5) := by
              unfold tm_why
              rw [if_neg d32, if_neg d47, if_neg (by rw [d62]; simp), if_neg (by rw [d77]; simp), if_neg (by rw [d86]; simp)]
              rfl
            refine tv_iconst (v := 5) dMO_why_93 (by decide) ?_
            exact tv_iret dMO_why_94 rfl rfl hr rfl
          · have d86 : tm_bl τ t h = true := tc_b2_n.mp c86
            have hr : (some (Sum.inl (nI (tm_why τ t h g))) : Option tcV) = some (Sum.inl 0) := by
              unfold tm_why
              rw [if_neg d32, if_neg d47, if_neg (by rw [d62]; simp), if_neg (by rw [d77]; simp), if_pos d86]
              rfl
            refine tv_iconst (v := 0) dMO_why_89 (by decide) ?_
            refine tv_goto (tgt := 94) dMO_why_90 (by decide) ?_
            exact tv_iret dMO_why_94 rfl rfl hr rfl
        · have hr : (some (Sum.inl (nI (tm_why τ t h g))) : Option tcV) = some (Sum.inl 4) := by
            unfold tm_why
            rw [if_neg d32, if_neg d47, if_neg (by rw [d62]; simp), if_pos (tc_b2_0.mp c71)]
            rfl
          refine tv_iconst (v := 4) dMO_why_74 (by decide) ?_
          exact tv_iret dMO_why_75 rfl rfl hr rfl
      · have hr : (some (Sum.inl (nI (tm_why τ t h g))) : Option tcV) = some (Sum.inl 3) := by
          unfold tm_why
          rw [if_neg d32, if_neg d47, if_pos (tc_b2_0.mp c60)]
          rfl
        refine tv_iconst (v := 3) dMO_why_63 (by decide) ?_
        exact tv_iret dMO_why_64 rfl rfl hr rfl
    · have d47 : τ.1 3 t < τ.1 10 (τ.2.1 0 t) := by rw [Int32.lt_iff_toInt_lt]; rw [Int32.le_iff_toInt_le] at c49; omega
      have hr : (some (Sum.inl (nI (tm_why τ t h g))) : Option tcV) = some (Sum.inl 2) := by
        unfold tm_why
        rw [if_neg d32, if_pos d47]
        rfl
      refine tv_iconst (v := 2) dMO_why_52 (by decide) ?_
      exact tv_iret dMO_why_53 rfl rfl hr rfl
  · have d16 : ¬ τ.2.2.1 0 (τ.2.1 0 t) = none := fun q => c12 ((tc_oI_m1 (o := τ.2.2.1 0 (τ.2.1 0 t)) (fun a q => by have := iF _ _ q; omega)).mpr q)
    refine tv_aload_n dMO_why_15 rfl rfl ?_
    refine gMO_40 rfl dMO_why_16 ?_
    refine tv_aload_n dMO_why_19 rfl rfl ?_
    refine gMO_13 rfl dMO_why_20 ?_
    refine tv_iload_n dMO_why_23 rfl rfl ?_
    refine ldM_2 dMO_why_24 (by omega) ?_
    refine ldM_11 dMO_why_25 hk ?_
    refine tv_iload_n dMO_why_26 rfl rfl ?_
    refine tv_icmp_eq (tgt := 32) dMO_why_27 (by decide) (fun c27 => ?_) (fun c27 => ?_)
    · have d32 : ¬ (¬ τ.2.2.1 0 (τ.2.1 0 t) = none ∧ ¬ τ.2.2.1 0 (τ.2.1 0 t) = some t) := fun q => q.2 ((tc_oI_some (o := τ.2.2.1 0 (τ.2.1 0 t)) (fun a q => by have := iF _ _ q; omega) (by omega)).mp c27)
      refine tv_aload_n dMO_why_32 rfl rfl ?_
      refine gMO_22 rfl dMO_why_33 ?_
      refine tv_iload_n dMO_why_36 rfl rfl ?_
      refine ldM_5 dMO_why_37 (by omega) ?_
      refine tv_aload_n dMO_why_38 rfl rfl ?_
      refine gMO_37 rfl dMO_why_39 ?_
      refine tv_aload_n dMO_why_42 rfl rfl ?_
      refine gMO_13 rfl dMO_why_43 ?_
      refine tv_iload_n dMO_why_46 rfl rfl ?_
      refine ldM_2 dMO_why_47 (by omega) ?_
      refine ldM_10 dMO_why_48 hk ?_
      refine tv_icmp_ge (tgt := 54) dMO_why_49 (by decide) (fun c49 => ?_) (fun c49 => ?_)
      · have d47 : ¬ τ.1 3 t < τ.1 10 (τ.2.1 0 t) := fun q => by rw [Int32.lt_iff_toInt_lt] at q; rw [Int32.le_iff_toInt_le] at c49; omega
        refine tv_aload_n dMO_why_54 rfl rfl ?_
        refine tv_iload_n dMO_why_55 rfl rfl ?_
        refine tv_iload_n dMO_why_56 rfl rfl ?_
        refine tv_callV2r kMO_112 (by decide) (Nat.le_of_ble_eq_true rfl) ⟨rfl, rfl⟩ rfl (mm_runsOn τ (by omega) (by omega)) ⟨Nat.zero_le _, Nat.zero_le _⟩ dMO_why_57 ?_
        refine tv_if_ne (tgt := 65) dMO_why_60 (by decide) (fun c60 => ?_) (fun c60 => ?_)
        · have d62 := tc_b2_n.mp c60
          refine tv_aload_n dMO_why_65 rfl rfl ?_
          refine tv_iload_n dMO_why_66 rfl rfl ?_
          refine tv_iload_n dMO_why_67 rfl rfl ?_
          refine tv_callV2r kMO_103 (by decide) (Nat.le_of_ble_eq_true rfl) ⟨rfl, rfl⟩ rfl (mm_makesFor τ (by omega) (by omega)) ⟨Nat.zero_le _, Nat.zero_le _⟩ dMO_why_68 ?_
          refine tv_if_ne (tgt := 76) dMO_why_71 (by decide) (fun c71 => ?_) (fun c71 => ?_)
          · have d77 := tc_b2_n.mp c71
            refine tv_aload_n dMO_why_76 rfl rfl ?_
            refine gMO_50 rfl dMO_why_77 ?_
            refine tv_iload_n dMO_why_80 rfl rfl ?_
            refine tv_iload_n dMO_why_81 rfl rfl ?_
            refine tv_callS2r kMO_106 (by decide) (Nat.le_of_ble_eq_true rfl) ⟨rfl, rfl⟩ (mm_at (tm_h τ) t h) ⟨Nat.zero_le _, Nat.zero_le _⟩ dMO_why_82 ?_
            refine ldM_14 dMO_why_85 (by omega) ?_
            refine tv_if_eq (tgt := 93) dMO_why_86 (by decide) (fun c86 => ?_) (fun c86 => ?_)
            · have d86 : tm_bl τ t h = false := tc_b2_0.mp c86
              have hr : (some (Sum.inl (nI (tm_why τ t h g))) : Option tcV) = some (Sum.inl 5) := by
                unfold tm_why
                rw [if_neg d32, if_neg d47, if_neg (by rw [d62]; simp), if_neg (by rw [d77]; simp), if_neg (by rw [d86]; simp)]
                rfl
              refine tv_iconst (v := 5) dMO_why_93 (by decide) ?_
              exact tv_iret dMO_why_94 rfl rfl hr rfl
            · have d86 : tm_bl τ t h = true := tc_b2_n.mp c86
              have hr : (some (Sum.inl (nI (tm_why τ t h g))) : Option tcV) = some (Sum.inl 0) := by
                unfold tm_why
                rw [if_neg d32, if_neg d47, if_neg (by rw [d62]; simp), if_neg (by rw [d77]; simp), if_pos d86]
                rfl
              refine tv_iconst (v := 0) dMO_why_89 (by decide) ?_
              refine tv_goto (tgt := 94) dMO_why_90 (by decide) ?_
              exact tv_iret dMO_why_94 rfl rfl hr rfl
          · have hr : (some (Sum.inl (nI (tm_why τ t h g))) : Option tcV) = some (Sum.inl 4) := by
              unfold tm_why
              rw [if_neg d32, if_neg d47, if_neg (by rw [d62]; simp), if_pos (tc_b2_0.mp c71)]
              rfl
            refine tv_iconst (v := 4) dMO_why_74 (by decide) ?_
            exact tv_iret dMO_why_75 rfl rfl hr rfl
        · have hr : (some (Sum.inl (nI (tm_why τ t h g))) : Option tcV) = some (Sum.inl 3) := by
            unfold tm_why
            rw [if_neg d32, if_neg d47, if_pos (tc_b2_0.mp c60)]
            rfl
          refine tv_iconst (v := 3) dMO_why_63 (by decide) ?_
          exact tv_iret dMO_why_64 rfl rfl hr rfl
      · have d47 : τ.1 3 t < τ.1 10 (τ.2.1 0 t) := by rw [Int32.lt_iff_toInt_lt]; rw [Int32.le_iff_toInt_le] at c49; omega
        have hr : (some (Sum.inl (nI (tm_why τ t h g))) : Option tcV) = some (Sum.inl 2) := by
          unfold tm_why
          rw [if_neg d32, if_pos d47]
          rfl
        refine tv_iconst (v := 2) dMO_why_52 (by decide) ?_
        exact tv_iret dMO_why_53 rfl rfl hr rfl
    · have d27 : ¬ τ.2.2.1 0 (τ.2.1 0 t) = some t := fun q => c27 ((tc_oI_some (o := τ.2.2.1 0 (τ.2.1 0 t)) (fun a q => by have := iF _ _ q; omega) (by omega)).mpr q)
      have hr : (some (Sum.inl (nI (tm_why τ t h g))) : Option tcV) = some (Sum.inl 1) := by
        unfold tm_why
        rw [if_pos ⟨d16, d27⟩]
        rfl
      refine tv_iconst (v := 1) dMO_why_30 (by decide) ?_
      exact tv_iret dMO_why_31 rfl rfl hr rfl
set_option maxHeartbeats 4000000 in
set_option maxRecDepth 100000 in
theorem mm_tell (τ : tcS) (hI : tm_I τ) {t h g : Nat} (ht : t < τ.2.2.2 1) (hh0 : h < τ.2.2.2 0) (hg0 : g < τ.2.2.2 0) (w : Nat) (hw : w < 6) (hR : τ.2.2.2 4 < 200) : tc_M yMO_tell cMO_tell 5 none 4 [.inr (some 0), .inl (nI t), .inl (nI h), .inl (nI g), .inl (nI w)] (tm_h τ, none, tm_h (tm_tell τ t h g w), 0, 0) := by
  obtain ⟨iP, iT, iN, iA, iR, iK, iO, iQ, iF, iB, iW⟩ := id hI
  rcases (show w = 0 ∨ w = 1 ∨ w = 2 ∨ w = 3 ∨ w = 4 ∨ w = 5 by omega) with rfl | rfl | rfl | rfl | rfl | rfl
  · refine tc_met (by decide) (Nat.le_of_ble_eq_true rfl) (Nat.le_of_eq tm_len) rfl ?_
    refine tv_aload_n dMO_tell_0 rfl rfl ?_
    refine gMO_56 rfl dMO_tell_1 ?_
    refine tv_aload_n dMO_tell_4 rfl rfl ?_
    refine gMO_124 rfl dMO_tell_5 ?_
    refine tv_iload_n dMO_tell_8 rfl rfl ?_
    refine stM_16 dMO_tell_9 hR ?_
    refine tv_eq (h' := tm_h (tm_t1 τ h)) ?_ rfl rfl rfl
    refine tv_aload_n dMO_tell_10 rfl rfl ?_
    refine gMO_59 rfl dMO_tell_11 ?_
    refine tv_aload_n dMO_tell_14 rfl rfl ?_
    refine gMO_124 rfl dMO_tell_15 ?_
    refine tv_top (b := .inl (nI (τ.2.2.2 4))) rfl ?_
    refine tv_iload_n dMO_tell_18 rfl rfl ?_
    refine stM_17 dMO_tell_19 hR ?_
    refine tv_eq (h' := tm_h (tm_t2 τ h t)) ?_ rfl rfl rfl
    refine tv_aload_n dMO_tell_20 rfl rfl ?_
    refine gMO_62 rfl dMO_tell_21 ?_
    refine tv_aload_n dMO_tell_24 rfl rfl ?_
    refine gMO_124 rfl dMO_tell_25 ?_
    refine tv_top (b := .inl (nI (τ.2.2.2 4))) rfl ?_
    refine tv_iload dMO_tell_28 rfl ?_
    refine stM_18 dMO_tell_30 hR ?_
    refine tv_eq (h' := tm_h (tm_t3 τ h t 0)) ?_ rfl rfl rfl
    refine tv_aload_n dMO_tell_31 rfl rfl ?_
    refine gMO_65 rfl dMO_tell_32 ?_
    refine tv_aload_n dMO_tell_35 rfl rfl ?_
    refine gMO_124 rfl dMO_tell_36 ?_
    refine tv_top (b := .inl (nI (τ.2.2.2 4))) rfl ?_
    refine tv_iload dMO_tell_39 rfl ?_
    refine tv_iconst (v := 3) dMO_tell_41 (by decide) ?_
    refine tv_icmp_ne (tgt := 59) dMO_tell_42 (by decide) (fun c42 => ?_) (fun c42 => absurd c42 (by decide))
    refine tv_iload dMO_tell_59 rfl ?_
    refine tv_iconst (v := 4) dMO_tell_61 (by decide) ?_
    refine tv_icmp_ne (tgt := 79) dMO_tell_62 (by decide) (fun c62 => ?_) (fun c62 => absurd c62 (by decide))
    refine tv_iload dMO_tell_79 rfl ?_
    refine tv_iconst (v := 5) dMO_tell_81 (by decide) ?_
    refine tv_icmp_ne (tgt := 94) dMO_tell_82 (by decide) (fun c82 => ?_) (fun c82 => absurd c82 (by decide))
    refine tv_iconst (v := -1) dMO_tell_94 (by decide) ?_
    refine tv_top (b := .inl (tc_oI (tm_lack τ 0 t h g))) rfl ?_
    refine stM_19 (tm_lack τ 0 t h g) dMO_tell_95 hR ?_
    refine tv_eq (h' := tm_h (tc_s3 (tm_t3 τ h t 0) 2 (va_up (τ.2.2.1 2) (τ.2.2.2 4) (tm_lack τ 0 t h g)))) ?_ rfl rfl rfl
    refine tv_aload_n dMO_tell_96 rfl rfl ?_
    refine tv_dup dMO_tell_97 ?_
    refine gMO_124 rfl dMO_tell_98 ?_
    refine tv_top (b := .inl (nI (τ.2.2.2 4))) rfl ?_
    refine tv_iconst (v := 1) dMO_tell_101 (by decide) ?_
    refine tv_iadd dMO_tell_102 ?_
    refine tv_top (b := .inl (nI (τ.2.2.2 4 + 1))) (congrArg Sum.inl (nI_1 _)) ?_
    refine pMO_124 rfl dMO_tell_103 ?_
    exact tv_vret dMO_tell_106 rfl rfl rfl
  · refine tc_met (by decide) (Nat.le_of_ble_eq_true rfl) (Nat.le_of_eq tm_len) rfl ?_
    refine tv_aload_n dMO_tell_0 rfl rfl ?_
    refine gMO_56 rfl dMO_tell_1 ?_
    refine tv_aload_n dMO_tell_4 rfl rfl ?_
    refine gMO_124 rfl dMO_tell_5 ?_
    refine tv_iload_n dMO_tell_8 rfl rfl ?_
    refine stM_16 dMO_tell_9 hR ?_
    refine tv_eq (h' := tm_h (tm_t1 τ h)) ?_ rfl rfl rfl
    refine tv_aload_n dMO_tell_10 rfl rfl ?_
    refine gMO_59 rfl dMO_tell_11 ?_
    refine tv_aload_n dMO_tell_14 rfl rfl ?_
    refine gMO_124 rfl dMO_tell_15 ?_
    refine tv_top (b := .inl (nI (τ.2.2.2 4))) rfl ?_
    refine tv_iload_n dMO_tell_18 rfl rfl ?_
    refine stM_17 dMO_tell_19 hR ?_
    refine tv_eq (h' := tm_h (tm_t2 τ h t)) ?_ rfl rfl rfl
    refine tv_aload_n dMO_tell_20 rfl rfl ?_
    refine gMO_62 rfl dMO_tell_21 ?_
    refine tv_aload_n dMO_tell_24 rfl rfl ?_
    refine gMO_124 rfl dMO_tell_25 ?_
    refine tv_top (b := .inl (nI (τ.2.2.2 4))) rfl ?_
    refine tv_iload dMO_tell_28 rfl ?_
    refine stM_18 dMO_tell_30 hR ?_
    refine tv_eq (h' := tm_h (tm_t3 τ h t 1)) ?_ rfl rfl rfl
    refine tv_aload_n dMO_tell_31 rfl rfl ?_
    refine gMO_65 rfl dMO_tell_32 ?_
    refine tv_aload_n dMO_tell_35 rfl rfl ?_
    refine gMO_124 rfl dMO_tell_36 ?_
    refine tv_top (b := .inl (nI (τ.2.2.2 4))) rfl ?_
    refine tv_iload dMO_tell_39 rfl ?_
    refine tv_iconst (v := 3) dMO_tell_41 (by decide) ?_
    refine tv_icmp_ne (tgt := 59) dMO_tell_42 (by decide) (fun c42 => ?_) (fun c42 => absurd c42 (by decide))
    refine tv_iload dMO_tell_59 rfl ?_
    refine tv_iconst (v := 4) dMO_tell_61 (by decide) ?_
    refine tv_icmp_ne (tgt := 79) dMO_tell_62 (by decide) (fun c62 => ?_) (fun c62 => absurd c62 (by decide))
    refine tv_iload dMO_tell_79 rfl ?_
    refine tv_iconst (v := 5) dMO_tell_81 (by decide) ?_
    refine tv_icmp_ne (tgt := 94) dMO_tell_82 (by decide) (fun c82 => ?_) (fun c82 => absurd c82 (by decide))
    refine tv_iconst (v := -1) dMO_tell_94 (by decide) ?_
    refine tv_top (b := .inl (tc_oI (tm_lack τ 1 t h g))) rfl ?_
    refine stM_19 (tm_lack τ 1 t h g) dMO_tell_95 hR ?_
    refine tv_eq (h' := tm_h (tc_s3 (tm_t3 τ h t 1) 2 (va_up (τ.2.2.1 2) (τ.2.2.2 4) (tm_lack τ 1 t h g)))) ?_ rfl rfl rfl
    refine tv_aload_n dMO_tell_96 rfl rfl ?_
    refine tv_dup dMO_tell_97 ?_
    refine gMO_124 rfl dMO_tell_98 ?_
    refine tv_top (b := .inl (nI (τ.2.2.2 4))) rfl ?_
    refine tv_iconst (v := 1) dMO_tell_101 (by decide) ?_
    refine tv_iadd dMO_tell_102 ?_
    refine tv_top (b := .inl (nI (τ.2.2.2 4 + 1))) (congrArg Sum.inl (nI_1 _)) ?_
    refine pMO_124 rfl dMO_tell_103 ?_
    exact tv_vret dMO_tell_106 rfl rfl rfl
  · refine tc_met (by decide) (Nat.le_of_ble_eq_true rfl) (Nat.le_of_eq tm_len) rfl ?_
    refine tv_aload_n dMO_tell_0 rfl rfl ?_
    refine gMO_56 rfl dMO_tell_1 ?_
    refine tv_aload_n dMO_tell_4 rfl rfl ?_
    refine gMO_124 rfl dMO_tell_5 ?_
    refine tv_iload_n dMO_tell_8 rfl rfl ?_
    refine stM_16 dMO_tell_9 hR ?_
    refine tv_eq (h' := tm_h (tm_t1 τ h)) ?_ rfl rfl rfl
    refine tv_aload_n dMO_tell_10 rfl rfl ?_
    refine gMO_59 rfl dMO_tell_11 ?_
    refine tv_aload_n dMO_tell_14 rfl rfl ?_
    refine gMO_124 rfl dMO_tell_15 ?_
    refine tv_top (b := .inl (nI (τ.2.2.2 4))) rfl ?_
    refine tv_iload_n dMO_tell_18 rfl rfl ?_
    refine stM_17 dMO_tell_19 hR ?_
    refine tv_eq (h' := tm_h (tm_t2 τ h t)) ?_ rfl rfl rfl
    refine tv_aload_n dMO_tell_20 rfl rfl ?_
    refine gMO_62 rfl dMO_tell_21 ?_
    refine tv_aload_n dMO_tell_24 rfl rfl ?_
    refine gMO_124 rfl dMO_tell_25 ?_
    refine tv_top (b := .inl (nI (τ.2.2.2 4))) rfl ?_
    refine tv_iload dMO_tell_28 rfl ?_
    refine stM_18 dMO_tell_30 hR ?_
    refine tv_eq (h' := tm_h (tm_t3 τ h t 2)) ?_ rfl rfl rfl
    refine tv_aload_n dMO_tell_31 rfl rfl ?_
    refine gMO_65 rfl dMO_tell_32 ?_
    refine tv_aload_n dMO_tell_35 rfl rfl ?_
    refine gMO_124 rfl dMO_tell_36 ?_
    refine tv_top (b := .inl (nI (τ.2.2.2 4))) rfl ?_
    refine tv_iload dMO_tell_39 rfl ?_
    refine tv_iconst (v := 3) dMO_tell_41 (by decide) ?_
    refine tv_icmp_ne (tgt := 59) dMO_tell_42 (by decide) (fun c42 => ?_) (fun c42 => absurd c42 (by decide))
    refine tv_iload dMO_tell_59 rfl ?_
    refine tv_iconst (v := 4) dMO_tell_61 (by decide) ?_
    refine tv_icmp_ne (tgt := 79) dMO_tell_62 (by decide) (fun c62 => ?_) (fun c62 => absurd c62 (by decide))
    refine tv_iload dMO_tell_79 rfl ?_
    refine tv_iconst (v := 5) dMO_tell_81 (by decide) ?_
    refine tv_icmp_ne (tgt := 94) dMO_tell_82 (by decide) (fun c82 => ?_) (fun c82 => absurd c82 (by decide))
    refine tv_iconst (v := -1) dMO_tell_94 (by decide) ?_
    refine tv_top (b := .inl (tc_oI (tm_lack τ 2 t h g))) rfl ?_
    refine stM_19 (tm_lack τ 2 t h g) dMO_tell_95 hR ?_
    refine tv_eq (h' := tm_h (tc_s3 (tm_t3 τ h t 2) 2 (va_up (τ.2.2.1 2) (τ.2.2.2 4) (tm_lack τ 2 t h g)))) ?_ rfl rfl rfl
    refine tv_aload_n dMO_tell_96 rfl rfl ?_
    refine tv_dup dMO_tell_97 ?_
    refine gMO_124 rfl dMO_tell_98 ?_
    refine tv_top (b := .inl (nI (τ.2.2.2 4))) rfl ?_
    refine tv_iconst (v := 1) dMO_tell_101 (by decide) ?_
    refine tv_iadd dMO_tell_102 ?_
    refine tv_top (b := .inl (nI (τ.2.2.2 4 + 1))) (congrArg Sum.inl (nI_1 _)) ?_
    refine pMO_124 rfl dMO_tell_103 ?_
    exact tv_vret dMO_tell_106 rfl rfl rfl
  · refine tc_met (by decide) (Nat.le_of_ble_eq_true rfl) (Nat.le_of_eq tm_len) rfl ?_
    refine tv_aload_n dMO_tell_0 rfl rfl ?_
    refine gMO_56 rfl dMO_tell_1 ?_
    refine tv_aload_n dMO_tell_4 rfl rfl ?_
    refine gMO_124 rfl dMO_tell_5 ?_
    refine tv_iload_n dMO_tell_8 rfl rfl ?_
    refine stM_16 dMO_tell_9 hR ?_
    refine tv_eq (h' := tm_h (tm_t1 τ h)) ?_ rfl rfl rfl
    refine tv_aload_n dMO_tell_10 rfl rfl ?_
    refine gMO_59 rfl dMO_tell_11 ?_
    refine tv_aload_n dMO_tell_14 rfl rfl ?_
    refine gMO_124 rfl dMO_tell_15 ?_
    refine tv_top (b := .inl (nI (τ.2.2.2 4))) rfl ?_
    refine tv_iload_n dMO_tell_18 rfl rfl ?_
    refine stM_17 dMO_tell_19 hR ?_
    refine tv_eq (h' := tm_h (tm_t2 τ h t)) ?_ rfl rfl rfl
    refine tv_aload_n dMO_tell_20 rfl rfl ?_
    refine gMO_62 rfl dMO_tell_21 ?_
    refine tv_aload_n dMO_tell_24 rfl rfl ?_
    refine gMO_124 rfl dMO_tell_25 ?_
    refine tv_top (b := .inl (nI (τ.2.2.2 4))) rfl ?_
    refine tv_iload dMO_tell_28 rfl ?_
    refine stM_18 dMO_tell_30 hR ?_
    refine tv_eq (h' := tm_h (tm_t3 τ h t 3)) ?_ rfl rfl rfl
    refine tv_aload_n dMO_tell_31 rfl rfl ?_
    refine gMO_65 rfl dMO_tell_32 ?_
    refine tv_aload_n dMO_tell_35 rfl rfl ?_
    refine gMO_124 rfl dMO_tell_36 ?_
    refine tv_top (b := .inl (nI (τ.2.2.2 4))) rfl ?_
    refine tv_iload dMO_tell_39 rfl ?_
    refine tv_iconst (v := 3) dMO_tell_41 (by decide) ?_
    refine tv_icmp_ne (tgt := 59) dMO_tell_42 (by decide) (fun c42 => absurd rfl c42) (fun c42 => ?_)
    refine tv_aload_n dMO_tell_45 rfl rfl ?_
    refine tv_aload_n dMO_tell_46 rfl rfl ?_
    refine gMO_16 rfl dMO_tell_47 ?_
    refine tv_iload_n dMO_tell_50 rfl rfl ?_
    refine ldM_3 dMO_tell_51 (by omega) ?_
    refine tv_top (b := .inl (τ.1 1 t)) rfl ?_
    refine tv_iload_n dMO_tell_52 rfl rfl ?_
    refine tv_callV2r kMO_99 (by decide) (Nat.le_of_ble_eq_true rfl) ⟨rfl, rfl⟩ rfl (mm_lacking (tm_t3 τ h t 3) (τ.1 1 t) (by omega)) ⟨Nat.zero_le _, Nat.zero_le _⟩ dMO_tell_53 ?_
    refine tv_goto (tgt := 95) dMO_tell_56 (by decide) ?_
    refine tv_top (b := .inl (tc_oI (tm_lack τ 3 t h g))) rfl ?_
    refine stM_19 (tm_lack τ 3 t h g) dMO_tell_95 hR ?_
    refine tv_eq (h' := tm_h (tc_s3 (tm_t3 τ h t 3) 2 (va_up (τ.2.2.1 2) (τ.2.2.2 4) (tm_lack τ 3 t h g)))) ?_ rfl rfl rfl
    refine tv_aload_n dMO_tell_96 rfl rfl ?_
    refine tv_dup dMO_tell_97 ?_
    refine gMO_124 rfl dMO_tell_98 ?_
    refine tv_top (b := .inl (nI (τ.2.2.2 4))) rfl ?_
    refine tv_iconst (v := 1) dMO_tell_101 (by decide) ?_
    refine tv_iadd dMO_tell_102 ?_
    refine tv_top (b := .inl (nI (τ.2.2.2 4 + 1))) (congrArg Sum.inl (nI_1 _)) ?_
    refine pMO_124 rfl dMO_tell_103 ?_
    exact tv_vret dMO_tell_106 rfl rfl rfl
  · refine tc_met (by decide) (Nat.le_of_ble_eq_true rfl) (Nat.le_of_eq tm_len) rfl ?_
    refine tv_aload_n dMO_tell_0 rfl rfl ?_
    refine gMO_56 rfl dMO_tell_1 ?_
    refine tv_aload_n dMO_tell_4 rfl rfl ?_
    refine gMO_124 rfl dMO_tell_5 ?_
    refine tv_iload_n dMO_tell_8 rfl rfl ?_
    refine stM_16 dMO_tell_9 hR ?_
    refine tv_eq (h' := tm_h (tm_t1 τ h)) ?_ rfl rfl rfl
    refine tv_aload_n dMO_tell_10 rfl rfl ?_
    refine gMO_59 rfl dMO_tell_11 ?_
    refine tv_aload_n dMO_tell_14 rfl rfl ?_
    refine gMO_124 rfl dMO_tell_15 ?_
    refine tv_top (b := .inl (nI (τ.2.2.2 4))) rfl ?_
    refine tv_iload_n dMO_tell_18 rfl rfl ?_
    refine stM_17 dMO_tell_19 hR ?_
    refine tv_eq (h' := tm_h (tm_t2 τ h t)) ?_ rfl rfl rfl
    refine tv_aload_n dMO_tell_20 rfl rfl ?_
    refine gMO_62 rfl dMO_tell_21 ?_
    refine tv_aload_n dMO_tell_24 rfl rfl ?_
    refine gMO_124 rfl dMO_tell_25 ?_
    refine tv_top (b := .inl (nI (τ.2.2.2 4))) rfl ?_
    refine tv_iload dMO_tell_28 rfl ?_
    refine stM_18 dMO_tell_30 hR ?_
    refine tv_eq (h' := tm_h (tm_t3 τ h t 4)) ?_ rfl rfl rfl
    refine tv_aload_n dMO_tell_31 rfl rfl ?_
    refine gMO_65 rfl dMO_tell_32 ?_
    refine tv_aload_n dMO_tell_35 rfl rfl ?_
    refine gMO_124 rfl dMO_tell_36 ?_
    refine tv_top (b := .inl (nI (τ.2.2.2 4))) rfl ?_
    refine tv_iload dMO_tell_39 rfl ?_
    refine tv_iconst (v := 3) dMO_tell_41 (by decide) ?_
    refine tv_icmp_ne (tgt := 59) dMO_tell_42 (by decide) (fun c42 => ?_) (fun c42 => absurd c42 (by decide))
    refine tv_iload dMO_tell_59 rfl ?_
    refine tv_iconst (v := 4) dMO_tell_61 (by decide) ?_
    refine tv_icmp_ne (tgt := 79) dMO_tell_62 (by decide) (fun c62 => absurd rfl c62) (fun c62 => ?_)
    refine tv_aload_n dMO_tell_65 rfl rfl ?_
    refine tv_aload_n dMO_tell_66 rfl rfl ?_
    refine gMO_19 rfl dMO_tell_67 ?_
    refine tv_iload_n dMO_tell_70 rfl rfl ?_
    refine ldM_4 dMO_tell_71 (by omega) ?_
    refine tv_top (b := .inl (τ.1 2 t)) rfl ?_
    refine tv_iload_n dMO_tell_72 rfl rfl ?_
    refine tv_callV2r kMO_99 (by decide) (Nat.le_of_ble_eq_true rfl) ⟨rfl, rfl⟩ rfl (mm_lacking (tm_t3 τ h t 4) (τ.1 2 t) (by omega)) ⟨Nat.zero_le _, Nat.zero_le _⟩ dMO_tell_73 ?_
    refine tv_goto (tgt := 95) dMO_tell_76 (by decide) ?_
    refine tv_top (b := .inl (tc_oI (tm_lack τ 4 t h g))) rfl ?_
    refine stM_19 (tm_lack τ 4 t h g) dMO_tell_95 hR ?_
    refine tv_eq (h' := tm_h (tc_s3 (tm_t3 τ h t 4) 2 (va_up (τ.2.2.1 2) (τ.2.2.2 4) (tm_lack τ 4 t h g)))) ?_ rfl rfl rfl
    refine tv_aload_n dMO_tell_96 rfl rfl ?_
    refine tv_dup dMO_tell_97 ?_
    refine gMO_124 rfl dMO_tell_98 ?_
    refine tv_top (b := .inl (nI (τ.2.2.2 4))) rfl ?_
    refine tv_iconst (v := 1) dMO_tell_101 (by decide) ?_
    refine tv_iadd dMO_tell_102 ?_
    refine tv_top (b := .inl (nI (τ.2.2.2 4 + 1))) (congrArg Sum.inl (nI_1 _)) ?_
    refine pMO_124 rfl dMO_tell_103 ?_
    exact tv_vret dMO_tell_106 rfl rfl rfl
  · refine tc_met (by decide) (Nat.le_of_ble_eq_true rfl) (Nat.le_of_eq tm_len) rfl ?_
    refine tv_aload_n dMO_tell_0 rfl rfl ?_
    refine gMO_56 rfl dMO_tell_1 ?_
    refine tv_aload_n dMO_tell_4 rfl rfl ?_
    refine gMO_124 rfl dMO_tell_5 ?_
    refine tv_iload_n dMO_tell_8 rfl rfl ?_
    refine stM_16 dMO_tell_9 hR ?_
    refine tv_eq (h' := tm_h (tm_t1 τ h)) ?_ rfl rfl rfl
    refine tv_aload_n dMO_tell_10 rfl rfl ?_
    refine gMO_59 rfl dMO_tell_11 ?_
    refine tv_aload_n dMO_tell_14 rfl rfl ?_
    refine gMO_124 rfl dMO_tell_15 ?_
    refine tv_top (b := .inl (nI (τ.2.2.2 4))) rfl ?_
    refine tv_iload_n dMO_tell_18 rfl rfl ?_
    refine stM_17 dMO_tell_19 hR ?_
    refine tv_eq (h' := tm_h (tm_t2 τ h t)) ?_ rfl rfl rfl
    refine tv_aload_n dMO_tell_20 rfl rfl ?_
    refine gMO_62 rfl dMO_tell_21 ?_
    refine tv_aload_n dMO_tell_24 rfl rfl ?_
    refine gMO_124 rfl dMO_tell_25 ?_
    refine tv_top (b := .inl (nI (τ.2.2.2 4))) rfl ?_
    refine tv_iload dMO_tell_28 rfl ?_
    refine stM_18 dMO_tell_30 hR ?_
    refine tv_eq (h' := tm_h (tm_t3 τ h t 5)) ?_ rfl rfl rfl
    refine tv_aload_n dMO_tell_31 rfl rfl ?_
    refine gMO_65 rfl dMO_tell_32 ?_
    refine tv_aload_n dMO_tell_35 rfl rfl ?_
    refine gMO_124 rfl dMO_tell_36 ?_
    refine tv_top (b := .inl (nI (τ.2.2.2 4))) rfl ?_
    refine tv_iload dMO_tell_39 rfl ?_
    refine tv_iconst (v := 3) dMO_tell_41 (by decide) ?_
    refine tv_icmp_ne (tgt := 59) dMO_tell_42 (by decide) (fun c42 => ?_) (fun c42 => absurd c42 (by decide))
    refine tv_iload dMO_tell_59 rfl ?_
    refine tv_iconst (v := 4) dMO_tell_61 (by decide) ?_
    refine tv_icmp_ne (tgt := 79) dMO_tell_62 (by decide) (fun c62 => ?_) (fun c62 => absurd c62 (by decide))
    refine tv_iload dMO_tell_79 rfl ?_
    refine tv_iconst (v := 5) dMO_tell_81 (by decide) ?_
    refine tv_icmp_ne (tgt := 94) dMO_tell_82 (by decide) (fun c82 => absurd rfl c82) (fun c82 => ?_)
    refine tv_aload_n dMO_tell_85 rfl rfl ?_
    refine tv_iload_n dMO_tell_86 rfl rfl ?_
    refine tv_iload_n dMO_tell_87 rfl rfl ?_
    refine tv_callV2r kMO_115 (by decide) (Nat.le_of_ble_eq_true rfl) ⟨rfl, rfl⟩ rfl (mm_missing (tm_t3 τ h t 5) (tm_t3_I hI h t 5) (by omega) (by omega)) ⟨Nat.zero_le _, Nat.zero_le _⟩ dMO_tell_88 ?_
    refine tv_goto (tgt := 95) dMO_tell_91 (by decide) ?_
    refine tv_top (b := .inl (tc_oI (tm_lack τ 5 t h g))) (congrArg (fun o => (Sum.inl (tc_oI o) : tcV)) (tm_miss_t3 τ h t 5 t h)) ?_
    refine stM_19 (tm_lack τ 5 t h g) dMO_tell_95 hR ?_
    refine tv_eq (h' := tm_h (tc_s3 (tm_t3 τ h t 5) 2 (va_up (τ.2.2.1 2) (τ.2.2.2 4) (tm_lack τ 5 t h g)))) ?_ rfl rfl rfl
    refine tv_aload_n dMO_tell_96 rfl rfl ?_
    refine tv_dup dMO_tell_97 ?_
    refine gMO_124 rfl dMO_tell_98 ?_
    refine tv_top (b := .inl (nI (τ.2.2.2 4))) rfl ?_
    refine tv_iconst (v := 1) dMO_tell_101 (by decide) ?_
    refine tv_iadd dMO_tell_102 ?_
    refine tv_top (b := .inl (nI (τ.2.2.2 4 + 1))) (congrArg Sum.inl (nI_1 _)) ?_
    refine pMO_124 rfl dMO_tell_103 ?_
    exact tv_vret dMO_tell_106 rfl rfl rfl
theorem tm_tell_I {τ : tcS} (hI : tm_I τ) (t h g w : Nat) (hR : τ.2.2.2 4 < 200) : tm_I (tm_tell τ t h g w) := by
  obtain ⟨iP, iT, iN, iA, iR, iK, iO, iQ, iF, iB, iW⟩ := hI
  exact ⟨iP, iT, iN, iA, by show τ.2.2.2 4 + 1 ≤ 200; omega, iK, iO, iQ, iF, iB, iW⟩
/-- what the rows leave as it was -/
def tm_sr (τ ρ : tcS) : Prop := ρ.1 = τ.1 ∧ (∀ k, k < 5 → ρ.2.1 k = τ.2.1 k) ∧ (∀ k, k ≠ 2 → ρ.2.2.1 k = τ.2.2.1 k) ∧ (∀ k, k < 4 → ρ.2.2.2 k = τ.2.2.2 k)
theorem tm_sr.rf {τ : tcS} : tm_sr τ τ := ⟨rfl, fun _ _ => rfl, fun _ _ => rfl, fun _ _ => rfl⟩
theorem tm_sr.tr {τ ρ κ : tcS} (h : tm_sr τ ρ) (k : tm_sr ρ κ) : tm_sr τ κ := ⟨k.1.trans h.1, fun j hj => (k.2.1 j hj).trans (h.2.1 j hj), fun j hj => (k.2.2.1 j hj).trans (h.2.2.1 j hj), fun j hj => (k.2.2.2 j hj).trans (h.2.2.2 j hj)⟩
theorem tm_tell_sr (τ : tcS) (t h g w : Nat) : tm_sr τ (tm_tell τ t h g w) := by
  refine ⟨rfl, fun k hk => ?_, fun k hk => ?_, fun k hk => ?_⟩
  · show va_up (va_up (va_up τ.2.1 5 _) 6 _) 7 _ k = _
    simp [va_up, show k ≠ 5 by omega, show k ≠ 6 by omega, show k ≠ 7 by omega]
  · show va_up τ.2.2.1 2 _ k = _
    simp [va_up, hk]
  · show va_up τ.2.2.2 4 _ k = _
    simp [va_up, show k ≠ 4 by omega]
/-- how many of n places from i on have tools of kind k -/
def tm_cn (kd od : Nat → Nat) (k : Nat) : Nat → Nat → Nat
  | 0, _ => 0
  | n + 1, i => (if kd (od i) = k then 1 else 0) + tm_cn kd od k n (i + 1)
def tm_fg (k h g : Nat) : Nat → Nat → tcS → Option Nat × tcS
  | 0, _, τ => (none, τ)
  | n + 1, i, τ => if τ.2.1 0 (τ.2.1 1 i) = k then
      (if tm_why τ (τ.2.1 1 i) h g = 0 then (some (τ.2.1 1 i), tm_tell τ (τ.2.1 1 i) h g (tm_why τ (τ.2.1 1 i) h g))
       else tm_fg k h g n (i + 1) (tm_tell τ (τ.2.1 1 i) h g (tm_why τ (τ.2.1 1 i) h g)))
    else tm_fg k h g n (i + 1) τ
theorem tm_fg_k {k h g : Nat} : ∀ (n i : Nat) {τ : tcS}, tm_I τ → τ.2.2.2 4 + tm_cn (τ.2.1 0) (τ.2.1 1) k n i ≤ 200 → tm_I (tm_fg k h g n i τ).2 ∧ tm_sr τ (tm_fg k h g n i τ).2 ∧ (tm_fg k h g n i τ).2.2.2.2 4 ≤ τ.2.2.2 4 + tm_cn (τ.2.1 0) (τ.2.1 1) k n i
  | 0, _, _, hI, _ => ⟨hI, tm_sr.rf, Nat.le_add_right _ _⟩
  | n + 1, i, τ, hI, hn => by
    unfold tm_fg
    unfold tm_cn at hn ⊢
    split
    · rename_i hk
      rw [if_pos hk] at hn
      have hs := tm_tell_sr τ (τ.2.1 1 i) h g (tm_why τ (τ.2.1 1 i) h g)
      have h4 : (tm_tell τ (τ.2.1 1 i) h g (tm_why τ (τ.2.1 1 i) h g)).2.2.2 4 = τ.2.2.2 4 + 1 := rfl
      have hI2 := tm_tell_I hI (τ.2.1 1 i) h g (tm_why τ (τ.2.1 1 i) h g) (by omega)
      split
      · exact ⟨hI2, hs, by rw [h4]; omega⟩
      · have ih := tm_fg_k (k := k) (h := h) (g := g) n (i + 1) hI2 (by rw [h4, hs.2.1 0 (by omega), hs.2.1 1 (by omega)]; omega)
        rw [h4, hs.2.1 0 (by omega), hs.2.1 1 (by omega)] at ih
        exact ⟨ih.1, hs.tr ih.2.1, by omega⟩
    · rename_i hk
      rw [if_neg hk] at hn
      have ih := tm_fg_k (k := k) (h := h) (g := g) n (i + 1) hI (by omega)
      exact ⟨ih.1, ih.2.1, by omega⟩
theorem tm_fg_lt {k h g : Nat} : ∀ (n i : Nat) {τ : tcS} {t : Nat}, (∀ i, i < τ.2.2.2 1 → τ.2.1 1 i < τ.2.2.2 1) → i + n ≤ τ.2.2.2 1 → (tm_fg k h g n i τ).1 = some t → t < τ.2.2.2 1
  | 0, _, _, _, _, _, h => by simp [tm_fg] at h
  | n + 1, i, τ, t, hO, hn, h => by
    have h1 := hO i (by omega)
    unfold tm_fg at h
    split at h
    · split at h
      · simp at h
        omega
      · have hs := fun h g w => tm_tell_sr τ (τ.2.1 1 i) h g w
        have := tm_fg_lt n (i + 1) (by rw [(hs _ _ _).2.1 1 (by omega), (hs _ _ _).2.2.2 1 (by omega)]; exact hO) (by rw [(hs _ _ _).2.2.2 1 (by omega)]; omega) h
        rw [(hs _ _ _).2.2.2 1 (by omega)] at this
        exact this
    · exact tm_fg_lt n (i + 1) hO (by omega) h

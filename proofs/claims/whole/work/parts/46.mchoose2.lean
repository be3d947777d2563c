set_option maxHeartbeats 4000000 in
set_option maxRecDepth 100000 in
theorem ml_look_3 {k h g : Nat} (hk : k < 8) {K : tcK} : ∀ (n : Nat) (i : Nat) (ρ : tcS), tm_I ρ → h < ρ.2.2.2 0 → g < ρ.2.2.2 0 → i + n = ρ.2.2.2 1 → ρ.2.2.2 4 + tm_cn (ρ.2.1 0) (ρ.2.1 1) k n i ≤ 200 → K.2.1 = some (.inl (tc_oI (tm_fg k h g n i ρ).1)) → K.2.2.1 = tm_h (tm_fg k h g n i ρ).2 → tc_V (cMO_look, 7, yMO_look.cls, some .int, 5, yMO_look.name) K 0 0 (tm_h ρ) 3 [some (.inr (some 0)), some (.inl (nI k)), some (.inl (nI h)), some (.inl (nI g)), some (.inl (nI i)), none, none] [] := by
  intro n
  induction n with
  | zero =>
    intro i ρ hI hh0 hg0 hi hR hr hh
    obtain ⟨iP, iT, iN, iA, iR, iK, iO, iQ, iF, iB, iW⟩ := id hI
    refine tv_iload dMO_look_3 rfl ?_
    refine tv_aload_n dMO_look_5 rfl rfl ?_
    refine gMO_75 rfl dMO_look_6 ?_
    refine tv_icmp_ge (tgt := 69) dMO_look_9 (by decide) (fun c9 => ?_) (fun c9 => absurd (nI_le (by omega) (by omega)) c9)
    refine tv_iconst (v := -1) dMO_look_69 (by decide) ?_
    exact tv_iret dMO_look_70 rfl rfl hr hh
  | succ n ih =>
    intro i ρ hI hh0 hg0 hi hR hr hh
    obtain ⟨iP, iT, iN, iA, iR, iK, iO, iQ, iF, iB, iW⟩ := id hI
    have hO := iO i (by omega)
    unfold tm_cn at hR
    refine tv_iload dMO_look_3 rfl ?_
    refine tv_aload_n dMO_look_5 rfl rfl ?_
    refine gMO_75 rfl dMO_look_6 ?_
    refine tv_icmp_ge (tgt := 69) dMO_look_9 (by decide) (fun c9 => absurd c9 (nI_ge (by omega) (by omega))) (fun c9 => ?_)
    refine tv_aload_n dMO_look_12 rfl rfl ?_
    refine gMO_25 rfl dMO_look_13 ?_
    refine tv_iload dMO_look_16 rfl ?_
    refine ldM_6 dMO_look_18 (by omega) ?_
    refine tv_ist_5 dMO_look_19 (by decide) ?_
    refine tv_aload_n dMO_look_21 rfl rfl ?_
    refine gMO_13 rfl dMO_look_22 ?_
    refine tv_iload dMO_look_25 rfl ?_
    refine ldM_2 dMO_look_27 (by omega) ?_
    refine tv_iload_n dMO_look_28 rfl rfl ?_
    refine tv_icmp_eq (tgt := 35) dMO_look_29 (by decide) (fun c29 => ?_) (fun c29 => ?_)
    · have d29 : ρ.2.1 0 (ρ.2.1 1 i) = k := (nI_eq (by have := iK _ hO; omega) (by omega)).mp c29
      rw [if_pos d29] at hR
      refine tv_aload_n dMO_look_35 rfl rfl ?_
      refine tv_iload dMO_look_36 rfl ?_
      refine tv_iload_n dMO_look_38 rfl rfl ?_
      refine tv_iload_n dMO_look_39 rfl rfl ?_
      refine tv_callV3r kMO_127 (by decide) (Nat.le_of_ble_eq_true rfl) ⟨rfl, rfl⟩ rfl (mm_why ρ hI hO hh0 hg0) ⟨Nat.zero_le _, Nat.zero_le _⟩ dMO_look_40 ?_
      refine tv_ist_6 dMO_look_43 (by decide) ?_
      refine tv_aload_n dMO_look_45 rfl rfl ?_
      refine tv_iload dMO_look_46 rfl ?_
      refine tv_iload_n dMO_look_48 rfl rfl ?_
      refine tv_iload_n dMO_look_49 rfl rfl ?_
      refine tv_iload dMO_look_50 rfl ?_
      refine tv_callV4v kMO_131 (by decide) (Nat.le_of_ble_eq_true rfl) ⟨rfl, rfl⟩ rfl (mm_tell ρ hI hO hh0 hg0 _ (tm_why_lt _ _ _ _) (by omega)) ⟨Nat.zero_le _, Nat.zero_le _⟩ dMO_look_52 ?_
      refine tv_iload dMO_look_55 rfl ?_
      refine tv_if_ne (tgt := 63) dMO_look_57 (by decide) (fun c57 => ?_) (fun c57 => ?_)
      · have d66 : ¬ tm_why ρ (ρ.2.1 1 i) h g = 0 := fun q => c57 (by rw [q]; rfl)
        have e29 : tm_fg k h g (n + 1) i ρ = tm_fg k h g n (i + 1) (tm_tell ρ (ρ.2.1 1 i) h g (tm_why ρ (ρ.2.1 1 i) h g)) := by rw [tm_fg, if_pos d29, if_neg d66]
        have hs := tm_tell_sr ρ (ρ.2.1 1 i) h g (tm_why ρ (ρ.2.1 1 i) h g)
        have h4 : (tm_tell ρ (ρ.2.1 1 i) h g (tm_why ρ (ρ.2.1 1 i) h g)).2.2.2 4 = ρ.2.2.2 4 + 1 := rfl
        have h9 := ih (i + 1) (tm_tell ρ (ρ.2.1 1 i) h g (tm_why ρ (ρ.2.1 1 i) h g)) (tm_tell_I hI _ _ _ _ (by omega)) (by rw [hs.2.2.2 0 (by omega)]; exact hh0) (by rw [hs.2.2.2 0 (by omega)]; exact hg0) (by rw [hs.2.2.2 1 (by omega)]; omega) (by rw [h4, hs.2.1 0 (by omega), hs.2.1 1 (by omega)]; omega) (by rw [hr, e29]) (by rw [hh, e29])
        refine tv_iinc_4 dMO_look_63 (by decide) (nI_1 i) ?_
        refine tv_goto (tgt := 3) dMO_look_66 (by decide) ?_
        refine tv_fg_5 ?_
        refine tv_fg_6 ?_
        exact h9
      · have d66 : tm_why ρ (ρ.2.1 1 i) h g = 0 := (nI_eq (by have := tm_why_lt ρ (ρ.2.1 1 i) h g; omega) (by omega)).mp c57
        have e29 : tm_fg k h g (n + 1) i ρ = (some (ρ.2.1 1 i), tm_tell ρ (ρ.2.1 1 i) h g (tm_why ρ (ρ.2.1 1 i) h g)) := by rw [tm_fg, if_pos d29, if_pos d66]
        refine tv_iload dMO_look_60 rfl ?_
        exact tv_iret dMO_look_62 rfl rfl (by rw [hr, e29]; rfl) (by rw [hh, e29])
    · have d29 : ¬ ρ.2.1 0 (ρ.2.1 1 i) = k := fun q => c29 (by rw [q])
      rw [if_neg d29] at hR
      have e29 : tm_fg k h g (n + 1) i ρ = tm_fg k h g n (i + 1) ρ := by rw [tm_fg, if_neg d29]
      have h9 := ih (i + 1) ρ hI hh0 hg0 (by omega) (by omega) (by rw [hr, e29]) (by rw [hh, e29])
      refine tv_goto (tgt := 63) dMO_look_32 (by decide) ?_
      refine tv_iinc_4 dMO_look_63 (by decide) (nI_1 i) ?_
      refine tv_goto (tgt := 3) dMO_look_66 (by decide) ?_
      refine tv_fg_5 ?_
      refine tv_fg_6 ?_
      exact h9
set_option maxHeartbeats 4000000 in
set_option maxRecDepth 100000 in
theorem mm_look (τ : tcS) (hI : tm_I τ) {k h g : Nat} (hk : k < 8) (hh0 : h < τ.2.2.2 0) (hg0 : g < τ.2.2.2 0) (hR : τ.2.2.2 4 + tm_cn (τ.2.1 0) (τ.2.1 1) k (τ.2.2.2 1) 0 ≤ 200) : tc_M yMO_look cMO_look 7 (some .int) 5 [.inr (some 0), .inl (nI k), .inl (nI h), .inl (nI g)] (tm_h τ, some (.inl (tc_oI (tm_fg k h g (τ.2.2.2 1) 0 τ).1)), tm_h (tm_fg k h g (τ.2.2.2 1) 0 τ).2, 0, 0) := by
  refine tc_met (by decide) (Nat.le_of_ble_eq_true rfl) (Nat.le_of_eq tm_len) rfl ?_
  refine tv_iconst (v := 0) dMO_look_0 (by decide) ?_
  refine tv_ist_4 dMO_look_1 (by decide) ?_
  exact ml_look_3 hk (τ.2.2.2 1) 0 τ hI hh0 hg0 (by omega) hR rfl rfl
def tm_c1 (j : Nat) (ρ : tcS) : tcS := tc_s3 ρ 1 (va_up (ρ.2.2.1 1) j none)
def tm_t0 (τ : tcS) : tcS := tc_up tm_c1 8 0 τ
def tm_ts (h g k : Nat) (τ : tcS) : tcS := tc_s3 (tm_fg k h g (τ.2.2.2 1) 0 τ).2 1 (va_up ((tm_fg k h g (τ.2.2.2 1) 0 τ).2.2.2.1 1) k (tm_fg k h g (τ.2.2.2 1) 0 τ).1)
def tm_tt (h g : Nat) : Nat → Nat → tcS → Bool × tcS
  | 0, _, τ => (true, τ)
  | n + 1, i, τ =>
    if (tm_fg (τ.2.1 2 i) h g (τ.2.2.2 1) 0 τ).1 = none ∧ ¬ τ.1 11 (τ.2.1 2 i) = 0 then (false, tm_ts h g (τ.2.1 2 i) τ)
    else tm_tt h g n (i + 1) (tm_ts h g (τ.2.1 2 i) τ)
def tm_take (h g : Nat) (τ : tcS) : Bool × tcS := tm_tt h g (τ.2.2.2 3) 0 (tm_t0 τ)
def tm_ch (g : Nat) : Nat → Nat → tcS → Option Nat × tcS
  | 0, _, τ => (none, tm_t0 τ)
  | n + 1, h, τ => if (tm_take h g τ).1 = true then (some h, (tm_take h g τ).2) else tm_ch g n (h + 1) (tm_take h g τ).2
def tm_choose (g : Nat) (τ : tcS) : Option Nat × tcS := tm_ch g (τ.2.2.2 0) 0 (tm_build (tc_s4 τ 4 0))
/-- how many rows n asked kinds from i on may want -/
def tm_sm (τ : tcS) : Nat → Nat → Nat
  | 0, _ => 0
  | n + 1, i => tm_cn (τ.2.1 0) (τ.2.1 1) (τ.2.1 2 i) (τ.2.2.2 1) 0 + tm_sm τ n (i + 1)
/-- what choosing leaves as it was -/
def tm_sc (τ ρ : tcS) : Prop := ρ.1 = τ.1 ∧ (∀ k, k < 5 → ρ.2.1 k = τ.2.1 k) ∧ (∀ k, k ≠ 2 → k ≠ 1 → ρ.2.2.1 k = τ.2.2.1 k) ∧ (∀ k, k < 4 → ρ.2.2.2 k = τ.2.2.2 k)
theorem tm_sc.rf {τ : tcS} : tm_sc τ τ := ⟨rfl, fun _ _ => rfl, fun _ _ _ => rfl, fun _ _ => rfl⟩
theorem tm_sc.tr {τ ρ κ : tcS} (h : tm_sc τ ρ) (k : tm_sc ρ κ) : tm_sc τ κ := ⟨k.1.trans h.1, fun j hj => (k.2.1 j hj).trans (h.2.1 j hj), fun j hj hj2 => (k.2.2.1 j hj hj2).trans (h.2.2.1 j hj hj2), fun j hj => (k.2.2.2 j hj).trans (h.2.2.2 j hj)⟩
theorem tm_sm_cg {τ ρ : tcS} (h : tm_sc τ ρ) : ∀ n i, tm_sm ρ n i = tm_sm τ n i
  | 0, _ => rfl
  | n + 1, i => by
    unfold tm_sm
    rw [tm_sm_cg h n (i + 1), h.2.1 0 (by omega), h.2.1 1 (by omega), h.2.1 2 (by omega), h.2.2.2 1 (by omega)]
theorem tm_c1_sc (j : Nat) (ρ : tcS) : tm_sc ρ (tm_c1 j ρ) := ⟨rfl, fun _ _ => rfl, fun k _ h1 => by
  show va_up ρ.2.2.1 1 _ k = _
  simp [va_up, h1], fun _ _ => rfl⟩
theorem tm_t0_k (τ : tcS) : tm_sc τ (tm_t0 τ) ∧ (tm_t0 τ).2.2.2 4 = τ.2.2.2 4 := by
  have h := tc_up_rel (R := fun (a b : tcS) => tm_sc a b ∧ b.2.2.2 4 = a.2.2.2 4) (fun _ => ⟨tm_sc.rf, rfl⟩) (fun _ _ _ h k => ⟨h.1.tr k.1, k.2.trans h.2⟩) (f := tm_c1) (fun j a => ⟨tm_c1_sc j a, rfl⟩) 8 0 τ
  exact h
theorem tm_sc.I {τ ρ : tcS} (h : tm_sc τ ρ) (hI : tm_I τ) (h4 : ρ.2.2.2 4 ≤ 200) : tm_I ρ := by
  obtain ⟨iP, iT, iN, iA, iR, iK, iO, iQ, iF, iB, iW⟩ := hI
  unfold tm_I
  rw [h.1, h.2.1 0 (by omega), h.2.1 1 (by omega), h.2.1 2 (by omega), h.2.1 3 (by omega), h.2.1 4 (by omega), h.2.2.1 0 (by omega) (by omega), h.2.2.2 0 (by omega), h.2.2.2 1 (by omega), h.2.2.2 2 (by omega), h.2.2.2 3 (by omega)]
  exact ⟨iP, iT, iN, iA, h4, iK, iO, iQ, iF, iB, iW⟩
theorem tm_ts_k {h g k : Nat} {τ : tcS} (hI : tm_I τ) (hR : τ.2.2.2 4 + tm_cn (τ.2.1 0) (τ.2.1 1) k (τ.2.2.2 1) 0 ≤ 200) : tm_sc τ (tm_ts h g k τ) ∧ (tm_ts h g k τ).2.2.2 4 ≤ τ.2.2.2 4 + tm_cn (τ.2.1 0) (τ.2.1 1) k (τ.2.2.2 1) 0 := by
  obtain ⟨h1, h2, h3⟩ := tm_fg_k (k := k) (h := h) (g := g) (τ.2.2.2 1) 0 hI hR
  refine ⟨⟨h2.1, h2.2.1, fun j a b => ?_, h2.2.2.2⟩, h3⟩
  show va_up (tm_fg k h g (τ.2.2.2 1) 0 τ).2.2.2.1 1 _ j = _
  rw [show va_up (tm_fg k h g (τ.2.2.2 1) 0 τ).2.2.2.1 1 _ j = (tm_fg k h g (τ.2.2.2 1) 0 τ).2.2.2.1 j by simp [va_up, b]]
  exact h2.2.2.1 j a
theorem tm_tt_k {h g : Nat} : ∀ (n i : Nat) {τ : tcS}, tm_I τ → τ.2.2.2 4 + tm_sm τ n i ≤ 200 → tm_sc τ (tm_tt h g n i τ).2 ∧ (tm_tt h g n i τ).2.2.2.2 4 ≤ τ.2.2.2 4 + tm_sm τ n i
  | 0, _, _, _, _ => ⟨tm_sc.rf, Nat.le_add_right _ _⟩
  | n + 1, i, τ, hI, hR => by
    unfold tm_sm at hR ⊢
    have hk := tm_ts_k (h := h) (g := g) (k := τ.2.1 2 i) hI (by omega)
    unfold tm_tt
    split
    · exact ⟨hk.1, Nat.le_trans hk.2 (by omega)⟩
    · have ih := tm_tt_k (h := h) (g := g) n (i + 1) (hk.1.I hI (by omega)) (by rw [tm_sm_cg hk.1]; omega)
      rw [tm_sm_cg hk.1] at ih
      exact ⟨hk.1.tr ih.1, by omega⟩
theorem tm_take_k {h g : Nat} {τ : tcS} (hI : tm_I τ) (hR : τ.2.2.2 4 + tm_sm τ (τ.2.2.2 3) 0 ≤ 200) : tm_sc τ (tm_take h g τ).2 ∧ (tm_take h g τ).2.2.2.2 4 ≤ τ.2.2.2 4 + tm_sm τ (τ.2.2.2 3) 0 := by
  have h0 := tm_t0_k τ
  have h1 := tm_tt_k (h := h) (g := g) (τ.2.2.2 3) 0 (h0.1.I hI (by rw [h0.2]; omega)) (by rw [tm_sm_cg h0.1, h0.2]; exact hR)
  rw [tm_sm_cg h0.1, h0.2] at h1
  exact ⟨h0.1.tr h1.1, h1.2⟩
set_option maxHeartbeats 4000000 in
set_option maxRecDepth 100000 in
theorem ml_tryOn_2 {x1 x2 : Option tcV} {K : tcK} : ∀ (n : Nat) (j : Nat) (ρ : tcS), j + n = 8 → tc_V (cMO_tryOn, 5, yMO_tryOn.cls, some .boolean, 6, yMO_tryOn.name) K 0 0 (tm_h (tc_up tm_c1 n j ρ)) 21 [some (.inr (some 0)), x1, x2, none, none] [] → tc_V (cMO_tryOn, 5, yMO_tryOn.cls, some .boolean, 6, yMO_tryOn.name) K 0 0 (tm_h ρ) 2 [some (.inr (some 0)), x1, x2, some (.inl (nI j)), none] [] := by
  intro n
  induction n with
  | zero =>
    intro j ρ hj hx
    refine tv_iload_n dMO_tryOn_2 rfl rfl ?_
    refine tv_bipush (v := 8) dMO_tryOn_3 (by decide) ?_
    refine tv_icmp_ge (tgt := 21) dMO_tryOn_5 (by decide) (fun c5 => ?_) (fun c5 => absurd (nI_le (a := 8) (b := j) (by omega) (by omega)) c5)
    refine tv_fg_3 ?_
    exact hx
  | succ n ih =>
    intro j ρ hj hx
    refine tv_iload_n dMO_tryOn_2 rfl rfl ?_
    refine tv_bipush (v := 8) dMO_tryOn_3 (by decide) ?_
    refine tv_icmp_ge (tgt := 21) dMO_tryOn_5 (by decide) (fun c5 => absurd c5 (nI_ge (a := j) (b := 8) (by omega) (by omega))) (fun c5 => ?_)
    refine tv_aload_n dMO_tryOn_8 rfl rfl ?_
    refine gMO_43 rfl dMO_tryOn_9 ?_
    refine tv_iload_n dMO_tryOn_12 rfl rfl ?_
    refine tv_iconst (v := -1) dMO_tryOn_13 (by decide) ?_
    refine stM_12 none dMO_tryOn_14 (by omega) ?_
    refine tv_iinc_3 dMO_tryOn_15 (by decide) (nI_1 j) ?_
    refine tv_goto (tgt := 2) dMO_tryOn_18 (by decide) ?_
    exact ih (j + 1) (tm_c1 j ρ) (by omega) hx
set_option maxHeartbeats 4000000 in
set_option maxRecDepth 100000 in
theorem ml_tryOn_23 {h g : Nat} {K : tcK} : ∀ (n : Nat) (i : Nat) (ρ : tcS), tm_I ρ → h < ρ.2.2.2 0 → g < ρ.2.2.2 0 → i + n = ρ.2.2.2 3 → ρ.2.2.2 4 + tm_sm ρ n i ≤ 200 → K.2.1 = some (.inl (tc_b2 (tm_tt h g n i ρ).1)) → K.2.2.1 = tm_h (tm_tt h g n i ρ).2 → tc_V (cMO_tryOn, 5, yMO_tryOn.cls, some .boolean, 6, yMO_tryOn.name) K 0 0 (tm_h ρ) 23 [some (.inr (some 0)), some (.inl (nI h)), some (.inl (nI g)), some (.inl (nI i)), none] [] := by
  intro n
  induction n with
  | zero =>
    intro i ρ hI hh0 hg0 hi hR hr hh
    obtain ⟨iP, iT, iN, iA, iR, iK, iO, iQ, iF, iB, iW⟩ := id hI
    refine tv_iload_n dMO_tryOn_23 rfl rfl ?_
    refine tv_aload_n dMO_tryOn_24 rfl rfl ?_
    refine gMO_92 rfl dMO_tryOn_25 ?_
    refine tv_icmp_ge (tgt := 83) dMO_tryOn_28 (by decide) (fun c28 => ?_) (fun c28 => absurd (nI_le (by omega) (by omega)) c28)
    refine tv_iconst (v := 1) dMO_tryOn_83 (by decide) ?_
    exact tv_iret dMO_tryOn_84 rfl rfl hr hh
  | succ n ih =>
    intro i ρ hI hh0 hg0 hi hR hr hh
    obtain ⟨iP, iT, iN, iA, iR, iK, iO, iQ, iF, iB, iW⟩ := id hI
    have hk := iQ i (by omega)
    unfold tm_sm at hR
    have hb : ∀ a, (tm_fg (ρ.2.1 2 i) h g (ρ.2.2.2 1) 0 ρ).1 = some a → a < 2 ^ 31 := fun a q => by have := tm_fg_lt (ρ.2.2.2 1) 0 iO (by omega) q; omega
    have hts := tm_ts_k (h := h) (g := g) (k := ρ.2.1 2 i) hI (by omega)
    refine tv_iload_n dMO_tryOn_23 rfl rfl ?_
    refine tv_aload_n dMO_tryOn_24 rfl rfl ?_
    refine gMO_92 rfl dMO_tryOn_25 ?_
    refine tv_icmp_ge (tgt := 83) dMO_tryOn_28 (by decide) (fun c28 => absurd c28 (nI_ge (by omega) (by omega))) (fun c28 => ?_)
    refine tv_aload_n dMO_tryOn_31 rfl rfl ?_
    refine gMO_34 rfl dMO_tryOn_32 ?_
    refine tv_iload_n dMO_tryOn_35 rfl rfl ?_
    refine ldM_9 dMO_tryOn_36 (by omega) ?_
    refine tv_ist_4 dMO_tryOn_37 (by decide) ?_
    refine tv_aload_n dMO_tryOn_39 rfl rfl ?_
    refine gMO_43 rfl dMO_tryOn_40 ?_
    refine tv_iload dMO_tryOn_43 rfl ?_
    refine tv_aload_n dMO_tryOn_45 rfl rfl ?_
    refine tv_iload dMO_tryOn_46 rfl ?_
    refine tv_iload_n dMO_tryOn_48 rfl rfl ?_
    refine tv_iload_n dMO_tryOn_49 rfl rfl ?_
    refine tv_callV3r kMO_135 (by decide) (Nat.le_of_ble_eq_true rfl) ⟨rfl, rfl⟩ rfl (mm_look ρ hI hk hh0 hg0 (by omega)) ⟨Nat.zero_le _, Nat.zero_le _⟩ dMO_tryOn_50 ?_
    refine stM_12 (tm_fg (ρ.2.1 2 i) h g (ρ.2.2.2 1) 0 ρ).1 dMO_tryOn_53 hk ?_
    refine tv_eq (h' := tm_h (tm_ts h g (ρ.2.1 2 i) ρ)) ?_ rfl rfl rfl
    refine tv_aload_n dMO_tryOn_54 rfl rfl ?_
    refine gMO_43 rfl dMO_tryOn_55 ?_
    refine tv_iload dMO_tryOn_58 rfl ?_
    refine ldM_12 dMO_tryOn_60 hk ?_
    refine tv_top (b := .inl (tc_oI (tm_fg (ρ.2.1 2 i) h g (ρ.2.2.2 1) 0 ρ).1)) (by simp [tm_ts, tc_s3, va_up]) ?_
    refine tv_iconst (v := -1) dMO_tryOn_61 (by decide) ?_
    refine tv_icmp_ne (tgt := 77) dMO_tryOn_62 (by decide) (fun c62 => ?_) (fun c62 => ?_)
    · have d71 : ¬ ((tm_fg (ρ.2.1 2 i) h g (ρ.2.2.2 1) 0 ρ).1 = none ∧ ¬ ρ.1 11 (ρ.2.1 2 i) = 0) := fun q => c62 ((tc_oI_m1 hb).mpr q.1)
      refine tv_iinc_3 dMO_tryOn_77 (by decide) (nI_1 i) ?_
      refine tv_goto (tgt := 23) dMO_tryOn_80 (by decide) ?_
      have e71 : tm_tt h g (n + 1) i ρ = tm_tt h g n (i + 1) (tm_ts h g (ρ.2.1 2 i) ρ) := by rw [tm_tt, if_neg d71]
      have h9 := ih (i + 1) (tm_ts h g (ρ.2.1 2 i) ρ) (hts.1.I hI (by omega)) (by rw [hts.1.2.2.2 0 (by omega)]; exact hh0) (by rw [hts.1.2.2.2 0 (by omega)]; exact hg0) (by rw [hts.1.2.2.2 3 (by omega)]; omega) (by rw [tm_sm_cg hts.1]; omega) (by rw [hr, e71]) (by rw [hh, e71])
      refine tv_fg_4 ?_
      exact h9
    · have d54 := (tc_oI_m1 hb).mp c62
      refine tv_aload_n dMO_tryOn_65 rfl rfl ?_
      refine gMO_46 rfl dMO_tryOn_66 ?_
      refine tv_iload dMO_tryOn_69 rfl ?_
      refine ldM_13 dMO_tryOn_71 hk ?_
      refine tv_top (b := .inl (ρ.1 11 (ρ.2.1 2 i))) (congrArg Sum.inl (by rw [hts.1.1])) ?_
      refine tv_if_eq (tgt := 77) dMO_tryOn_72 (by decide) (fun c72 => ?_) (fun c72 => ?_)
      · have d71 : ¬ ((tm_fg (ρ.2.1 2 i) h g (ρ.2.2.2 1) 0 ρ).1 = none ∧ ¬ ρ.1 11 (ρ.2.1 2 i) = 0) := fun q => q.2 c72
        refine tv_iinc_3 dMO_tryOn_77 (by decide) (nI_1 i) ?_
        refine tv_goto (tgt := 23) dMO_tryOn_80 (by decide) ?_
        have e71 : tm_tt h g (n + 1) i ρ = tm_tt h g n (i + 1) (tm_ts h g (ρ.2.1 2 i) ρ) := by rw [tm_tt, if_neg d71]
        have h9 := ih (i + 1) (tm_ts h g (ρ.2.1 2 i) ρ) (hts.1.I hI (by omega)) (by rw [hts.1.2.2.2 0 (by omega)]; exact hh0) (by rw [hts.1.2.2.2 0 (by omega)]; exact hg0) (by rw [hts.1.2.2.2 3 (by omega)]; omega) (by rw [tm_sm_cg hts.1]; omega) (by rw [hr, e71]) (by rw [hh, e71])
        refine tv_fg_4 ?_
        exact h9
      · have e69 : tm_tt h g (n + 1) i ρ = (false, tm_ts h g (ρ.2.1 2 i) ρ) := by rw [tm_tt, if_pos ⟨d54, c72⟩]
        refine tv_iconst (v := 0) dMO_tryOn_75 (by decide) ?_
        exact tv_iret dMO_tryOn_76 rfl rfl (by rw [hr, e69]; rfl) (by rw [hh, e69])
set_option maxHeartbeats 4000000 in
set_option maxRecDepth 100000 in
theorem mm_tryOn (τ : tcS) (hI : tm_I τ) {h g : Nat} (hh0 : h < τ.2.2.2 0) (hg0 : g < τ.2.2.2 0) (hR : τ.2.2.2 4 + tm_sm τ (τ.2.2.2 3) 0 ≤ 200) : tc_M yMO_tryOn cMO_tryOn 5 (some .boolean) 6 [.inr (some 0), .inl (nI h), .inl (nI g)] (tm_h τ, some (.inl (tc_b2 (tm_take h g τ).1)), tm_h (tm_take h g τ).2, 0, 0) := by
  refine tc_met (by decide) (Nat.le_of_ble_eq_true rfl) (Nat.le_of_eq tm_len) rfl ?_
  refine tv_iconst (v := 0) dMO_tryOn_0 (by decide) ?_
  refine tv_istN_3 dMO_tryOn_1 (by decide) ?_
  have h0 := tm_t0_k τ
  refine ml_tryOn_2 8 0 τ rfl ?_
  refine tv_iconst (v := 0) dMO_tryOn_21 (by decide) ?_
  refine tv_istN_3 dMO_tryOn_22 (by decide) ?_
  exact ml_tryOn_23 (τ.2.2.2 3) 0 (tm_t0 τ) (h0.1.I hI (by rw [h0.2]; omega)) (by rw [h0.1.2.2.2 0 (by omega)]; exact hh0) (by rw [h0.1.2.2.2 0 (by omega)]; exact hg0) (by rw [h0.1.2.2.2 3 (by omega)]; omega) (by rw [tm_sm_cg h0.1, h0.2]; exact hR) rfl rfl
set_option maxHeartbeats 4000000 in
set_option maxRecDepth 100000 in
theorem ml_choose_53 {x1 : Option tcV} {K : tcK} : ∀ (n : Nat) (j : Nat) (ρ : tcS), j + n = 8 → K.2.1 = some (.inl (-1)) → K.2.2.1 = tm_h (tc_up tm_c1 n j ρ) → tc_V (cMO_choose, 3, yMO_choose.cls, some .int, 7, yMO_choose.name) K 0 0 (tm_h ρ) 53 [some (.inr (some 0)), x1, some (.inl (nI j))] [] := by
  intro n
  induction n with
  | zero =>
    intro j ρ hj hr hh
    refine tv_iload_n dMO_choose_53 rfl rfl ?_
    refine tv_bipush (v := 8) dMO_choose_54 (by decide) ?_
    refine tv_icmp_ge (tgt := 72) dMO_choose_56 (by decide) (fun c56 => ?_) (fun c56 => absurd (nI_le (a := 8) (b := j) (by omega) (by omega)) c56)
    refine tv_iconst (v := -1) dMO_choose_72 (by decide) ?_
    exact tv_iret dMO_choose_73 rfl rfl hr hh
  | succ n ih =>
    intro j ρ hj hr hh
    refine tv_iload_n dMO_choose_53 rfl rfl ?_
    refine tv_bipush (v := 8) dMO_choose_54 (by decide) ?_
    refine tv_icmp_ge (tgt := 72) dMO_choose_56 (by decide) (fun c56 => absurd c56 (nI_ge (a := j) (b := 8) (by omega) (by omega))) (fun c56 => ?_)
    refine tv_aload_n dMO_choose_59 rfl rfl ?_
    refine gMO_43 rfl dMO_choose_60 ?_
    refine tv_iload_n dMO_choose_63 rfl rfl ?_
    refine tv_iconst (v := -1) dMO_choose_64 (by decide) ?_
    refine stM_12 none dMO_choose_65 (by omega) ?_
    refine tv_iinc_2 dMO_choose_66 (by decide) (nI_1 j) ?_
    refine tv_goto (tgt := 53) dMO_choose_69 (by decide) ?_
    exact ih (j + 1) (tm_c1 j ρ) (by omega) hr hh
set_option maxHeartbeats 4000000 in
set_option maxRecDepth 100000 in
theorem ml_choose_26 {g : Nat} {K : tcK} : ∀ (n : Nat) (h : Nat) (ρ : tcS), tm_I ρ → g < ρ.2.2.2 0 → h + n = ρ.2.2.2 0 → ρ.2.2.2 4 + n * tm_sm ρ (ρ.2.2.2 3) 0 ≤ 200 → K.2.1 = some (.inl (tc_oI (tm_ch g n h ρ).1)) → K.2.2.1 = tm_h (tm_ch g n h ρ).2 → tc_V (cMO_choose, 3, yMO_choose.cls, some .int, 7, yMO_choose.name) K 0 0 (tm_h ρ) 26 [some (.inr (some 0)), some (.inl (nI g)), some (.inl (nI h))] [] := by
  intro n
  induction n with
  | zero =>
    intro h ρ hI hg0 hh0 hR hr hh
    obtain ⟨iP, iT, iN, iA, iR, iK, iO, iQ, iF, iB, iW⟩ := id hI
    refine tv_iload_n dMO_choose_26 rfl rfl ?_
    refine tv_aload_n dMO_choose_27 rfl rfl ?_
    refine gMO_72 rfl dMO_choose_28 ?_
    refine tv_icmp_ge (tgt := 51) dMO_choose_31 (by decide) (fun c31 => ?_) (fun c31 => absurd (nI_le (by omega) (by omega)) c31)
    refine tv_iconst (v := 0) dMO_choose_51 (by decide) ?_
    refine tv_istN_2 dMO_choose_52 (by decide) ?_
    exact ml_choose_53 8 0 ρ rfl hr hh
  | succ n ih =>
    intro h ρ hI hg0 hh0 hR hr hh
    obtain ⟨iP, iT, iN, iA, iR, iK, iO, iQ, iF, iB, iW⟩ := id hI
    rw [Nat.succ_mul] at hR
    have hk := tm_take_k (h := h) (g := g) hI (by omega)
    refine tv_iload_n dMO_choose_26 rfl rfl ?_
    refine tv_aload_n dMO_choose_27 rfl rfl ?_
    refine gMO_72 rfl dMO_choose_28 ?_
    refine tv_icmp_ge (tgt := 51) dMO_choose_31 (by decide) (fun c31 => absurd c31 (nI_ge (by omega) (by omega))) (fun c31 => ?_)
    refine tv_aload_n dMO_choose_34 rfl rfl ?_
    refine tv_iload_n dMO_choose_35 rfl rfl ?_
    refine tv_iload_n dMO_choose_36 rfl rfl ?_
    refine tv_callV2r kMO_138 (by decide) (Nat.le_of_ble_eq_true rfl) ⟨rfl, rfl⟩ rfl (mm_tryOn ρ hI (by omega) hg0 (by omega)) ⟨Nat.zero_le _, Nat.zero_le _⟩ dMO_choose_37 ?_
    refine tv_if_eq (tgt := 45) dMO_choose_40 (by decide) (fun c40 => ?_) (fun c40 => ?_)
    · refine tv_iinc_2 dMO_choose_45 (by decide) (nI_1 h) ?_
      refine tv_goto (tgt := 26) dMO_choose_48 (by decide) ?_
      have e37 : tm_ch g (n + 1) h ρ = tm_ch g n (h + 1) (tm_take h g ρ).2 := by rw [tm_ch, if_neg (by rw [tc_b2_0.mp c40]; simp)]
      exact ih (h + 1) _ (hk.1.I hI (by omega)) (by rw [hk.1.2.2.2 0 (by omega)]; exact hg0) (by rw [hk.1.2.2.2 0 (by omega)]; omega) (by rw [hk.1.2.2.2 3 (by omega), tm_sm_cg hk.1]; omega) (by rw [hr, e37]) (by rw [hh, e37])
    · have e37 : tm_ch g (n + 1) h ρ = (some h, (tm_take h g ρ).2) := by rw [tm_ch, if_pos (tc_b2_n.mp c40)]
      refine tv_iload_n dMO_choose_43 rfl rfl ?_
      exact tv_iret dMO_choose_44 rfl rfl (by rw [hr, e37]; rfl) (by rw [hh, e37])
